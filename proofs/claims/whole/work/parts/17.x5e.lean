set_option maxRecDepth 100000 in
theorem hin_X5_fail_X5 : ∀ w ∈ u_ws RX5 TX5 11, w ∈ wsX5_fail := fun w h => List.mem_cons_of_mem _ (by exact List.mem_append_right _ h)
set_option maxRecDepth 100000 in
theorem hin_X5_isProgram_X5 : ∀ w ∈ u_ws RX5 TX5 11, w ∈ wsX5_isProgram := fun w h => List.mem_cons_of_mem _ (by exact List.mem_append_right _ h)
theorem hd_X5_isIn : yX5_isIn.cls = RX5 ∧ yX5_isIn.cls ≠ "java/lang/invoke/MethodHandle" ∧ yX5_isIn.cls ≠ "java/lang/invoke/VarHandle" ∧ (parseMethodDescriptor yX5_isIn.desc).map (fun d => d.parameters.length) = some 3 := by decide +kernel
theorem hd_X5_isProgram : yX5_isProgram.cls = RX5 ∧ yX5_isProgram.cls ≠ "java/lang/invoke/MethodHandle" ∧ yX5_isProgram.cls ≠ "java/lang/invoke/VarHandle" ∧ (parseMethodDescriptor yX5_isProgram.desc).map (fun d => d.parameters.length) = some 1 := by decide +kernel
set_option maxRecDepth 100000 in
theorem hin_X5_isLoop_X5 : ∀ w ∈ u_ws RX5 TX5 11, w ∈ wsX5_isLoop := fun w h => List.mem_cons_of_mem _ (by exact List.mem_append_right _ h)
set_option maxRecDepth 100000 in
theorem hin_X5_addProgram_X5 : ∀ w ∈ u_ws RX5 TX5 11, w ∈ wsX5_addProgram := fun w h => List.mem_cons_of_mem _ (by exact List.mem_append_right _ h)
theorem hd_X5_fail : yX5_fail.cls = RX5 ∧ yX5_fail.cls ≠ "java/lang/invoke/MethodHandle" ∧ yX5_fail.cls ≠ "java/lang/invoke/VarHandle" ∧ (parseMethodDescriptor yX5_fail.desc).map (fun d => d.parameters.length) = some 1 := by decide +kernel
set_option maxRecDepth 100000 in
theorem hin_X5_addLoop_X5 : ∀ w ∈ u_ws RX5 TX5 11, w ∈ wsX5_addLoop := fun w h => List.mem_cons_of_mem _ (by exact List.mem_append_right _ h)
set_option maxRecDepth 100000 in
theorem hin_X5_addStep_X5 : ∀ w ∈ u_ws RX5 TX5 11, w ∈ wsX5_addStep := fun w h => List.mem_cons_of_mem _ (by exact List.mem_append_right _ h)
theorem hd_X5_isLoop : yX5_isLoop.cls = RX5 ∧ yX5_isLoop.cls ≠ "java/lang/invoke/MethodHandle" ∧ yX5_isLoop.cls ≠ "java/lang/invoke/VarHandle" ∧ (parseMethodDescriptor yX5_isLoop.desc).map (fun d => d.parameters.length) = some 2 := by decide +kernel
set_option maxRecDepth 100000 in
theorem hin_X5_loop_X5 : ∀ w ∈ u_ws RX5 TX5 11, w ∈ wsX5_loop := fun w h => List.mem_cons_of_mem _ (by exact List.mem_append_right _ h)
set_option maxRecDepth 100000 in
theorem hin_X5_step_X5 : ∀ w ∈ u_ws RX5 TX5 11, w ∈ wsX5_step := fun w h => List.mem_cons_of_mem _ (by exact List.mem_append_right _ h)
set_option maxRecDepth 100000 in
theorem hin_X5_programs_X5 : ∀ w ∈ u_ws RX5 TX5 11, w ∈ wsX5_programs := fun w h => List.mem_cons_of_mem _ (by exact List.mem_append_right _ h)
set_option maxRecDepth 100000 in
theorem hin_X5_loops_X5 : ∀ w ∈ u_ws RX5 TX5 11, w ∈ wsX5_loops := fun w h => List.mem_cons_of_mem _ (by exact List.mem_append_right _ h)
set_option maxRecDepth 100000 in
theorem hin_X5_put_X5 : ∀ w ∈ u_ws RX5 TX5 11, w ∈ wsX5_put := fun w h => List.mem_cons_of_mem _ (by exact List.mem_append_right _ h)
set_option maxRecDepth 100000 in
theorem hin_X5_empty_X5 : ∀ w ∈ u_ws RX5 TX5 11, w ∈ wsX5_empty := fun w h => List.mem_cons_of_mem _ (by exact List.mem_append_right _ h)
set_option maxRecDepth 100000 in
theorem hin_X5_run_X5 : ∀ w ∈ u_ws RX5 TX5 11, w ∈ wsX5_run := fun w h => List.mem_cons_of_mem _ (by exact List.mem_append_right _ h)
theorem hd_X5_runOver : yX5_runOver.cls = RX5 ∧ yX5_runOver.cls ≠ "java/lang/invoke/MethodHandle" ∧ yX5_runOver.cls ≠ "java/lang/invoke/VarHandle" ∧ (parseMethodDescriptor yX5_runOver.desc).map (fun d => d.parameters.length) = some 3 := by decide +kernel
set_option maxRecDepth 100000 in
theorem hin_X5_ran_X5 : ∀ w ∈ u_ws RX5 TX5 11, w ∈ wsX5_ran := fun w h => List.mem_cons_of_mem _ (by exact List.mem_append_right _ h)
set_option maxHeartbeats 4000000 in
set_option maxRecDepth 100000 in
theorem c_X5_fail (l : Launch) (g : jG) (m0 : Nat) (th np : Int32) (tb md rw0 : Nat) (sz : Int32) (cs va : Nat) (lk : Int32) (rn kp : Nat) (v : Int32)  : jWi l yX5_fail wsX5_fail ({ frames := 0, cells := 0, slots := 0, locals := 0 }) g [.ref m0, .int v] [(m0, .inr (4, [.int th, .int np, .ref tb, .ref md, .ref rw0, .int sz, .ref cs, .ref va, .int lk, .ref rn, .ref kp]))] [(m0, .inr (4, [.int v, .int np, .ref tb, .ref md, .ref rw0, .int sz, .ref cs, .ref va, .int lk, .ref rn, .ref kp]))] 0 := by
  refine j_enterW (Qc := fun sz_ => va_Qi (fun r (_ : Unit) => r = 0) (fun _ t => va_P g.1 vwCl [(m0, .inr (4, [.int v, .int np, .ref tb, .ref md, .ref rw0, .int sz, .ref cs, .ref va, .int lk, .ref rn, .ref kp]))] t.heap) (va_A [(m0, .inr (4, [.int th, .int np, .ref tb, .ref md, .ref rw0, .int sz, .ref cs, .ref va, .int lk, .ref rn, .ref kp]))] sz_)) (cc := cX5_fail) (maxL := 2) (ret := (some .int)) (own := RX5) (L := [(0, .ref m0), (1, .int v)]) (by decide) rfl rfl (Nat.le_of_ble_eq_true rfl) rfl (fun p e s m args below meth c C hr => ?_)
  refine j_aload_n 0 C dX5_fail_0 rfl rfl ?_
  refine j_iload_n 1 C dX5_fail_1 rfl rfl ?_
  refine j_put (Cn := RX5) (T := TX5) (N := 11) (ws' := [(m0, .inr (4, [.int v, .int np, .ref tb, .ref md, .ref rw0, .int sz, .ref cs, .ref va, .int lk, .ref rn, .ref kp]))]) tyX5 0 0 C dX5_fail_2 hin_X5_fail_X5 tyX5_ok nmX5 rfl rfl (by decide) (List.mem_of_getElem? (i := 1) rfl) rfl (tyX5_ok 0 (by decide)) rfl rfl (Nat.le_of_ble_eq_true rfl) rfl ?_
  refine j_iconst (v := 0) C dX5_fail_5 rfl ?_
  exact j_iretW (v := 0) C hr dX5_fail_6 () rfl rfl
set_option maxHeartbeats 4000000 in
set_option maxRecDepth 100000 in
theorem c_X5_isProgram (l : Launch) (g : jG) (m0 : Nat) (th np : Int32) (tb md rw0 : Nat) (sz : Int32) (cs va : Nat) (lk : Int32) (rn kp : Nat) (x : Int32)  : jRi l yX5_isProgram wsX5_isProgram ({ frames := 1, cells := 0, slots := 0, locals := 25 }) g [.ref m0, .int x] [(m0, .inr (4, [.int th, .int np, .ref tb, .ref md, .ref rw0, .int sz, .ref cs, .ref va, .int lk, .ref rn, .ref kp]))] (jb (jBt x 0 (np - 1))) := by
  refine j_enterR (cc := cX5_isProgram) (maxL := 2) (ret := (some .boolean)) (own := RX5) (L := [(0, .ref m0), (1, .int x)]) (by decide) rfl rfl (Nat.le_of_ble_eq_true rfl) rfl (fun p e s m args below meth c C hr => ?_)
  refine j_iload_n 1 C dX5_isProgram_0 rfl rfl ?_
  refine j_i2l (v := x.toInt64) C dX5_isProgram_1 rfl ?_
  refine j_lconst (v := 0) C dX5_isProgram_2 rfl ?_
  refine j_aload_n 0 C dX5_isProgram_3 rfl rfl ?_
  refine j_get (Cn := RX5) (T := TX5) (N := 11) 0 1 C dX5_isProgram_4 hin_X5_isProgram_X5 rfl rfl (by decide) (List.mem_of_getElem? (i := 1) rfl) rfl ?_
  refine j_iconst (v := 1) C dX5_isProgram_7 rfl ?_
  refine j_isub (x := np) (y := 1) (v := np - 1) C dX5_isProgram_8 rfl ?_
  refine j_i2l (v := (np - 1).toInt64) C dX5_isProgram_9 rfl ?_
  refine j_callRi (v := jb (jIn x.toInt64 0 ((np - 1).toInt64))) (j_runS (As := [.long x.toInt64, .long 0, .long ((np - 1).toInt64)]) (rest := []) [] C (c_X5_isIn l g x.toInt64 0 ((np - 1).toInt64)) gX5_isProgram_X5_isIn rfl rfl rfl hd_X5_isIn ⟨Nat.le_of_ble_eq_true rfl, Nat.le_of_ble_eq_true rfl⟩ rfl rfl dX5_isProgram_10 rfl (Nat.le_of_ble_eq_true rfl) ⟨Nat.le_of_ble_eq_true rfl, Nat.le_of_ble_eq_true rfl⟩) ?_
  refine j_eq (pc' := 13) (L' := [(0, .ref m0), (1, .int x)]) (st' := [.int (jb (jBt x 0 (np - 1)))]) (ws' := [(m0, .inr (4, [.int th, .int np, .ref tb, .ref md, .ref rw0, .int sz, .ref cs, .ref va, .int lk, .ref rn, .ref kp]))]) ?_ rfl rfl (by rw [jIn_b x 0 (np - 1) _ _ (by decide) rfl]) rfl
  exact j_zretR (v := jb (jBt x 0 (np - 1))) C hr dX5_isProgram_13 (jb_n (jBt x 0 (np - 1))) rfl
set_option maxHeartbeats 4000000 in
set_option maxRecDepth 100000 in
theorem c_X5_isLoop (l : Launch) (g : jG) (m0 : Nat) (th : Int32) (N tb md rw0 : Nat) (sz : Int32) (cs va : Nat) (lk : Int32) (rn kp : Nat) (tr : Nat → Nat) (k n : Nat) (f : Nat → Int32) (y : Int32) (hk : k < N) (hN : N ≤ 10) : jRi l yX5_isLoop wsX5_isLoop ({ frames := 2, cells := 0, slots := 0, locals := 46 }) g [.ref m0, .int (nI k), .int y] [(m0, .inr (4, [.int th, .int (nI N), .ref tb, .ref md, .ref rw0, .int sz, .ref cs, .ref va, .int lk, .ref rn, .ref kp])), (tb, jaR g 10 (fun i => some (tr i))), (tr k, jaI g 253 (jrw n f))] (jb (jBt y 0 (nI n - 1))) := by
  refine j_enterR (cc := cX5_isLoop) (maxL := 3) (ret := (some .boolean)) (own := RX5) (L := [(0, .ref m0), (1, .int (nI k)), (2, .int y)]) (by decide) rfl rfl (Nat.le_of_ble_eq_true rfl) rfl (fun p e s m args below meth c C hr => ?_)
  refine j_aload_n 0 C dX5_isLoop_0 rfl rfl ?_
  refine j_iload_n 1 C dX5_isLoop_1 rfl rfl ?_
  refine j_callRi (v := jb (jBt (nI k) 0 ((nI N) - 1))) (j_runV (ci := 0) (As := [.int (nI k)]) (rest := []) [0] C (c_X5_isProgram l g m0 th (nI N) tb md rw0 sz cs va lk rn kp (nI k)) gX5_isLoop_X5_isProgram rfl rfl rfl hd_X5_isProgram ⟨Nat.le_of_ble_eq_true rfl, Nat.le_of_ble_eq_true rfl⟩ rfl rfl rfl rfl dX5_isLoop_2 rfl (Nat.le_of_ble_eq_true rfl) ⟨Nat.le_of_ble_eq_true rfl, Nat.le_of_ble_eq_true rfl⟩) ?_
  refine j_eq (pc' := 5) (L' := [(0, .ref m0), (1, .int (nI k)), (2, .int y)]) (st' := [.int (jb true)]) (ws' := [(m0, .inr (4, [.int th, .int (nI N), .ref tb, .ref md, .ref rw0, .int sz, .ref cs, .ref va, .int lk, .ref rn, .ref kp])), (tb, jaR g 10 (fun i => some (tr i))), (tr k, jaI g 253 (jrw n f))]) ?_ rfl rfl (by rw [jBt_n hk (by omega)]) rfl
  refine j_if_eq (tgt := 32) C dX5_isLoop_5 (by decide) (fun c_1 => ?_) (fun c_1 => ?_)
  · skip
    have c_1 : true = false := jb_0 c_1
    (first | exact absurd c_1 (by decide) | exact absurd c_1 (by omega) | simp_all)
  · skip
    have c_1 : true = true := jb_1 c_1
    refine j_iload_n 2 C dX5_isLoop_8 rfl rfl ?_
    refine j_i2l (v := y.toInt64) C dX5_isLoop_9 rfl ?_
    refine j_lconst (v := 0) C dX5_isLoop_10 rfl ?_
    refine j_aload_n 0 C dX5_isLoop_11 rfl rfl ?_
    refine j_get (Cn := RX5) (T := TX5) (N := 11) 0 2 C dX5_isLoop_12 hin_X5_isLoop_X5 rfl rfl (by decide) (List.mem_of_getElem? (i := 1) rfl) rfl ?_
    refine j_iload_n 1 C dX5_isLoop_15 rfl rfl ?_
    refine j_aldR (x := k) 1 C dX5_isLoop_16 rfl rfl (by omega) (by decide) ?_
    refine j_eq (pc' := 17) (L' := [(0, .ref m0), (1, .int (nI k)), (2, .int y)]) (st' := [.ref (tr k), .long 0, .long y.toInt64]) (ws' := [(m0, .inr (4, [.int th, .int (nI N), .ref tb, .ref md, .ref rw0, .int sz, .ref cs, .ref va, .int lk, .ref rn, .ref kp])), (tb, jaR g 10 (fun i => some (tr i))), (tr k, jaI g 253 (jrw n f))]) ?_ rfl rfl rfl rfl
    refine j_iconst (v := 0) C dX5_isLoop_17 rfl ?_
    refine j_ialdR0 2 C dX5_isLoop_18 rfl rfl ?_
    refine j_iconst (v := 1) C dX5_isLoop_19 rfl ?_
    refine j_isub (x := nI n) (y := 1) (v := nI n - 1) C dX5_isLoop_20 rfl ?_
    refine j_i2l (v := (nI n - 1).toInt64) C dX5_isLoop_21 rfl ?_
    refine j_callRi (v := jb (jIn y.toInt64 0 ((nI n - 1).toInt64))) (j_runS (As := [.long y.toInt64, .long 0, .long ((nI n - 1).toInt64)]) (rest := []) [] C (c_X5_isIn l g y.toInt64 0 ((nI n - 1).toInt64)) gX5_isLoop_X5_isIn rfl rfl rfl hd_X5_isIn ⟨Nat.le_of_ble_eq_true rfl, Nat.le_of_ble_eq_true rfl⟩ rfl rfl dX5_isLoop_22 rfl (Nat.le_of_ble_eq_true rfl) ⟨Nat.le_of_ble_eq_true rfl, Nat.le_of_ble_eq_true rfl⟩) ?_
    refine j_eq (pc' := 25) (L' := [(0, .ref m0), (1, .int (nI k)), (2, .int y)]) (st' := [.int (jb (jBt y 0 (nI n - 1)))]) (ws' := [(m0, .inr (4, [.int th, .int (nI N), .ref tb, .ref md, .ref rw0, .int sz, .ref cs, .ref va, .int lk, .ref rn, .ref kp])), (tb, jaR g 10 (fun i => some (tr i))), (tr k, jaI g 253 (jrw n f))]) ?_ rfl rfl (by rw [jIn_b y 0 (nI n - 1) _ _ (by decide) rfl]) rfl
    refine j_if_eq (tgt := 32) C dX5_isLoop_25 (by decide) (fun c_2 => ?_) (fun c_2 => ?_)
    · skip
      have c_2 : (jBt y 0 (nI n - 1)) = false := jb_0 c_2
      refine j_iconst (v := 0) C dX5_isLoop_32 rfl ?_
      exact j_zretR (v := 0) C hr dX5_isLoop_33 rfl (by simp_all [jb])
    · skip
      have c_2 : (jBt y 0 (nI n - 1)) = true := jb_1 c_2
      refine j_iconst (v := 1) C dX5_isLoop_28 rfl ?_
      refine j_goto (tgt := 33) C dX5_isLoop_29 (by decide) ?_
      exact j_zretR (v := 1) C hr dX5_isLoop_33 rfl (by simp_all [jb])
set_option maxHeartbeats 4000000 in
set_option maxRecDepth 100000 in
theorem c_X5_isLoop_p (l : Launch) (g : jG) (m0 : Nat) (th : Int32) (N tb md rw0 : Nat) (sz : Int32) (cs va : Nat) (lk : Int32) (rn kp : Nat) (x y : Int32) (hx : jBt x 0 (nI N - 1) = false) : jRi l yX5_isLoop wsX5_isLoop ({ frames := 2, cells := 0, slots := 0, locals := 46 }) g [.ref m0, .int x, .int y] [(m0, .inr (4, [.int th, .int (nI N), .ref tb, .ref md, .ref rw0, .int sz, .ref cs, .ref va, .int lk, .ref rn, .ref kp]))] (jb false) := by
  refine j_enterR (cc := cX5_isLoop) (maxL := 3) (ret := (some .boolean)) (own := RX5) (L := [(0, .ref m0), (1, .int x), (2, .int y)]) (by decide) rfl rfl (Nat.le_of_ble_eq_true rfl) rfl (fun p e s m args below meth c C hr => ?_)
  refine j_aload_n 0 C dX5_isLoop_0 rfl rfl ?_
  refine j_iload_n 1 C dX5_isLoop_1 rfl rfl ?_
  refine j_callRi (v := jb (jBt x 0 ((nI N) - 1))) (j_runV (ci := 0) (As := [.int x]) (rest := []) [0] C (c_X5_isProgram l g m0 th (nI N) tb md rw0 sz cs va lk rn kp x) gX5_isLoop_X5_isProgram rfl rfl rfl hd_X5_isProgram ⟨Nat.le_of_ble_eq_true rfl, Nat.le_of_ble_eq_true rfl⟩ rfl rfl rfl rfl dX5_isLoop_2 rfl (Nat.le_of_ble_eq_true rfl) ⟨Nat.le_of_ble_eq_true rfl, Nat.le_of_ble_eq_true rfl⟩) ?_
  refine j_eq (pc' := 5) (L' := [(0, .ref m0), (1, .int x), (2, .int y)]) (st' := [.int (jb false)]) (ws' := [(m0, .inr (4, [.int th, .int (nI N), .ref tb, .ref md, .ref rw0, .int sz, .ref cs, .ref va, .int lk, .ref rn, .ref kp]))]) ?_ rfl rfl (by rw [hx]) rfl
  refine j_if_eq (tgt := 32) C dX5_isLoop_5 (by decide) (fun c_1 => ?_) (fun c_1 => ?_)
  · skip
    have c_1 : false = false := jb_0 c_1
    refine j_iconst (v := 0) C dX5_isLoop_32 rfl ?_
    exact j_zretR (v := 0) C hr dX5_isLoop_33 rfl (by rfl)
  · skip
    have c_1 : false = true := jb_1 c_1
    (first | exact absurd c_1 (by decide) | exact absurd c_1 (by omega) | simp_all)
set_option maxHeartbeats 4000000 in
set_option maxRecDepth 100000 in
theorem c_X5_addProgram_s (l : Launch) (g : jG) (m0 : Nat) (th : Int32) (tb md rw0 : Nat) (sz : Int32) (cs va : Nat) (lk : Int32) (rn kp : Nat)  : jWi l yX5_addProgram wsX5_addProgram ({ frames := 1, cells := 0, slots := 0, locals := 21 }) g [.ref m0] [(m0, .inr (4, [.int th, .int 10, .ref tb, .ref md, .ref rw0, .int sz, .ref cs, .ref va, .int lk, .ref rn, .ref kp]))] [(m0, .inr (4, [.int 1, .int 10, .ref tb, .ref md, .ref rw0, .int sz, .ref cs, .ref va, .int lk, .ref rn, .ref kp]))] 0 := by
  refine j_enterW (Qc := fun sz_ => va_Qi (fun r (_ : Unit) => r = 0) (fun _ t => va_P g.1 vwCl [(m0, .inr (4, [.int 1, .int 10, .ref tb, .ref md, .ref rw0, .int sz, .ref cs, .ref va, .int lk, .ref rn, .ref kp]))] t.heap) (va_A [(m0, .inr (4, [.int th, .int 10, .ref tb, .ref md, .ref rw0, .int sz, .ref cs, .ref va, .int lk, .ref rn, .ref kp]))] sz_)) (cc := cX5_addProgram) (maxL := 1) (ret := (some .int)) (own := RX5) (L := [(0, .ref m0)]) (by decide) rfl rfl (Nat.le_of_ble_eq_true rfl) rfl (fun p e s m args below meth c C hr => ?_)
  refine j_aload_n 0 C dX5_addProgram_0 rfl rfl ?_
  refine j_iconst (v := 0) C dX5_addProgram_1 rfl ?_
  refine j_put (Cn := RX5) (T := TX5) (N := 11) (ws' := [(m0, .inr (4, [.int 0, .int 10, .ref tb, .ref md, .ref rw0, .int sz, .ref cs, .ref va, .int lk, .ref rn, .ref kp]))]) tyX5 0 0 C dX5_addProgram_2 hin_X5_addProgram_X5 tyX5_ok nmX5 rfl rfl (by decide) (List.mem_of_getElem? (i := 1) rfl) rfl (tyX5_ok 0 (by decide)) rfl rfl (Nat.le_of_ble_eq_true rfl) rfl ?_
  refine j_aload_n 0 C dX5_addProgram_5 rfl rfl ?_
  refine j_get (Cn := RX5) (T := TX5) (N := 11) 0 1 C dX5_addProgram_6 hin_X5_addProgram_X5 rfl rfl (by decide) (List.mem_of_getElem? (i := 2) rfl) rfl ?_
  refine j_bipush (v := 10) C dX5_addProgram_9 rfl ?_
  refine j_icmp_ne (tgt := 20) C dX5_addProgram_11 (by decide) (fun c_1 => ?_) (fun c_1 => ?_)
  · skip
    exact absurd c_1 (by decide)
  · skip
    refine j_aload_n 0 C dX5_addProgram_14 rfl rfl ?_
    refine j_iconst (v := 1) C dX5_addProgram_15 rfl ?_
    refine j_callWi [0] (fun _ => [(m0, .inr (4, [.int 1, .int 10, .ref tb, .ref md, .ref rw0, .int sz, .ref cs, .ref va, .int lk, .ref rn, .ref kp]))]) C (j_runV (ci := 0) (As := [.int 1]) (rest := []) [0] C (c_X5_fail l g m0 0 10 tb md rw0 sz cs va lk rn kp 1) gX5_addProgram_X5_fail rfl rfl rfl hd_X5_fail ⟨Nat.le_of_ble_eq_true rfl, Nat.le_of_ble_eq_true rfl⟩ rfl rfl rfl rfl dX5_addProgram_16 rfl (Nat.le_of_ble_eq_true rfl) ⟨Nat.le_of_ble_eq_true rfl, Nat.le_of_ble_eq_true rfl⟩) rfl (fun _ => rfl) (fun _ => rfl) (fun z _ hz => ?_)
    subst hz
    exact j_iretW (v := 0) C hr dX5_addProgram_19 () rfl rfl
set_option maxHeartbeats 4000000 in
set_option maxRecDepth 100000 in
theorem c_X5_addProgram (l : Launch) (g : jG) (m0 : Nat) (th : Int32) (N tb md rw0 : Nat) (sz : Int32) (cs va : Nat) (lk : Int32) (rn kp : Nat) (tr : Nat → Nat) (n : Nat) (f : Nat → Int32) (hN : N < 10) : jWi l yX5_addProgram wsX5_addProgram ({ frames := 0, cells := 0, slots := 0, locals := 0 }) g [.ref m0] [(m0, .inr (4, [.int th, .int (nI N), .ref tb, .ref md, .ref rw0, .int sz, .ref cs, .ref va, .int lk, .ref rn, .ref kp])), (tb, jaR g 10 (fun i => some (tr i))), (tr N, jaI g 253 (jrw n f))] [(m0, .inr (4, [.int 0, .int (nI (N + 1)), .ref tb, .ref md, .ref rw0, .int sz, .ref cs, .ref va, .int lk, .ref rn, .ref kp])), (tb, jaR g 10 (fun i => some (tr i))), (tr N, jaI g 253 (jrw 0 f))] (nI N) := by
  refine j_enterW (Qc := fun sz_ => va_Qi (fun r (_ : Unit) => r = nI N) (fun _ t => va_P g.1 vwCl [(m0, .inr (4, [.int 0, .int (nI (N + 1)), .ref tb, .ref md, .ref rw0, .int sz, .ref cs, .ref va, .int lk, .ref rn, .ref kp])), (tb, jaR g 10 (fun i => some (tr i))), (tr N, jaI g 253 (jrw 0 f))] t.heap) (va_A [(m0, .inr (4, [.int th, .int (nI N), .ref tb, .ref md, .ref rw0, .int sz, .ref cs, .ref va, .int lk, .ref rn, .ref kp])), (tb, jaR g 10 (fun i => some (tr i))), (tr N, jaI g 253 (jrw n f))] sz_)) (cc := cX5_addProgram) (maxL := 1) (ret := (some .int)) (own := RX5) (L := [(0, .ref m0)]) (by decide) rfl rfl (Nat.le_of_ble_eq_true rfl) rfl (fun p e s m args below meth c C hr => ?_)
  refine j_aload_n 0 C dX5_addProgram_0 rfl rfl ?_
  refine j_iconst (v := 0) C dX5_addProgram_1 rfl ?_
  refine j_put (Cn := RX5) (T := TX5) (N := 11) (ws' := [(m0, .inr (4, [.int 0, .int (nI N), .ref tb, .ref md, .ref rw0, .int sz, .ref cs, .ref va, .int lk, .ref rn, .ref kp])), (tb, jaR g 10 (fun i => some (tr i))), (tr N, jaI g 253 (jrw n f))]) tyX5 0 0 C dX5_addProgram_2 hin_X5_addProgram_X5 tyX5_ok nmX5 rfl rfl (by decide) (List.mem_of_getElem? (i := 1) rfl) rfl (tyX5_ok 0 (by decide)) rfl rfl (Nat.le_of_ble_eq_true rfl) rfl ?_
  refine j_aload_n 0 C dX5_addProgram_5 rfl rfl ?_
  refine j_get (Cn := RX5) (T := TX5) (N := 11) 0 1 C dX5_addProgram_6 hin_X5_addProgram_X5 rfl rfl (by decide) (List.mem_of_getElem? (i := 2) rfl) rfl ?_
  refine j_bipush (v := 10) C dX5_addProgram_9 rfl ?_
  refine j_icmp_ne (tgt := 20) C dX5_addProgram_11 (by decide) (fun c_1 => ?_) (fun c_1 => ?_)
  · skip
    have c_1 : ¬ N = 10 := fun z => c_1 ((nI_eq (a := N) (b := 10) (by omega) (by omega)).mpr z)
    refine j_aload_n 0 C dX5_addProgram_20 rfl rfl ?_
    refine j_get (Cn := RX5) (T := TX5) (N := 11) 0 2 C dX5_addProgram_21 hin_X5_addProgram_X5 rfl rfl (by decide) (List.mem_of_getElem? (i := 3) rfl) rfl ?_
    refine j_aload_n 0 C dX5_addProgram_24 rfl rfl ?_
    refine j_get (Cn := RX5) (T := TX5) (N := 11) 0 1 C dX5_addProgram_25 hin_X5_addProgram_X5 rfl rfl (by decide) (List.mem_of_getElem? (i := 2) rfl) rfl ?_
    refine j_aldR (x := N) 1 C dX5_addProgram_28 rfl rfl (by omega) (by decide) ?_
    refine j_eq (pc' := 29) (L' := [(0, .ref m0)]) (st' := [.ref (tr N)]) (ws' := [(m0, .inr (4, [.int 0, .int (nI N), .ref tb, .ref md, .ref rw0, .int sz, .ref cs, .ref va, .int lk, .ref rn, .ref kp])), (tb, jaR g 10 (fun i => some (tr i))), (tr N, jaI g 253 (jrw n f))]) ?_ rfl rfl rfl rfl
    refine j_iconst (v := 0) C dX5_addProgram_29 rfl ?_
    refine j_iconst (v := 0) C dX5_addProgram_30 rfl ?_
    refine j_iastR0 (n1 := 0) (ws' := [(m0, .inr (4, [.int 0, .int (nI N), .ref tb, .ref md, .ref rw0, .int sz, .ref cs, .ref va, .int lk, .ref rn, .ref kp])), (tb, jaR g 10 (fun i => some (tr i))), (tr N, jaI g 253 (jrw 0 f))]) 2 C dX5_addProgram_31 rfl rfl rfl rfl ?_
    refine j_aload_n 0 C dX5_addProgram_32 rfl rfl ?_
    refine j_dup C dX5_addProgram_33 rfl ?_
    refine j_get (Cn := RX5) (T := TX5) (N := 11) 0 1 C dX5_addProgram_34 hin_X5_addProgram_X5 rfl rfl (by decide) (List.mem_of_getElem? (i := 2) rfl) rfl ?_
    refine j_iconst (v := 1) C dX5_addProgram_37 rfl ?_
    refine j_iadd (x := nI N) (y := 1) (v := nI (N + 1)) C dX5_addProgram_38 (nI_add N 1) ?_
    refine j_put (Cn := RX5) (T := TX5) (N := 11) (ws' := [(m0, .inr (4, [.int 0, .int (nI (N + 1)), .ref tb, .ref md, .ref rw0, .int sz, .ref cs, .ref va, .int lk, .ref rn, .ref kp])), (tb, jaR g 10 (fun i => some (tr i))), (tr N, jaI g 253 (jrw 0 f))]) tyX5 0 1 C dX5_addProgram_39 hin_X5_addProgram_X5 tyX5_ok nmX5 rfl rfl (by decide) (List.mem_of_getElem? (i := 2) rfl) rfl (tyX5_ok 1 (by decide)) rfl rfl (Nat.le_of_ble_eq_true rfl) rfl ?_
    refine j_aload_n 0 C dX5_addProgram_42 rfl rfl ?_
    refine j_get (Cn := RX5) (T := TX5) (N := 11) 0 1 C dX5_addProgram_43 hin_X5_addProgram_X5 rfl rfl (by decide) (List.mem_of_getElem? (i := 2) rfl) rfl ?_
    refine j_iconst (v := 1) C dX5_addProgram_46 rfl ?_
    refine j_isub (x := nI (N + 1)) (y := 1) (v := nI ((N + 1) - 1)) C dX5_addProgram_47 (pk_sub (a := N + 1) (b := 1) (by omega)) ?_
    exact j_iretW (v := nI ((N + 1) - 1)) C hr dX5_addProgram_48 () (by rfl) rfl
  · skip
    have c_1 : N = 10 := (nI_eq (a := N) (b := 10) (by omega) (by omega)).mp c_1
    exact absurd c_1 (by omega)
set_option maxHeartbeats 4000000 in
set_option maxRecDepth 100000 in
theorem c_X5_addLoop_p (l : Launch) (g : jG) (m0 : Nat) (th : Int32) (N tb md rw0 : Nat) (sz : Int32) (cs va : Nat) (lk : Int32) (rn kp : Nat) (x : Int32) (s0 e0 : Int32) (up : Bool) (hx : jBt x 0 (nI N - 1) = false) : jWi l yX5_addLoop wsX5_addLoop ({ frames := 2, cells := 0, slots := 0, locals := 46 }) g [.ref m0, .int x, .int s0, .int e0, .int (jb up)] [(m0, .inr (4, [.int th, .int (nI N), .ref tb, .ref md, .ref rw0, .int sz, .ref cs, .ref va, .int lk, .ref rn, .ref kp]))] [(m0, .inr (4, [.int 1, .int (nI N), .ref tb, .ref md, .ref rw0, .int sz, .ref cs, .ref va, .int lk, .ref rn, .ref kp]))] 0 := by
  refine j_enterW (Qc := fun sz_ => va_Qi (fun r (_ : Unit) => r = 0) (fun _ t => va_P g.1 vwCl [(m0, .inr (4, [.int 1, .int (nI N), .ref tb, .ref md, .ref rw0, .int sz, .ref cs, .ref va, .int lk, .ref rn, .ref kp]))] t.heap) (va_A [(m0, .inr (4, [.int th, .int (nI N), .ref tb, .ref md, .ref rw0, .int sz, .ref cs, .ref va, .int lk, .ref rn, .ref kp]))] sz_)) (cc := cX5_addLoop) (maxL := 7) (ret := (some .int)) (own := RX5) (L := [(0, .ref m0), (1, .int x), (2, .int s0), (3, .int e0), (4, .int (jb up))]) (by decide) rfl rfl (Nat.le_of_ble_eq_true rfl) rfl (fun p e s m args below meth c C hr => ?_)
  refine j_aload_n 0 C dX5_addLoop_0 rfl rfl ?_
  refine j_iconst (v := 0) C dX5_addLoop_1 rfl ?_
  refine j_put (Cn := RX5) (T := TX5) (N := 11) (ws' := [(m0, .inr (4, [.int 0, .int (nI N), .ref tb, .ref md, .ref rw0, .int sz, .ref cs, .ref va, .int lk, .ref rn, .ref kp]))]) tyX5 0 0 C dX5_addLoop_2 hin_X5_addLoop_X5 tyX5_ok nmX5 rfl rfl (by decide) (List.mem_of_getElem? (i := 1) rfl) rfl (tyX5_ok 0 (by decide)) rfl rfl (Nat.le_of_ble_eq_true rfl) rfl ?_
  refine j_aload_n 0 C dX5_addLoop_5 rfl rfl ?_
  refine j_iload_n 1 C dX5_addLoop_6 rfl rfl ?_
  refine j_callRi (v := jb (jBt x 0 ((nI N) - 1))) (j_runV (ci := 0) (As := [.int x]) (rest := []) [0] C (c_X5_isProgram l g m0 0 (nI N) tb md rw0 sz cs va lk rn kp x) gX5_addLoop_X5_isProgram rfl rfl rfl hd_X5_isProgram ⟨Nat.le_of_ble_eq_true rfl, Nat.le_of_ble_eq_true rfl⟩ rfl rfl rfl rfl dX5_addLoop_7 rfl (Nat.le_of_ble_eq_true rfl) ⟨Nat.le_of_ble_eq_true rfl, Nat.le_of_ble_eq_true rfl⟩) ?_
  refine j_eq (pc' := 10) (L' := [(0, .ref m0), (1, .int x), (2, .int s0), (3, .int e0), (4, .int (jb up))]) (st' := [.int (jb false)]) (ws' := [(m0, .inr (4, [.int 0, .int (nI N), .ref tb, .ref md, .ref rw0, .int sz, .ref cs, .ref va, .int lk, .ref rn, .ref kp]))]) ?_ rfl rfl (by rw [hx]) rfl
  refine j_if_ne (tgt := 19) C dX5_addLoop_10 (by decide) (fun c_1 => ?_) (fun c_1 => ?_)
  · skip
    have c_1 : false = true := jb_1 c_1
    (first | exact absurd c_1 (by decide) | exact absurd c_1 (by omega) | simp_all)
  · skip
    have c_1 : false = false := jb_0 c_1
    refine j_aload_n 0 C dX5_addLoop_13 rfl rfl ?_
    refine j_iconst (v := 1) C dX5_addLoop_14 rfl ?_
    refine j_callWi [0] (fun _ => [(m0, .inr (4, [.int 1, .int (nI N), .ref tb, .ref md, .ref rw0, .int sz, .ref cs, .ref va, .int lk, .ref rn, .ref kp]))]) C (j_runV (ci := 0) (As := [.int 1]) (rest := []) [0] C (c_X5_fail l g m0 0 (nI N) tb md rw0 sz cs va lk rn kp 1) gX5_addLoop_X5_fail rfl rfl rfl hd_X5_fail ⟨Nat.le_of_ble_eq_true rfl, Nat.le_of_ble_eq_true rfl⟩ rfl rfl rfl rfl dX5_addLoop_15 rfl (Nat.le_of_ble_eq_true rfl) ⟨Nat.le_of_ble_eq_true rfl, Nat.le_of_ble_eq_true rfl⟩) rfl (fun _ => rfl) (fun _ => rfl) (fun z _ hz => ?_)
    subst hz
    exact j_iretW (v := 0) C hr dX5_addLoop_18 () rfl rfl
set_option maxHeartbeats 4000000 in
set_option maxRecDepth 100000 in
theorem c_X5_addLoop_a (l : Launch) (g : jG) (m0 : Nat) (th : Int32) (N tb md rw0 : Nat) (sz : Int32) (cs va : Nat) (lk : Int32) (rn kp : Nat) (k : Nat) (s0 e0 : Int32) (up : Bool) (hk : k < N) (hN : N ≤ 10) (hq : (jBt s0 0 5 && jBt e0 0 5) = false) : jWi l yX5_addLoop wsX5_addLoop ({ frames := 2, cells := 0, slots := 0, locals := 46 }) g [.ref m0, .int (nI k), .int s0, .int e0, .int (jb up)] [(m0, .inr (4, [.int th, .int (nI N), .ref tb, .ref md, .ref rw0, .int sz, .ref cs, .ref va, .int lk, .ref rn, .ref kp]))] [(m0, .inr (4, [.int 2, .int (nI N), .ref tb, .ref md, .ref rw0, .int sz, .ref cs, .ref va, .int lk, .ref rn, .ref kp]))] 0 := by
  refine j_enterW (Qc := fun sz_ => va_Qi (fun r (_ : Unit) => r = 0) (fun _ t => va_P g.1 vwCl [(m0, .inr (4, [.int 2, .int (nI N), .ref tb, .ref md, .ref rw0, .int sz, .ref cs, .ref va, .int lk, .ref rn, .ref kp]))] t.heap) (va_A [(m0, .inr (4, [.int th, .int (nI N), .ref tb, .ref md, .ref rw0, .int sz, .ref cs, .ref va, .int lk, .ref rn, .ref kp]))] sz_)) (cc := cX5_addLoop) (maxL := 7) (ret := (some .int)) (own := RX5) (L := [(0, .ref m0), (1, .int (nI k)), (2, .int s0), (3, .int e0), (4, .int (jb up))]) (by decide) rfl rfl (Nat.le_of_ble_eq_true rfl) rfl (fun p e s m args below meth c C hr => ?_)
  refine j_aload_n 0 C dX5_addLoop_0 rfl rfl ?_
  refine j_iconst (v := 0) C dX5_addLoop_1 rfl ?_
  refine j_put (Cn := RX5) (T := TX5) (N := 11) (ws' := [(m0, .inr (4, [.int 0, .int (nI N), .ref tb, .ref md, .ref rw0, .int sz, .ref cs, .ref va, .int lk, .ref rn, .ref kp]))]) tyX5 0 0 C dX5_addLoop_2 hin_X5_addLoop_X5 tyX5_ok nmX5 rfl rfl (by decide) (List.mem_of_getElem? (i := 1) rfl) rfl (tyX5_ok 0 (by decide)) rfl rfl (Nat.le_of_ble_eq_true rfl) rfl ?_
  refine j_aload_n 0 C dX5_addLoop_5 rfl rfl ?_
  refine j_iload_n 1 C dX5_addLoop_6 rfl rfl ?_
  refine j_callRi (v := jb (jBt (nI k) 0 ((nI N) - 1))) (j_runV (ci := 0) (As := [.int (nI k)]) (rest := []) [0] C (c_X5_isProgram l g m0 0 (nI N) tb md rw0 sz cs va lk rn kp (nI k)) gX5_addLoop_X5_isProgram rfl rfl rfl hd_X5_isProgram ⟨Nat.le_of_ble_eq_true rfl, Nat.le_of_ble_eq_true rfl⟩ rfl rfl rfl rfl dX5_addLoop_7 rfl (Nat.le_of_ble_eq_true rfl) ⟨Nat.le_of_ble_eq_true rfl, Nat.le_of_ble_eq_true rfl⟩) ?_
  refine j_eq (pc' := 10) (L' := [(0, .ref m0), (1, .int (nI k)), (2, .int s0), (3, .int e0), (4, .int (jb up))]) (st' := [.int (jb true)]) (ws' := [(m0, .inr (4, [.int 0, .int (nI N), .ref tb, .ref md, .ref rw0, .int sz, .ref cs, .ref va, .int lk, .ref rn, .ref kp]))]) ?_ rfl rfl (by rw [jBt_n hk (by omega)]) rfl
  refine j_if_ne (tgt := 19) C dX5_addLoop_10 (by decide) (fun c_1 => ?_) (fun c_1 => ?_)
  · skip
    have c_1 : true = true := jb_1 c_1
    refine j_iload_n 2 C dX5_addLoop_19 rfl rfl ?_
    refine j_i2l (v := s0.toInt64) C dX5_addLoop_20 rfl ?_
    refine j_lconst (v := 0) C dX5_addLoop_21 rfl ?_
    refine j_ldc2 (v := 5) C dX5_addLoop_22 (List.mem_of_getElem? (i := 2) rfl) ?_
    refine j_callRi (v := jb (jIn s0.toInt64 0 5)) (j_runS (As := [.long s0.toInt64, .long 0, .long 5]) (rest := []) [] C (c_X5_isIn l g s0.toInt64 0 5) gX5_addLoop_X5_isIn rfl rfl rfl hd_X5_isIn ⟨Nat.le_of_ble_eq_true rfl, Nat.le_of_ble_eq_true rfl⟩ rfl rfl dX5_addLoop_25 rfl (Nat.le_of_ble_eq_true rfl) ⟨Nat.le_of_ble_eq_true rfl, Nat.le_of_ble_eq_true rfl⟩) ?_
    refine j_eq (pc' := 28) (L' := [(0, .ref m0), (1, .int (nI k)), (2, .int s0), (3, .int e0), (4, .int (jb up))]) (st' := [.int (jb (jBt s0 0 5))]) (ws' := [(m0, .inr (4, [.int 0, .int (nI N), .ref tb, .ref md, .ref rw0, .int sz, .ref cs, .ref va, .int lk, .ref rn, .ref kp]))]) ?_ rfl rfl (by rw [jIn_b s0 0 5 _ _ (by decide) (by decide)]) rfl
    refine j_if_eq (tgt := 43) C dX5_addLoop_28 (by decide) (fun c_2 => ?_) (fun c_2 => ?_)
    · skip
      have c_2 : (jBt s0 0 5) = false := jb_0 c_2
      refine j_aload_n 0 C dX5_addLoop_43 rfl rfl ?_
      refine j_iconst (v := 2) C dX5_addLoop_44 rfl ?_
      refine j_callWi [0] (fun _ => [(m0, .inr (4, [.int 2, .int (nI N), .ref tb, .ref md, .ref rw0, .int sz, .ref cs, .ref va, .int lk, .ref rn, .ref kp]))]) C (j_runV (ci := 0) (As := [.int 2]) (rest := []) [0] C (c_X5_fail l g m0 0 (nI N) tb md rw0 sz cs va lk rn kp 2) gX5_addLoop_X5_fail rfl rfl rfl hd_X5_fail ⟨Nat.le_of_ble_eq_true rfl, Nat.le_of_ble_eq_true rfl⟩ rfl rfl rfl rfl dX5_addLoop_45 rfl (Nat.le_of_ble_eq_true rfl) ⟨Nat.le_of_ble_eq_true rfl, Nat.le_of_ble_eq_true rfl⟩) rfl (fun _ => rfl) (fun _ => rfl) (fun z _ hz => ?_)
      subst hz
      exact j_iretW (v := 0) C hr dX5_addLoop_48 () rfl rfl
    · skip
      have c_2 : (jBt s0 0 5) = true := jb_1 c_2
      refine j_iload_n 3 C dX5_addLoop_31 rfl rfl ?_
      refine j_i2l (v := e0.toInt64) C dX5_addLoop_32 rfl ?_
      refine j_lconst (v := 0) C dX5_addLoop_33 rfl ?_
      refine j_ldc2 (v := 5) C dX5_addLoop_34 (List.mem_of_getElem? (i := 2) rfl) ?_
      refine j_callRi (v := jb (jIn e0.toInt64 0 5)) (j_runS (As := [.long e0.toInt64, .long 0, .long 5]) (rest := []) [] C (c_X5_isIn l g e0.toInt64 0 5) gX5_addLoop_X5_isIn rfl rfl rfl hd_X5_isIn ⟨Nat.le_of_ble_eq_true rfl, Nat.le_of_ble_eq_true rfl⟩ rfl rfl dX5_addLoop_37 rfl (Nat.le_of_ble_eq_true rfl) ⟨Nat.le_of_ble_eq_true rfl, Nat.le_of_ble_eq_true rfl⟩) ?_
      refine j_eq (pc' := 40) (L' := [(0, .ref m0), (1, .int (nI k)), (2, .int s0), (3, .int e0), (4, .int (jb up))]) (st' := [.int (jb (jBt e0 0 5))]) (ws' := [(m0, .inr (4, [.int 0, .int (nI N), .ref tb, .ref md, .ref rw0, .int sz, .ref cs, .ref va, .int lk, .ref rn, .ref kp]))]) ?_ rfl rfl (by rw [jIn_b e0 0 5 _ _ (by decide) (by decide)]) rfl
      refine j_if_ne (tgt := 49) C dX5_addLoop_40 (by decide) (fun c_4 => ?_) (fun c_4 => ?_)
      · skip
        have c_4 : (jBt e0 0 5) = true := jb_1 c_4
        (first | exact absurd c_4 (by decide) | exact absurd c_4 (by omega) | simp_all)
      · skip
        have c_4 : (jBt e0 0 5) = false := jb_0 c_4
        refine j_aload_n 0 C dX5_addLoop_43 rfl rfl ?_
        refine j_iconst (v := 2) C dX5_addLoop_44 rfl ?_
        refine j_callWi [0] (fun _ => [(m0, .inr (4, [.int 2, .int (nI N), .ref tb, .ref md, .ref rw0, .int sz, .ref cs, .ref va, .int lk, .ref rn, .ref kp]))]) C (j_runV (ci := 0) (As := [.int 2]) (rest := []) [0] C (c_X5_fail l g m0 0 (nI N) tb md rw0 sz cs va lk rn kp 2) gX5_addLoop_X5_fail rfl rfl rfl hd_X5_fail ⟨Nat.le_of_ble_eq_true rfl, Nat.le_of_ble_eq_true rfl⟩ rfl rfl rfl rfl dX5_addLoop_45 rfl (Nat.le_of_ble_eq_true rfl) ⟨Nat.le_of_ble_eq_true rfl, Nat.le_of_ble_eq_true rfl⟩) rfl (fun _ => rfl) (fun _ => rfl) (fun z _ hz => ?_)
        subst hz
        exact j_iretW (v := 0) C hr dX5_addLoop_48 () rfl rfl
  · skip
    have c_1 : true = false := jb_0 c_1
    (first | exact absurd c_1 (by decide) | exact absurd c_1 (by omega) | simp_all)
set_option maxHeartbeats 4000000 in
set_option maxRecDepth 100000 in
theorem c_X5_addLoop_s (l : Launch) (g : jG) (m0 : Nat) (th : Int32) (N tb md rw0 : Nat) (sz : Int32) (cs va : Nat) (lk : Int32) (rn kp : Nat) (tr : Nat → Nat) (k : Nat) (f : Nat → Int32) (s0 e0 : Int32) (up : Bool) (hk : k < N) (hN : N ≤ 10) (h1 : jBt s0 0 5 = true) (h2 : jBt e0 0 5 = true) : jWi l yX5_addLoop wsX5_addLoop ({ frames := 2, cells := 0, slots := 0, locals := 46 }) g [.ref m0, .int (nI k), .int s0, .int e0, .int (jb up)] [(m0, .inr (4, [.int th, .int (nI N), .ref tb, .ref md, .ref rw0, .int sz, .ref cs, .ref va, .int lk, .ref rn, .ref kp])), (tb, jaR g 10 (fun i => some (tr i))), (tr k, jaI g 253 (jrw 8 f))] [(m0, .inr (4, [.int 3, .int (nI N), .ref tb, .ref md, .ref rw0, .int sz, .ref cs, .ref va, .int lk, .ref rn, .ref kp])), (tb, jaR g 10 (fun i => some (tr i))), (tr k, jaI g 253 (jrw 8 f))] 0 := by
  refine j_enterW (Qc := fun sz_ => va_Qi (fun r (_ : Unit) => r = 0) (fun _ t => va_P g.1 vwCl [(m0, .inr (4, [.int 3, .int (nI N), .ref tb, .ref md, .ref rw0, .int sz, .ref cs, .ref va, .int lk, .ref rn, .ref kp])), (tb, jaR g 10 (fun i => some (tr i))), (tr k, jaI g 253 (jrw 8 f))] t.heap) (va_A [(m0, .inr (4, [.int th, .int (nI N), .ref tb, .ref md, .ref rw0, .int sz, .ref cs, .ref va, .int lk, .ref rn, .ref kp])), (tb, jaR g 10 (fun i => some (tr i))), (tr k, jaI g 253 (jrw 8 f))] sz_)) (cc := cX5_addLoop) (maxL := 7) (ret := (some .int)) (own := RX5) (L := [(0, .ref m0), (1, .int (nI k)), (2, .int s0), (3, .int e0), (4, .int (jb up))]) (by decide) rfl rfl (Nat.le_of_ble_eq_true rfl) rfl (fun p e s m args below meth c C hr => ?_)
  refine j_aload_n 0 C dX5_addLoop_0 rfl rfl ?_
  refine j_iconst (v := 0) C dX5_addLoop_1 rfl ?_
  refine j_put (Cn := RX5) (T := TX5) (N := 11) (ws' := [(m0, .inr (4, [.int 0, .int (nI N), .ref tb, .ref md, .ref rw0, .int sz, .ref cs, .ref va, .int lk, .ref rn, .ref kp])), (tb, jaR g 10 (fun i => some (tr i))), (tr k, jaI g 253 (jrw 8 f))]) tyX5 0 0 C dX5_addLoop_2 hin_X5_addLoop_X5 tyX5_ok nmX5 rfl rfl (by decide) (List.mem_of_getElem? (i := 1) rfl) rfl (tyX5_ok 0 (by decide)) rfl rfl (Nat.le_of_ble_eq_true rfl) rfl ?_
  refine j_aload_n 0 C dX5_addLoop_5 rfl rfl ?_
  refine j_iload_n 1 C dX5_addLoop_6 rfl rfl ?_
  refine j_callRi (v := jb (jBt (nI k) 0 ((nI N) - 1))) (j_runV (ci := 0) (As := [.int (nI k)]) (rest := []) [0] C (c_X5_isProgram l g m0 0 (nI N) tb md rw0 sz cs va lk rn kp (nI k)) gX5_addLoop_X5_isProgram rfl rfl rfl hd_X5_isProgram ⟨Nat.le_of_ble_eq_true rfl, Nat.le_of_ble_eq_true rfl⟩ rfl rfl rfl rfl dX5_addLoop_7 rfl (Nat.le_of_ble_eq_true rfl) ⟨Nat.le_of_ble_eq_true rfl, Nat.le_of_ble_eq_true rfl⟩) ?_
  refine j_eq (pc' := 10) (L' := [(0, .ref m0), (1, .int (nI k)), (2, .int s0), (3, .int e0), (4, .int (jb up))]) (st' := [.int (jb true)]) (ws' := [(m0, .inr (4, [.int 0, .int (nI N), .ref tb, .ref md, .ref rw0, .int sz, .ref cs, .ref va, .int lk, .ref rn, .ref kp])), (tb, jaR g 10 (fun i => some (tr i))), (tr k, jaI g 253 (jrw 8 f))]) ?_ rfl rfl (by rw [jBt_n hk (by omega)]) rfl
  refine j_if_ne (tgt := 19) C dX5_addLoop_10 (by decide) (fun c_1 => ?_) (fun c_1 => ?_)
  · skip
    have c_1 : true = true := jb_1 c_1
    refine j_iload_n 2 C dX5_addLoop_19 rfl rfl ?_
    refine j_i2l (v := s0.toInt64) C dX5_addLoop_20 rfl ?_
    refine j_lconst (v := 0) C dX5_addLoop_21 rfl ?_
    refine j_ldc2 (v := 5) C dX5_addLoop_22 (List.mem_of_getElem? (i := 2) rfl) ?_
    refine j_callRi (v := jb (jIn s0.toInt64 0 5)) (j_runS (As := [.long s0.toInt64, .long 0, .long 5]) (rest := []) [] C (c_X5_isIn l g s0.toInt64 0 5) gX5_addLoop_X5_isIn rfl rfl rfl hd_X5_isIn ⟨Nat.le_of_ble_eq_true rfl, Nat.le_of_ble_eq_true rfl⟩ rfl rfl dX5_addLoop_25 rfl (Nat.le_of_ble_eq_true rfl) ⟨Nat.le_of_ble_eq_true rfl, Nat.le_of_ble_eq_true rfl⟩) ?_
    refine j_eq (pc' := 28) (L' := [(0, .ref m0), (1, .int (nI k)), (2, .int s0), (3, .int e0), (4, .int (jb up))]) (st' := [.int (jb (jBt s0 0 5))]) (ws' := [(m0, .inr (4, [.int 0, .int (nI N), .ref tb, .ref md, .ref rw0, .int sz, .ref cs, .ref va, .int lk, .ref rn, .ref kp])), (tb, jaR g 10 (fun i => some (tr i))), (tr k, jaI g 253 (jrw 8 f))]) ?_ rfl rfl (by rw [jIn_b s0 0 5 _ _ (by decide) (by decide)]) rfl
    refine j_eq (pc' := 28) (L' := [(0, .ref m0), (1, .int (nI k)), (2, .int s0), (3, .int e0), (4, .int (jb up))]) (st' := [.int (jb true)]) (ws' := [(m0, .inr (4, [.int 0, .int (nI N), .ref tb, .ref md, .ref rw0, .int sz, .ref cs, .ref va, .int lk, .ref rn, .ref kp])), (tb, jaR g 10 (fun i => some (tr i))), (tr k, jaI g 253 (jrw 8 f))]) ?_ rfl rfl (by rw [h1]) rfl
    refine j_if_eq (tgt := 43) C dX5_addLoop_28 (by decide) (fun c_2 => ?_) (fun c_2 => ?_)
    · skip
      have c_2 : true = false := jb_0 c_2
      (first | exact absurd c_2 (by decide) | exact absurd c_2 (by omega) | simp_all)
    · skip
      have c_2 : true = true := jb_1 c_2
      refine j_iload_n 3 C dX5_addLoop_31 rfl rfl ?_
      refine j_i2l (v := e0.toInt64) C dX5_addLoop_32 rfl ?_
      refine j_lconst (v := 0) C dX5_addLoop_33 rfl ?_
      refine j_ldc2 (v := 5) C dX5_addLoop_34 (List.mem_of_getElem? (i := 2) rfl) ?_
      refine j_callRi (v := jb (jIn e0.toInt64 0 5)) (j_runS (As := [.long e0.toInt64, .long 0, .long 5]) (rest := []) [] C (c_X5_isIn l g e0.toInt64 0 5) gX5_addLoop_X5_isIn rfl rfl rfl hd_X5_isIn ⟨Nat.le_of_ble_eq_true rfl, Nat.le_of_ble_eq_true rfl⟩ rfl rfl dX5_addLoop_37 rfl (Nat.le_of_ble_eq_true rfl) ⟨Nat.le_of_ble_eq_true rfl, Nat.le_of_ble_eq_true rfl⟩) ?_
      refine j_eq (pc' := 40) (L' := [(0, .ref m0), (1, .int (nI k)), (2, .int s0), (3, .int e0), (4, .int (jb up))]) (st' := [.int (jb (jBt e0 0 5))]) (ws' := [(m0, .inr (4, [.int 0, .int (nI N), .ref tb, .ref md, .ref rw0, .int sz, .ref cs, .ref va, .int lk, .ref rn, .ref kp])), (tb, jaR g 10 (fun i => some (tr i))), (tr k, jaI g 253 (jrw 8 f))]) ?_ rfl rfl (by rw [jIn_b e0 0 5 _ _ (by decide) (by decide)]) rfl
      refine j_eq (pc' := 40) (L' := [(0, .ref m0), (1, .int (nI k)), (2, .int s0), (3, .int e0), (4, .int (jb up))]) (st' := [.int (jb true)]) (ws' := [(m0, .inr (4, [.int 0, .int (nI N), .ref tb, .ref md, .ref rw0, .int sz, .ref cs, .ref va, .int lk, .ref rn, .ref kp])), (tb, jaR g 10 (fun i => some (tr i))), (tr k, jaI g 253 (jrw 8 f))]) ?_ rfl rfl (by rw [h2]) rfl
      refine j_if_ne (tgt := 49) C dX5_addLoop_40 (by decide) (fun c_3 => ?_) (fun c_3 => ?_)
      · skip
        have c_3 : true = true := jb_1 c_3
        refine j_aload_n 0 C dX5_addLoop_49 rfl rfl ?_
        refine j_get (Cn := RX5) (T := TX5) (N := 11) 0 2 C dX5_addLoop_50 hin_X5_addLoop_X5 rfl rfl (by decide) (List.mem_of_getElem? (i := 3) rfl) rfl ?_
        refine j_iload_n 1 C dX5_addLoop_53 rfl rfl ?_
        refine j_aldR (x := k) 1 C dX5_addLoop_54 rfl rfl (by omega) (by decide) ?_
        refine j_eq (pc' := 55) (L' := [(0, .ref m0), (1, .int (nI k)), (2, .int s0), (3, .int e0), (4, .int (jb up))]) (st' := [.ref (tr k)]) (ws' := [(m0, .inr (4, [.int 0, .int (nI N), .ref tb, .ref md, .ref rw0, .int sz, .ref cs, .ref va, .int lk, .ref rn, .ref kp])), (tb, jaR g 10 (fun i => some (tr i))), (tr k, jaI g 253 (jrw 8 f))]) ?_ rfl rfl rfl rfl
        refine j_astore (L' := [(0, .ref m0), (1, .int (nI k)), (2, .int s0), (3, .int e0), (4, .int (jb up)), (5, .ref (tr k))]) C dX5_addLoop_55 (Nat.le_of_ble_eq_true rfl) rfl rfl ?_
        refine j_aload 5 C dX5_addLoop_57 rfl ?_
        refine j_iconst (v := 0) C dX5_addLoop_59 rfl ?_
        refine j_ialdR0 2 C dX5_addLoop_60 rfl rfl ?_
        refine j_bipush (v := 8) C dX5_addLoop_61 rfl ?_
        refine j_icmp_ne (tgt := 72) C dX5_addLoop_63 (by decide) (fun c_4 => ?_) (fun c_4 => ?_)
        · skip
          exact absurd c_4 (by decide)
        · skip
          refine j_aload_n 0 C dX5_addLoop_66 rfl rfl ?_
          refine j_iconst (v := 3) C dX5_addLoop_67 rfl ?_
          refine j_callWi [0] (fun _ => [(m0, .inr (4, [.int 3, .int (nI N), .ref tb, .ref md, .ref rw0, .int sz, .ref cs, .ref va, .int lk, .ref rn, .ref kp])), (tb, jaR g 10 (fun i => some (tr i))), (tr k, jaI g 253 (jrw 8 f))]) C (j_runV (ci := 0) (As := [.int 3]) (rest := []) [0] C (c_X5_fail l g m0 0 (nI N) tb md rw0 sz cs va lk rn kp 3) gX5_addLoop_X5_fail rfl rfl rfl hd_X5_fail ⟨Nat.le_of_ble_eq_true rfl, Nat.le_of_ble_eq_true rfl⟩ rfl rfl rfl rfl dX5_addLoop_68 rfl (Nat.le_of_ble_eq_true rfl) ⟨Nat.le_of_ble_eq_true rfl, Nat.le_of_ble_eq_true rfl⟩) rfl (fun _ => rfl) (fun _ => rfl) (fun z _ hz => ?_)
          subst hz
          exact j_iretW (v := 0) C hr dX5_addLoop_71 () rfl rfl
      · skip
        have c_3 : true = false := jb_0 c_3
        (first | exact absurd c_3 (by decide) | exact absurd c_3 (by omega) | simp_all)
  · skip
    have c_1 : true = false := jb_0 c_1
    (first | exact absurd c_1 (by decide) | exact absurd c_1 (by omega) | simp_all)
set_option maxHeartbeats 4000000 in
set_option maxRecDepth 100000 in
theorem c_X5_addLoop (l : Launch) (g : jG) (m0 : Nat) (th : Int32) (N tb md rw0 : Nat) (sz : Int32) (cs va : Nat) (lk : Int32) (rn kp : Nat) (tr : Nat → Nat) (k n : Nat) (f : Nat → Int32) (s0 e0 : Int32) (up : Bool) (hk : k < N) (hN : N ≤ 10) (h1 : jBt s0 0 5 = true) (h2 : jBt e0 0 5 = true) (hn : n < 8) : jMi l yX5_addLoop wsX5_addLoop ({ frames := 2, cells := 1, slots := 4, locals := 46 }) 1 4 g [.ref m0, .int (nI k), .int s0, .int e0, .int (jb up)] [(m0, .inr (4, [.int th, .int (nI N), .ref tb, .ref md, .ref rw0, .int sz, .ref cs, .ref va, .int lk, .ref rn, .ref kp])), (tb, jaR g 10 (fun i => some (tr i))), (tr k, jaI g 253 (jrw n f))] [(m0, .inr (4, [.int 0, .int (nI N), .ref tb, .ref md, .ref rw0, .int sz, .ref cs, .ref va, .int lk, .ref rn, .ref kp])), (tb, jaR g 10 (fun i => some (tr i))), (tr k, jaI g 253 (jrw (n + 1) (upd (upd (upd (upd f (n * 28 + 0) s0) (n * 28 + 1) e0) (n * 28 + 2) (jb up)) (n * 28 + 3) 0)))] (nI n) := by
  refine j_enterW (Qc := fun sz_ => va_Qi (fun r (_ : Unit) => r = nI n) (fun _ t => va_P g.1 vwCl [(m0, .inr (4, [.int 0, .int (nI N), .ref tb, .ref md, .ref rw0, .int sz, .ref cs, .ref va, .int lk, .ref rn, .ref kp])), (tb, jaR g 10 (fun i => some (tr i))), (tr k, jaI g 253 (jrw (n + 1) (upd (upd (upd (upd f (n * 28 + 0) s0) (n * 28 + 1) e0) (n * 28 + 2) (jb up)) (n * 28 + 3) 0)))] t.heap) (va_A [(m0, .inr (4, [.int th, .int (nI N), .ref tb, .ref md, .ref rw0, .int sz, .ref cs, .ref va, .int lk, .ref rn, .ref kp])), (tb, jaR g 10 (fun i => some (tr i))), (tr k, jaI g 253 (jrw n f))] sz_)) (cc := cX5_addLoop) (maxL := 7) (ret := (some .int)) (own := RX5) (L := [(0, .ref m0), (1, .int (nI k)), (2, .int s0), (3, .int e0), (4, .int (jb up))]) (by decide) rfl rfl (Nat.le_of_ble_eq_true rfl) rfl (fun p e s m args below meth c C hr => ?_)
  refine j_aload_n 0 C dX5_addLoop_0 rfl rfl ?_
  refine j_iconst (v := 0) C dX5_addLoop_1 rfl ?_
  refine j_put (Cn := RX5) (T := TX5) (N := 11) (ws' := [(m0, .inr (4, [.int 0, .int (nI N), .ref tb, .ref md, .ref rw0, .int sz, .ref cs, .ref va, .int lk, .ref rn, .ref kp])), (tb, jaR g 10 (fun i => some (tr i))), (tr k, jaI g 253 (jrw n f))]) tyX5 0 0 C dX5_addLoop_2 hin_X5_addLoop_X5 tyX5_ok nmX5 rfl rfl (by decide) (List.mem_of_getElem? (i := 1) rfl) rfl (tyX5_ok 0 (by decide)) rfl rfl (Nat.le_of_ble_eq_true rfl) rfl ?_
  refine j_aload_n 0 C dX5_addLoop_5 rfl rfl ?_
  refine j_iload_n 1 C dX5_addLoop_6 rfl rfl ?_
  refine j_callRi (v := jb (jBt (nI k) 0 ((nI N) - 1))) (j_runV (ci := 0) (As := [.int (nI k)]) (rest := []) [0] C (c_X5_isProgram l g m0 0 (nI N) tb md rw0 sz cs va lk rn kp (nI k)) gX5_addLoop_X5_isProgram rfl rfl rfl hd_X5_isProgram ⟨Nat.le_of_ble_eq_true rfl, Nat.le_of_ble_eq_true rfl⟩ rfl rfl rfl rfl dX5_addLoop_7 rfl (Nat.le_of_ble_eq_true rfl) ⟨Nat.le_of_ble_eq_true rfl, Nat.le_of_ble_eq_true rfl⟩) ?_
  refine j_eq (pc' := 10) (L' := [(0, .ref m0), (1, .int (nI k)), (2, .int s0), (3, .int e0), (4, .int (jb up))]) (st' := [.int (jb true)]) (ws' := [(m0, .inr (4, [.int 0, .int (nI N), .ref tb, .ref md, .ref rw0, .int sz, .ref cs, .ref va, .int lk, .ref rn, .ref kp])), (tb, jaR g 10 (fun i => some (tr i))), (tr k, jaI g 253 (jrw n f))]) ?_ rfl rfl (by rw [jBt_n hk (by omega)]) rfl
  refine j_if_ne (tgt := 19) C dX5_addLoop_10 (by decide) (fun c_1 => ?_) (fun c_1 => ?_)
  · skip
    have c_1 : true = true := jb_1 c_1
    refine j_iload_n 2 C dX5_addLoop_19 rfl rfl ?_
    refine j_i2l (v := s0.toInt64) C dX5_addLoop_20 rfl ?_
    refine j_lconst (v := 0) C dX5_addLoop_21 rfl ?_
    refine j_ldc2 (v := 5) C dX5_addLoop_22 (List.mem_of_getElem? (i := 2) rfl) ?_
    refine j_callRi (v := jb (jIn s0.toInt64 0 5)) (j_runS (As := [.long s0.toInt64, .long 0, .long 5]) (rest := []) [] C (c_X5_isIn l g s0.toInt64 0 5) gX5_addLoop_X5_isIn rfl rfl rfl hd_X5_isIn ⟨Nat.le_of_ble_eq_true rfl, Nat.le_of_ble_eq_true rfl⟩ rfl rfl dX5_addLoop_25 rfl (Nat.le_of_ble_eq_true rfl) ⟨Nat.le_of_ble_eq_true rfl, Nat.le_of_ble_eq_true rfl⟩) ?_
    refine j_eq (pc' := 28) (L' := [(0, .ref m0), (1, .int (nI k)), (2, .int s0), (3, .int e0), (4, .int (jb up))]) (st' := [.int (jb (jBt s0 0 5))]) (ws' := [(m0, .inr (4, [.int 0, .int (nI N), .ref tb, .ref md, .ref rw0, .int sz, .ref cs, .ref va, .int lk, .ref rn, .ref kp])), (tb, jaR g 10 (fun i => some (tr i))), (tr k, jaI g 253 (jrw n f))]) ?_ rfl rfl (by rw [jIn_b s0 0 5 _ _ (by decide) (by decide)]) rfl
    refine j_eq (pc' := 28) (L' := [(0, .ref m0), (1, .int (nI k)), (2, .int s0), (3, .int e0), (4, .int (jb up))]) (st' := [.int (jb true)]) (ws' := [(m0, .inr (4, [.int 0, .int (nI N), .ref tb, .ref md, .ref rw0, .int sz, .ref cs, .ref va, .int lk, .ref rn, .ref kp])), (tb, jaR g 10 (fun i => some (tr i))), (tr k, jaI g 253 (jrw n f))]) ?_ rfl rfl (by rw [h1]) rfl
    refine j_if_eq (tgt := 43) C dX5_addLoop_28 (by decide) (fun c_2 => ?_) (fun c_2 => ?_)
    · skip
      have c_2 : true = false := jb_0 c_2
      (first | exact absurd c_2 (by decide) | exact absurd c_2 (by omega) | simp_all)
    · skip
      have c_2 : true = true := jb_1 c_2
      refine j_iload_n 3 C dX5_addLoop_31 rfl rfl ?_
      refine j_i2l (v := e0.toInt64) C dX5_addLoop_32 rfl ?_
      refine j_lconst (v := 0) C dX5_addLoop_33 rfl ?_
      refine j_ldc2 (v := 5) C dX5_addLoop_34 (List.mem_of_getElem? (i := 2) rfl) ?_
      refine j_callRi (v := jb (jIn e0.toInt64 0 5)) (j_runS (As := [.long e0.toInt64, .long 0, .long 5]) (rest := []) [] C (c_X5_isIn l g e0.toInt64 0 5) gX5_addLoop_X5_isIn rfl rfl rfl hd_X5_isIn ⟨Nat.le_of_ble_eq_true rfl, Nat.le_of_ble_eq_true rfl⟩ rfl rfl dX5_addLoop_37 rfl (Nat.le_of_ble_eq_true rfl) ⟨Nat.le_of_ble_eq_true rfl, Nat.le_of_ble_eq_true rfl⟩) ?_
      refine j_eq (pc' := 40) (L' := [(0, .ref m0), (1, .int (nI k)), (2, .int s0), (3, .int e0), (4, .int (jb up))]) (st' := [.int (jb (jBt e0 0 5))]) (ws' := [(m0, .inr (4, [.int 0, .int (nI N), .ref tb, .ref md, .ref rw0, .int sz, .ref cs, .ref va, .int lk, .ref rn, .ref kp])), (tb, jaR g 10 (fun i => some (tr i))), (tr k, jaI g 253 (jrw n f))]) ?_ rfl rfl (by rw [jIn_b e0 0 5 _ _ (by decide) (by decide)]) rfl
      refine j_eq (pc' := 40) (L' := [(0, .ref m0), (1, .int (nI k)), (2, .int s0), (3, .int e0), (4, .int (jb up))]) (st' := [.int (jb true)]) (ws' := [(m0, .inr (4, [.int 0, .int (nI N), .ref tb, .ref md, .ref rw0, .int sz, .ref cs, .ref va, .int lk, .ref rn, .ref kp])), (tb, jaR g 10 (fun i => some (tr i))), (tr k, jaI g 253 (jrw n f))]) ?_ rfl rfl (by rw [h2]) rfl
      refine j_if_ne (tgt := 49) C dX5_addLoop_40 (by decide) (fun c_3 => ?_) (fun c_3 => ?_)
      · skip
        have c_3 : true = true := jb_1 c_3
        refine j_aload_n 0 C dX5_addLoop_49 rfl rfl ?_
        refine j_get (Cn := RX5) (T := TX5) (N := 11) 0 2 C dX5_addLoop_50 hin_X5_addLoop_X5 rfl rfl (by decide) (List.mem_of_getElem? (i := 3) rfl) rfl ?_
        refine j_iload_n 1 C dX5_addLoop_53 rfl rfl ?_
        refine j_aldR (x := k) 1 C dX5_addLoop_54 rfl rfl (by omega) (by decide) ?_
        refine j_eq (pc' := 55) (L' := [(0, .ref m0), (1, .int (nI k)), (2, .int s0), (3, .int e0), (4, .int (jb up))]) (st' := [.ref (tr k)]) (ws' := [(m0, .inr (4, [.int 0, .int (nI N), .ref tb, .ref md, .ref rw0, .int sz, .ref cs, .ref va, .int lk, .ref rn, .ref kp])), (tb, jaR g 10 (fun i => some (tr i))), (tr k, jaI g 253 (jrw n f))]) ?_ rfl rfl rfl rfl
        refine j_astore (L' := [(0, .ref m0), (1, .int (nI k)), (2, .int s0), (3, .int e0), (4, .int (jb up)), (5, .ref (tr k))]) C dX5_addLoop_55 (Nat.le_of_ble_eq_true rfl) rfl rfl ?_
        refine j_aload 5 C dX5_addLoop_57 rfl ?_
        refine j_iconst (v := 0) C dX5_addLoop_59 rfl ?_
        refine j_ialdR0 2 C dX5_addLoop_60 rfl rfl ?_
        refine j_bipush (v := 8) C dX5_addLoop_61 rfl ?_
        refine j_icmp_ne (tgt := 72) C dX5_addLoop_63 (by decide) (fun c_4 => ?_) (fun c_4 => ?_)
        · skip
          have c_4 : ¬ n = 8 := fun z => c_4 ((nI_eq (a := n) (b := 8) (by omega) (by omega)).mpr z)
          refine j_iconst (v := 4) C dX5_addLoop_72 rfl ?_
          refine j_newaI C dX5_addLoop_73 (List.mem_of_getElem? (i := 4) rfl) rfl (by decide) (by constructor <;> exact Nat.le_of_ble_eq_true rfl) (fun nw_5 => ?_)
          refine j_eq (pc' := 75) (L' := [(0, .ref m0), (1, .int (nI k)), (2, .int s0), (3, .int e0), (4, .int (jb up)), (5, .ref (tr k))]) (st' := [.ref nw_5]) (ws' := [(m0, .inr (4, [.int 0, .int (nI N), .ref tb, .ref md, .ref rw0, .int sz, .ref cs, .ref va, .int lk, .ref rn, .ref kp])), (tb, jaR g 10 (fun i => some (tr i))), (tr k, jaI g 253 (jrw n f)), (nw_5, jaI g 4 (fun _ => 0))]) ?_ rfl rfl rfl rfl
          refine j_dup C dX5_addLoop_75 rfl ?_
          refine j_iconst (v := 0) C dX5_addLoop_76 rfl ?_
          refine j_iload_n 2 C dX5_addLoop_77 rfl rfl ?_
          refine j_iastN (x := 0) (ws' := [(m0, .inr (4, [.int 0, .int (nI N), .ref tb, .ref md, .ref rw0, .int sz, .ref cs, .ref va, .int lk, .ref rn, .ref kp])), (tb, jaR g 10 (fun i => some (tr i))), (tr k, jaI g 253 (jrw n f)), (nw_5, jaI g 4 (upd (fun _ => 0) 0 s0))]) 3 C dX5_addLoop_78 rfl rfl (by omega) (by decide) rfl ?_
          refine j_dup C dX5_addLoop_79 rfl ?_
          refine j_iconst (v := 1) C dX5_addLoop_80 rfl ?_
          refine j_iload_n 3 C dX5_addLoop_81 rfl rfl ?_
          refine j_iastN (x := 1) (ws' := [(m0, .inr (4, [.int 0, .int (nI N), .ref tb, .ref md, .ref rw0, .int sz, .ref cs, .ref va, .int lk, .ref rn, .ref kp])), (tb, jaR g 10 (fun i => some (tr i))), (tr k, jaI g 253 (jrw n f)), (nw_5, jaI g 4 (upd (upd (fun _ => 0) 0 s0) 1 e0))]) 3 C dX5_addLoop_82 rfl rfl (by omega) (by decide) rfl ?_
          refine j_dup C dX5_addLoop_83 rfl ?_
          refine j_iconst (v := 2) C dX5_addLoop_84 rfl ?_
          refine j_iload 4 C dX5_addLoop_85 rfl ?_
          refine j_if_eq (tgt := 94) C dX5_addLoop_87 (by decide) (fun c_6 => ?_) (fun c_6 => ?_)
          · skip
            have c_6 : up = false := jb_0 c_6
            refine j_iconst (v := 0) C dX5_addLoop_94 rfl ?_
            refine j_eq (pc' := 95) (L' := [(0, .ref m0), (1, .int (nI k)), (2, .int s0), (3, .int e0), (4, .int (jb up)), (5, .ref (tr k))]) (st' := [.int (jb up), .int 2, .ref nw_5, .ref nw_5]) (ws' := [(m0, .inr (4, [.int 0, .int (nI N), .ref tb, .ref md, .ref rw0, .int sz, .ref cs, .ref va, .int lk, .ref rn, .ref kp])), (tb, jaR g 10 (fun i => some (tr i))), (tr k, jaI g 253 (jrw n f)), (nw_5, jaI g 4 (upd (upd (fun _ => 0) 0 s0) 1 e0))]) ?_ rfl rfl (by rw [‹up = _›]; rfl) rfl
            refine j_iastN (x := 2) (ws' := [(m0, .inr (4, [.int 0, .int (nI N), .ref tb, .ref md, .ref rw0, .int sz, .ref cs, .ref va, .int lk, .ref rn, .ref kp])), (tb, jaR g 10 (fun i => some (tr i))), (tr k, jaI g 253 (jrw n f)), (nw_5, jaI g 4 (upd (upd (upd (fun _ => 0) 0 s0) 1 e0) 2 (jb up)))]) 3 C dX5_addLoop_95 rfl rfl (by omega) (by decide) rfl ?_
            refine j_dup C dX5_addLoop_96 rfl ?_
            refine j_iconst (v := 3) C dX5_addLoop_97 rfl ?_
            refine j_iconst (v := 0) C dX5_addLoop_98 rfl ?_
            refine j_iastN (x := 3) (ws' := [(m0, .inr (4, [.int 0, .int (nI N), .ref tb, .ref md, .ref rw0, .int sz, .ref cs, .ref va, .int lk, .ref rn, .ref kp])), (tb, jaR g 10 (fun i => some (tr i))), (tr k, jaI g 253 (jrw n f)), (nw_5, jaI g 4 (upd (upd (upd (upd (fun _ => 0) 0 s0) 1 e0) 2 (jb up)) 3 0))]) 3 C dX5_addLoop_99 rfl rfl (by omega) (by decide) rfl ?_
            refine j_astore (L' := [(0, .ref m0), (1, .int (nI k)), (2, .int s0), (3, .int e0), (4, .int (jb up)), (5, .ref (tr k)), (6, .ref nw_5)]) C dX5_addLoop_100 (Nat.le_of_ble_eq_true rfl) rfl rfl ?_
            refine j_aload 6 C dX5_addLoop_102 rfl ?_
            refine j_iconst (v := 0) C dX5_addLoop_104 rfl ?_
            refine j_aload 5 C dX5_addLoop_105 rfl ?_
            refine j_aload 5 C dX5_addLoop_107 rfl ?_
            refine j_iconst (v := 0) C dX5_addLoop_109 rfl ?_
            refine j_ialdR0 2 C dX5_addLoop_110 rfl rfl ?_
            refine j_callRi (v := nI (1 + 28 * n)) (j_runS (As := [.int (nI n)]) (rest := [.ref (tr k), .int 0, .ref nw_5]) [] C (c_X5_loopAt l g n) gX5_addLoop_X5_loopAt rfl rfl rfl hd_X5_loopAt ⟨Nat.le_of_ble_eq_true rfl, Nat.le_of_ble_eq_true rfl⟩ rfl rfl dX5_addLoop_111 rfl (Nat.le_of_ble_eq_true rfl) ⟨Nat.le_of_ble_eq_true rfl, Nat.le_of_ble_eq_true rfl⟩) ?_
            refine j_iconst (v := 4) C dX5_addLoop_114 rfl ?_
            refine j_copyI (sp := 0) (dp := 1 + 28 * n) (n := 4) (rest := []) (ws' := [(m0, .inr (4, [.int 0, .int (nI N), .ref tb, .ref md, .ref rw0, .int sz, .ref cs, .ref va, .int lk, .ref rn, .ref kp])), (tb, jaR g 10 (fun i => some (tr i))), (tr k, jaI g 253 (va_cpy (upd (upd (upd (upd (fun _ => 0) 0 s0) 1 e0) 2 (jb up)) 3 0) (jrw n f) 0 (1 + 28 * n) 4)), (nw_5, jaI g 4 (upd (upd (upd (upd (fun _ => 0) 0 s0) 1 e0) 2 (jb up)) 3 0))]) 3 2 C dX5_addLoop_115 (List.mem_of_getElem? (i := 5) rfl) (List.mem_of_getElem? (i := 6) rfl) (List.mem_of_getElem? (i := 7) rfl) (List.mem_of_getElem? (i := 8) rfl) rfl rfl rfl rfl rfl (by omega) (by omega) (by decide) (by decide) (Nat.le_of_ble_eq_true rfl) (Nat.le_of_ble_eq_true rfl) rfl ?_
            refine j_eq (pc' := 118) (L' := [(0, .ref m0), (1, .int (nI k)), (2, .int s0), (3, .int e0), (4, .int (jb up)), (5, .ref (tr k)), (6, .ref nw_5)]) (st' := []) (ws' := [(m0, .inr (4, [.int 0, .int (nI N), .ref tb, .ref md, .ref rw0, .int sz, .ref cs, .ref va, .int lk, .ref rn, .ref kp])), (tb, jaR g 10 (fun i => some (tr i))), (tr k, jaI g 253 (jrw n (upd (upd (upd (upd f (n * 28 + 0) s0) (n * 28 + 1) e0) (n * 28 + 2) (jb up)) (n * 28 + 3) 0))), (nw_5, jaI g 4 (upd (upd (upd (upd (fun _ => 0) 0 s0) 1 e0) 2 (jb up)) 3 0))]) ?_ rfl rfl rfl (by rw [jsaid (y0 := n * 28 + 0) (y1 := n * 28 + 1) (y2 := n * 28 + 2) (y3 := n * 28 + 3) (by omega) (by omega) (by omega) (by omega)])
            refine j_aload 5 C dX5_addLoop_118 rfl ?_
            refine j_iconst (v := 0) C dX5_addLoop_120 rfl ?_
            refine j_dup2 C dX5_addLoop_121 rfl rfl ?_
            refine j_ialdR0 2 C dX5_addLoop_122 rfl rfl ?_
            refine j_iconst (v := 1) C dX5_addLoop_123 rfl ?_
            refine j_iadd (x := nI n) (y := 1) (v := nI (n + 1)) C dX5_addLoop_124 (nI_add n 1) ?_
            refine j_iastR0 (n1 := n + 1) (ws' := [(m0, .inr (4, [.int 0, .int (nI N), .ref tb, .ref md, .ref rw0, .int sz, .ref cs, .ref va, .int lk, .ref rn, .ref kp])), (tb, jaR g 10 (fun i => some (tr i))), (tr k, jaI g 253 (jrw (n + 1) (upd (upd (upd (upd f (n * 28 + 0) s0) (n * 28 + 1) e0) (n * 28 + 2) (jb up)) (n * 28 + 3) 0))), (nw_5, jaI g 4 (upd (upd (upd (upd (fun _ => 0) 0 s0) 1 e0) 2 (jb up)) 3 0))]) 2 C dX5_addLoop_125 rfl rfl rfl rfl ?_
            refine j_aload 5 C dX5_addLoop_126 rfl ?_
            refine j_iconst (v := 0) C dX5_addLoop_128 rfl ?_
            refine j_ialdR0 2 C dX5_addLoop_129 rfl rfl ?_
            refine j_iconst (v := 1) C dX5_addLoop_130 rfl ?_
            refine j_isub (x := nI (n + 1)) (y := 1) (v := nI ((n + 1) - 1)) C dX5_addLoop_131 (pk_sub (a := (n + 1)) (b := 1) (by omega)) ?_
            refine j_wsub (ws' := [(m0, .inr (4, [.int 0, .int (nI N), .ref tb, .ref md, .ref rw0, .int sz, .ref cs, .ref va, .int lk, .ref rn, .ref kp])), (tb, jaR g 10 (fun i => some (tr i))), (tr k, jaI g 253 (jrw (n + 1) (upd (upd (upd (upd f (n * 28 + 0) s0) (n * 28 + 1) e0) (n * 28 + 2) (jb up)) (n * 28 + 3) 0)))]) [0, 1, 2] rfl rfl ?_
            exact j_iretW (v := nI ((n + 1) - 1)) C hr dX5_addLoop_132 () (by rfl) rfl
          · skip
            have c_6 : up = true := jb_1 c_6
            refine j_iconst (v := 1) C dX5_addLoop_90 rfl ?_
            refine j_goto (tgt := 95) C dX5_addLoop_91 (by decide) ?_
            refine j_eq (pc' := 95) (L' := [(0, .ref m0), (1, .int (nI k)), (2, .int s0), (3, .int e0), (4, .int (jb up)), (5, .ref (tr k))]) (st' := [.int (jb up), .int 2, .ref nw_5, .ref nw_5]) (ws' := [(m0, .inr (4, [.int 0, .int (nI N), .ref tb, .ref md, .ref rw0, .int sz, .ref cs, .ref va, .int lk, .ref rn, .ref kp])), (tb, jaR g 10 (fun i => some (tr i))), (tr k, jaI g 253 (jrw n f)), (nw_5, jaI g 4 (upd (upd (fun _ => 0) 0 s0) 1 e0))]) ?_ rfl rfl (by rw [‹up = _›]; rfl) rfl
            refine j_iastN (x := 2) (ws' := [(m0, .inr (4, [.int 0, .int (nI N), .ref tb, .ref md, .ref rw0, .int sz, .ref cs, .ref va, .int lk, .ref rn, .ref kp])), (tb, jaR g 10 (fun i => some (tr i))), (tr k, jaI g 253 (jrw n f)), (nw_5, jaI g 4 (upd (upd (upd (fun _ => 0) 0 s0) 1 e0) 2 (jb up)))]) 3 C dX5_addLoop_95 rfl rfl (by omega) (by decide) rfl ?_
            refine j_dup C dX5_addLoop_96 rfl ?_
            refine j_iconst (v := 3) C dX5_addLoop_97 rfl ?_
            refine j_iconst (v := 0) C dX5_addLoop_98 rfl ?_
            refine j_iastN (x := 3) (ws' := [(m0, .inr (4, [.int 0, .int (nI N), .ref tb, .ref md, .ref rw0, .int sz, .ref cs, .ref va, .int lk, .ref rn, .ref kp])), (tb, jaR g 10 (fun i => some (tr i))), (tr k, jaI g 253 (jrw n f)), (nw_5, jaI g 4 (upd (upd (upd (upd (fun _ => 0) 0 s0) 1 e0) 2 (jb up)) 3 0))]) 3 C dX5_addLoop_99 rfl rfl (by omega) (by decide) rfl ?_
            refine j_astore (L' := [(0, .ref m0), (1, .int (nI k)), (2, .int s0), (3, .int e0), (4, .int (jb up)), (5, .ref (tr k)), (6, .ref nw_5)]) C dX5_addLoop_100 (Nat.le_of_ble_eq_true rfl) rfl rfl ?_
            refine j_aload 6 C dX5_addLoop_102 rfl ?_
            refine j_iconst (v := 0) C dX5_addLoop_104 rfl ?_
            refine j_aload 5 C dX5_addLoop_105 rfl ?_
            refine j_aload 5 C dX5_addLoop_107 rfl ?_
            refine j_iconst (v := 0) C dX5_addLoop_109 rfl ?_
            refine j_ialdR0 2 C dX5_addLoop_110 rfl rfl ?_
            refine j_callRi (v := nI (1 + 28 * n)) (j_runS (As := [.int (nI n)]) (rest := [.ref (tr k), .int 0, .ref nw_5]) [] C (c_X5_loopAt l g n) gX5_addLoop_X5_loopAt rfl rfl rfl hd_X5_loopAt ⟨Nat.le_of_ble_eq_true rfl, Nat.le_of_ble_eq_true rfl⟩ rfl rfl dX5_addLoop_111 rfl (Nat.le_of_ble_eq_true rfl) ⟨Nat.le_of_ble_eq_true rfl, Nat.le_of_ble_eq_true rfl⟩) ?_
            refine j_iconst (v := 4) C dX5_addLoop_114 rfl ?_
            refine j_copyI (sp := 0) (dp := 1 + 28 * n) (n := 4) (rest := []) (ws' := [(m0, .inr (4, [.int 0, .int (nI N), .ref tb, .ref md, .ref rw0, .int sz, .ref cs, .ref va, .int lk, .ref rn, .ref kp])), (tb, jaR g 10 (fun i => some (tr i))), (tr k, jaI g 253 (va_cpy (upd (upd (upd (upd (fun _ => 0) 0 s0) 1 e0) 2 (jb up)) 3 0) (jrw n f) 0 (1 + 28 * n) 4)), (nw_5, jaI g 4 (upd (upd (upd (upd (fun _ => 0) 0 s0) 1 e0) 2 (jb up)) 3 0))]) 3 2 C dX5_addLoop_115 (List.mem_of_getElem? (i := 5) rfl) (List.mem_of_getElem? (i := 6) rfl) (List.mem_of_getElem? (i := 7) rfl) (List.mem_of_getElem? (i := 8) rfl) rfl rfl rfl rfl rfl (by omega) (by omega) (by decide) (by decide) (Nat.le_of_ble_eq_true rfl) (Nat.le_of_ble_eq_true rfl) rfl ?_
            refine j_eq (pc' := 118) (L' := [(0, .ref m0), (1, .int (nI k)), (2, .int s0), (3, .int e0), (4, .int (jb up)), (5, .ref (tr k)), (6, .ref nw_5)]) (st' := []) (ws' := [(m0, .inr (4, [.int 0, .int (nI N), .ref tb, .ref md, .ref rw0, .int sz, .ref cs, .ref va, .int lk, .ref rn, .ref kp])), (tb, jaR g 10 (fun i => some (tr i))), (tr k, jaI g 253 (jrw n (upd (upd (upd (upd f (n * 28 + 0) s0) (n * 28 + 1) e0) (n * 28 + 2) (jb up)) (n * 28 + 3) 0))), (nw_5, jaI g 4 (upd (upd (upd (upd (fun _ => 0) 0 s0) 1 e0) 2 (jb up)) 3 0))]) ?_ rfl rfl rfl (by rw [jsaid (y0 := n * 28 + 0) (y1 := n * 28 + 1) (y2 := n * 28 + 2) (y3 := n * 28 + 3) (by omega) (by omega) (by omega) (by omega)])
            refine j_aload 5 C dX5_addLoop_118 rfl ?_
            refine j_iconst (v := 0) C dX5_addLoop_120 rfl ?_
            refine j_dup2 C dX5_addLoop_121 rfl rfl ?_
            refine j_ialdR0 2 C dX5_addLoop_122 rfl rfl ?_
            refine j_iconst (v := 1) C dX5_addLoop_123 rfl ?_
            refine j_iadd (x := nI n) (y := 1) (v := nI (n + 1)) C dX5_addLoop_124 (nI_add n 1) ?_
            refine j_iastR0 (n1 := n + 1) (ws' := [(m0, .inr (4, [.int 0, .int (nI N), .ref tb, .ref md, .ref rw0, .int sz, .ref cs, .ref va, .int lk, .ref rn, .ref kp])), (tb, jaR g 10 (fun i => some (tr i))), (tr k, jaI g 253 (jrw (n + 1) (upd (upd (upd (upd f (n * 28 + 0) s0) (n * 28 + 1) e0) (n * 28 + 2) (jb up)) (n * 28 + 3) 0))), (nw_5, jaI g 4 (upd (upd (upd (upd (fun _ => 0) 0 s0) 1 e0) 2 (jb up)) 3 0))]) 2 C dX5_addLoop_125 rfl rfl rfl rfl ?_
            refine j_aload 5 C dX5_addLoop_126 rfl ?_
            refine j_iconst (v := 0) C dX5_addLoop_128 rfl ?_
            refine j_ialdR0 2 C dX5_addLoop_129 rfl rfl ?_
            refine j_iconst (v := 1) C dX5_addLoop_130 rfl ?_
            refine j_isub (x := nI (n + 1)) (y := 1) (v := nI ((n + 1) - 1)) C dX5_addLoop_131 (pk_sub (a := (n + 1)) (b := 1) (by omega)) ?_
            refine j_wsub (ws' := [(m0, .inr (4, [.int 0, .int (nI N), .ref tb, .ref md, .ref rw0, .int sz, .ref cs, .ref va, .int lk, .ref rn, .ref kp])), (tb, jaR g 10 (fun i => some (tr i))), (tr k, jaI g 253 (jrw (n + 1) (upd (upd (upd (upd f (n * 28 + 0) s0) (n * 28 + 1) e0) (n * 28 + 2) (jb up)) (n * 28 + 3) 0)))]) [0, 1, 2] rfl rfl ?_
            exact j_iretW (v := nI ((n + 1) - 1)) C hr dX5_addLoop_132 () (by rfl) rfl
        · skip
          have c_4 : n = 8 := (nI_eq (a := n) (b := 8) (by omega) (by omega)).mp c_4
          exact absurd c_4 (by omega)
      · skip
        have c_3 : true = false := jb_0 c_3
        (first | exact absurd c_3 (by decide) | exact absurd c_3 (by omega) | simp_all)
  · skip
    have c_1 : true = false := jb_0 c_1
    (first | exact absurd c_1 (by decide) | exact absurd c_1 (by omega) | simp_all)
set_option maxHeartbeats 4000000 in
set_option maxRecDepth 100000 in
theorem c_X5_addStep_p (l : Launch) (g : jG) (m0 : Nat) (th : Int32) (N tb md rw0 : Nat) (sz : Int32) (cs va : Nat) (lk : Int32) (rn kp : Nat) (x y : Int32) (v0 v1 v2 v3 : Int32) (hx : jBt x 0 (nI N - 1) = false) : jWi l yX5_addStep wsX5_addStep ({ frames := 3, cells := 0, slots := 0, locals := 68 }) g [.ref m0, .int x, .int y, .int v0, .int v1, .int v2, .int v3] [(m0, .inr (4, [.int th, .int (nI N), .ref tb, .ref md, .ref rw0, .int sz, .ref cs, .ref va, .int lk, .ref rn, .ref kp]))] [(m0, .inr (4, [.int 1, .int (nI N), .ref tb, .ref md, .ref rw0, .int sz, .ref cs, .ref va, .int lk, .ref rn, .ref kp]))] 0 := by
  refine j_enterW (Qc := fun sz_ => va_Qi (fun r (_ : Unit) => r = 0) (fun _ t => va_P g.1 vwCl [(m0, .inr (4, [.int 1, .int (nI N), .ref tb, .ref md, .ref rw0, .int sz, .ref cs, .ref va, .int lk, .ref rn, .ref kp]))] t.heap) (va_A [(m0, .inr (4, [.int th, .int (nI N), .ref tb, .ref md, .ref rw0, .int sz, .ref cs, .ref va, .int lk, .ref rn, .ref kp]))] sz_)) (cc := cX5_addStep) (maxL := 11) (ret := (some .int)) (own := RX5) (L := [(0, .ref m0), (1, .int x), (2, .int y), (3, .int v0), (4, .int v1), (5, .int v2), (6, .int v3)]) (by decide) rfl rfl (Nat.le_of_ble_eq_true rfl) rfl (fun p e s m args below meth c C hr => ?_)
  refine j_aload_n 0 C dX5_addStep_0 rfl rfl ?_
  refine j_iconst (v := 0) C dX5_addStep_1 rfl ?_
  refine j_put (Cn := RX5) (T := TX5) (N := 11) (ws' := [(m0, .inr (4, [.int 0, .int (nI N), .ref tb, .ref md, .ref rw0, .int sz, .ref cs, .ref va, .int lk, .ref rn, .ref kp]))]) tyX5 0 0 C dX5_addStep_2 hin_X5_addStep_X5 tyX5_ok nmX5 rfl rfl (by decide) (List.mem_of_getElem? (i := 1) rfl) rfl (tyX5_ok 0 (by decide)) rfl rfl (Nat.le_of_ble_eq_true rfl) rfl ?_
  refine j_aload_n 0 C dX5_addStep_5 rfl rfl ?_
  refine j_iload_n 1 C dX5_addStep_6 rfl rfl ?_
  refine j_iload_n 2 C dX5_addStep_7 rfl rfl ?_
  refine j_callRi (v := jb false) (j_runV (ci := 0) (As := [.int x, .int y]) (rest := []) [0] C (c_X5_isLoop_p l g m0 0 N tb md rw0 sz cs va lk rn kp x y (by omega)) gX5_addStep_X5_isLoop rfl rfl rfl hd_X5_isLoop ⟨Nat.le_of_ble_eq_true rfl, Nat.le_of_ble_eq_true rfl⟩ rfl rfl rfl rfl dX5_addStep_8 rfl (Nat.le_of_ble_eq_true rfl) ⟨Nat.le_of_ble_eq_true rfl, Nat.le_of_ble_eq_true rfl⟩) ?_
  refine j_if_ne (tgt := 20) C dX5_addStep_11 (by decide) (fun c_1 => ?_) (fun c_1 => ?_)
  · skip
    have c_1 : false = true := jb_1 c_1
    (first | exact absurd c_1 (by decide) | exact absurd c_1 (by omega) | simp_all)
  · skip
    have c_1 : false = false := jb_0 c_1
    refine j_aload_n 0 C dX5_addStep_14 rfl rfl ?_
    refine j_iconst (v := 1) C dX5_addStep_15 rfl ?_
    refine j_callWi [0] (fun _ => [(m0, .inr (4, [.int 1, .int (nI N), .ref tb, .ref md, .ref rw0, .int sz, .ref cs, .ref va, .int lk, .ref rn, .ref kp]))]) C (j_runV (ci := 0) (As := [.int 1]) (rest := []) [0] C (c_X5_fail l g m0 0 (nI N) tb md rw0 sz cs va lk rn kp 1) gX5_addStep_X5_fail rfl rfl rfl hd_X5_fail ⟨Nat.le_of_ble_eq_true rfl, Nat.le_of_ble_eq_true rfl⟩ rfl rfl rfl rfl dX5_addStep_16 rfl (Nat.le_of_ble_eq_true rfl) ⟨Nat.le_of_ble_eq_true rfl, Nat.le_of_ble_eq_true rfl⟩) rfl (fun _ => rfl) (fun _ => rfl) (fun z _ hz => ?_)
    subst hz
    exact j_iretW (v := 0) C hr dX5_addStep_19 () rfl rfl
set_option maxHeartbeats 4000000 in
set_option maxRecDepth 100000 in
theorem c_X5_addStep_l (l : Launch) (g : jG) (m0 : Nat) (th : Int32) (N tb md rw0 : Nat) (sz : Int32) (cs va : Nat) (lk : Int32) (rn kp : Nat) (tr : Nat → Nat) (k n : Nat) (f : Nat → Int32) (y : Int32) (v0 v1 v2 v3 : Int32) (hk : k < N) (hN : N ≤ 10) (hy : jBt y 0 (nI n - 1) = false) : jWi l yX5_addStep wsX5_addStep ({ frames := 3, cells := 0, slots := 0, locals := 68 }) g [.ref m0, .int (nI k), .int y, .int v0, .int v1, .int v2, .int v3] [(m0, .inr (4, [.int th, .int (nI N), .ref tb, .ref md, .ref rw0, .int sz, .ref cs, .ref va, .int lk, .ref rn, .ref kp])), (tb, jaR g 10 (fun i => some (tr i))), (tr k, jaI g 253 (jrw n f))] [(m0, .inr (4, [.int 1, .int (nI N), .ref tb, .ref md, .ref rw0, .int sz, .ref cs, .ref va, .int lk, .ref rn, .ref kp])), (tb, jaR g 10 (fun i => some (tr i))), (tr k, jaI g 253 (jrw n f))] 0 := by
  refine j_enterW (Qc := fun sz_ => va_Qi (fun r (_ : Unit) => r = 0) (fun _ t => va_P g.1 vwCl [(m0, .inr (4, [.int 1, .int (nI N), .ref tb, .ref md, .ref rw0, .int sz, .ref cs, .ref va, .int lk, .ref rn, .ref kp])), (tb, jaR g 10 (fun i => some (tr i))), (tr k, jaI g 253 (jrw n f))] t.heap) (va_A [(m0, .inr (4, [.int th, .int (nI N), .ref tb, .ref md, .ref rw0, .int sz, .ref cs, .ref va, .int lk, .ref rn, .ref kp])), (tb, jaR g 10 (fun i => some (tr i))), (tr k, jaI g 253 (jrw n f))] sz_)) (cc := cX5_addStep) (maxL := 11) (ret := (some .int)) (own := RX5) (L := [(0, .ref m0), (1, .int (nI k)), (2, .int y), (3, .int v0), (4, .int v1), (5, .int v2), (6, .int v3)]) (by decide) rfl rfl (Nat.le_of_ble_eq_true rfl) rfl (fun p e s m args below meth c C hr => ?_)
  refine j_aload_n 0 C dX5_addStep_0 rfl rfl ?_
  refine j_iconst (v := 0) C dX5_addStep_1 rfl ?_
  refine j_put (Cn := RX5) (T := TX5) (N := 11) (ws' := [(m0, .inr (4, [.int 0, .int (nI N), .ref tb, .ref md, .ref rw0, .int sz, .ref cs, .ref va, .int lk, .ref rn, .ref kp])), (tb, jaR g 10 (fun i => some (tr i))), (tr k, jaI g 253 (jrw n f))]) tyX5 0 0 C dX5_addStep_2 hin_X5_addStep_X5 tyX5_ok nmX5 rfl rfl (by decide) (List.mem_of_getElem? (i := 1) rfl) rfl (tyX5_ok 0 (by decide)) rfl rfl (Nat.le_of_ble_eq_true rfl) rfl ?_
  refine j_aload_n 0 C dX5_addStep_5 rfl rfl ?_
  refine j_iload_n 1 C dX5_addStep_6 rfl rfl ?_
  refine j_iload_n 2 C dX5_addStep_7 rfl rfl ?_
  refine j_callRi (v := jb (jBt y 0 (nI n - 1))) (j_runV (ci := 0) (As := [.int (nI k), .int y]) (rest := []) [0, 1, 2] C (c_X5_isLoop l g m0 0 N tb md rw0 sz cs va lk rn kp tr k n f y (by omega) (by omega)) gX5_addStep_X5_isLoop rfl rfl rfl hd_X5_isLoop ⟨Nat.le_of_ble_eq_true rfl, Nat.le_of_ble_eq_true rfl⟩ rfl rfl rfl rfl dX5_addStep_8 rfl (Nat.le_of_ble_eq_true rfl) ⟨Nat.le_of_ble_eq_true rfl, Nat.le_of_ble_eq_true rfl⟩) ?_
  refine j_eq (pc' := 11) (L' := [(0, .ref m0), (1, .int (nI k)), (2, .int y), (3, .int v0), (4, .int v1), (5, .int v2), (6, .int v3)]) (st' := [.int (jb false)]) (ws' := [(m0, .inr (4, [.int 0, .int (nI N), .ref tb, .ref md, .ref rw0, .int sz, .ref cs, .ref va, .int lk, .ref rn, .ref kp])), (tb, jaR g 10 (fun i => some (tr i))), (tr k, jaI g 253 (jrw n f))]) ?_ rfl rfl (by rw [hy]) rfl
  refine j_if_ne (tgt := 20) C dX5_addStep_11 (by decide) (fun c_1 => ?_) (fun c_1 => ?_)
  · skip
    have c_1 : false = true := jb_1 c_1
    (first | exact absurd c_1 (by decide) | exact absurd c_1 (by omega) | simp_all)
  · skip
    have c_1 : false = false := jb_0 c_1
    refine j_aload_n 0 C dX5_addStep_14 rfl rfl ?_
    refine j_iconst (v := 1) C dX5_addStep_15 rfl ?_
    refine j_callWi [0] (fun _ => [(m0, .inr (4, [.int 1, .int (nI N), .ref tb, .ref md, .ref rw0, .int sz, .ref cs, .ref va, .int lk, .ref rn, .ref kp])), (tb, jaR g 10 (fun i => some (tr i))), (tr k, jaI g 253 (jrw n f))]) C (j_runV (ci := 0) (As := [.int 1]) (rest := []) [0] C (c_X5_fail l g m0 0 (nI N) tb md rw0 sz cs va lk rn kp 1) gX5_addStep_X5_fail rfl rfl rfl hd_X5_fail ⟨Nat.le_of_ble_eq_true rfl, Nat.le_of_ble_eq_true rfl⟩ rfl rfl rfl rfl dX5_addStep_16 rfl (Nat.le_of_ble_eq_true rfl) ⟨Nat.le_of_ble_eq_true rfl, Nat.le_of_ble_eq_true rfl⟩) rfl (fun _ => rfl) (fun _ => rfl) (fun z _ hz => ?_)
    subst hz
    exact j_iretW (v := 0) C hr dX5_addStep_19 () rfl rfl
set_option maxHeartbeats 4000000 in
set_option maxRecDepth 100000 in
theorem c_X5_addStep_a (l : Launch) (g : jG) (m0 : Nat) (th : Int32) (N tb md rw0 : Nat) (sz : Int32) (cs va : Nat) (lk : Int32) (rn kp : Nat) (tr : Nat → Nat) (k n : Nat) (f : Nat → Int32) (j : Nat) (v0 v1 v2 v3 : Int32) (hk : k < N) (hN : N ≤ 10) (hj : j < n) (hn : n ≤ 8) (hq : ((jBt v0 0 4 && (jBt v1 (-100) 100 || jBt v1 1000 1003)) && (jBt v2 0 5 && jBt v3 0 (if v2 = 4 then 0 else if v2 = 5 then 100 else 3))) = false) : jWi l yX5_addStep wsX5_addStep ({ frames := 3, cells := 0, slots := 0, locals := 68 }) g [.ref m0, .int (nI k), .int (nI j), .int v0, .int v1, .int v2, .int v3] [(m0, .inr (4, [.int th, .int (nI N), .ref tb, .ref md, .ref rw0, .int sz, .ref cs, .ref va, .int lk, .ref rn, .ref kp])), (tb, jaR g 10 (fun i => some (tr i))), (tr k, jaI g 253 (jrw n f))] [(m0, .inr (4, [.int 2, .int (nI N), .ref tb, .ref md, .ref rw0, .int sz, .ref cs, .ref va, .int lk, .ref rn, .ref kp])), (tb, jaR g 10 (fun i => some (tr i))), (tr k, jaI g 253 (jrw n f))] 0 := by
  refine j_enterW (Qc := fun sz_ => va_Qi (fun r (_ : Unit) => r = 0) (fun _ t => va_P g.1 vwCl [(m0, .inr (4, [.int 2, .int (nI N), .ref tb, .ref md, .ref rw0, .int sz, .ref cs, .ref va, .int lk, .ref rn, .ref kp])), (tb, jaR g 10 (fun i => some (tr i))), (tr k, jaI g 253 (jrw n f))] t.heap) (va_A [(m0, .inr (4, [.int th, .int (nI N), .ref tb, .ref md, .ref rw0, .int sz, .ref cs, .ref va, .int lk, .ref rn, .ref kp])), (tb, jaR g 10 (fun i => some (tr i))), (tr k, jaI g 253 (jrw n f))] sz_)) (cc := cX5_addStep) (maxL := 11) (ret := (some .int)) (own := RX5) (L := [(0, .ref m0), (1, .int (nI k)), (2, .int (nI j)), (3, .int v0), (4, .int v1), (5, .int v2), (6, .int v3)]) (by decide) rfl rfl (Nat.le_of_ble_eq_true rfl) rfl (fun p e s m args below meth c C hr => ?_)
  refine j_aload_n 0 C dX5_addStep_0 rfl rfl ?_
  refine j_iconst (v := 0) C dX5_addStep_1 rfl ?_
  refine j_put (Cn := RX5) (T := TX5) (N := 11) (ws' := [(m0, .inr (4, [.int 0, .int (nI N), .ref tb, .ref md, .ref rw0, .int sz, .ref cs, .ref va, .int lk, .ref rn, .ref kp])), (tb, jaR g 10 (fun i => some (tr i))), (tr k, jaI g 253 (jrw n f))]) tyX5 0 0 C dX5_addStep_2 hin_X5_addStep_X5 tyX5_ok nmX5 rfl rfl (by decide) (List.mem_of_getElem? (i := 1) rfl) rfl (tyX5_ok 0 (by decide)) rfl rfl (Nat.le_of_ble_eq_true rfl) rfl ?_
  refine j_aload_n 0 C dX5_addStep_5 rfl rfl ?_
  refine j_iload_n 1 C dX5_addStep_6 rfl rfl ?_
  refine j_iload_n 2 C dX5_addStep_7 rfl rfl ?_
  refine j_callRi (v := jb (jBt (nI j) 0 (nI n - 1))) (j_runV (ci := 0) (As := [.int (nI k), .int (nI j)]) (rest := []) [0, 1, 2] C (c_X5_isLoop l g m0 0 N tb md rw0 sz cs va lk rn kp tr k n f (nI j) (by omega) (by omega)) gX5_addStep_X5_isLoop rfl rfl rfl hd_X5_isLoop ⟨Nat.le_of_ble_eq_true rfl, Nat.le_of_ble_eq_true rfl⟩ rfl rfl rfl rfl dX5_addStep_8 rfl (Nat.le_of_ble_eq_true rfl) ⟨Nat.le_of_ble_eq_true rfl, Nat.le_of_ble_eq_true rfl⟩) ?_
  refine j_eq (pc' := 11) (L' := [(0, .ref m0), (1, .int (nI k)), (2, .int (nI j)), (3, .int v0), (4, .int v1), (5, .int v2), (6, .int v3)]) (st' := [.int (jb true)]) (ws' := [(m0, .inr (4, [.int 0, .int (nI N), .ref tb, .ref md, .ref rw0, .int sz, .ref cs, .ref va, .int lk, .ref rn, .ref kp])), (tb, jaR g 10 (fun i => some (tr i))), (tr k, jaI g 253 (jrw n f))]) ?_ rfl rfl (by rw [jBt_n hj (by omega)]) rfl
  refine j_if_ne (tgt := 20) C dX5_addStep_11 (by decide) (fun c_1 => ?_) (fun c_1 => ?_)
  · skip
    have c_1 : true = true := jb_1 c_1
    refine j_iload 4 C dX5_addStep_20 rfl ?_
    refine j_i2l (v := v1.toInt64) C dX5_addStep_22 rfl ?_
    refine j_ldc2 (v := -100) C dX5_addStep_23 (List.mem_of_getElem? (i := 2) rfl) ?_
    refine j_ldc2 (v := 100) C dX5_addStep_26 (List.mem_of_getElem? (i := 3) rfl) ?_
    refine j_callRi (v := jb (jIn v1.toInt64 (-100) 100)) (j_runS (As := [.long v1.toInt64, .long (-100), .long 100]) (rest := []) [] C (c_X5_isIn l g v1.toInt64 (-100) 100) gX5_addStep_X5_isIn rfl rfl rfl hd_X5_isIn ⟨Nat.le_of_ble_eq_true rfl, Nat.le_of_ble_eq_true rfl⟩ rfl rfl dX5_addStep_29 rfl (Nat.le_of_ble_eq_true rfl) ⟨Nat.le_of_ble_eq_true rfl, Nat.le_of_ble_eq_true rfl⟩) ?_
    refine j_eq (pc' := 32) (L' := [(0, .ref m0), (1, .int (nI k)), (2, .int (nI j)), (3, .int v0), (4, .int v1), (5, .int v2), (6, .int v3)]) (st' := [.int (jb (jBt v1 (-100) 100))]) (ws' := [(m0, .inr (4, [.int 0, .int (nI N), .ref tb, .ref md, .ref rw0, .int sz, .ref cs, .ref va, .int lk, .ref rn, .ref kp])), (tb, jaR g 10 (fun i => some (tr i))), (tr k, jaI g 253 (jrw n f))]) ?_ rfl rfl (by rw [jIn_b v1 (-100) 100 _ _ (by decide) (by decide)]) rfl
    refine j_if_ne (tgt := 50) C dX5_addStep_32 (by decide) (fun c_2 => ?_) (fun c_2 => ?_)
    · skip
      have c_2 : (jBt v1 (-100) 100) = true := jb_1 c_2
      refine j_iconst (v := 1) C dX5_addStep_50 rfl ?_
      refine j_goto (tgt := 55) C dX5_addStep_51 (by decide) ?_
      refine j_istore (L' := [(0, .ref m0), (1, .int (nI k)), (2, .int (nI j)), (3, .int v0), (4, .int v1), (5, .int v2), (6, .int v3), (7, .int 1)]) C dX5_addStep_55 (Nat.le_of_ble_eq_true rfl) rfl rfl ?_
      refine j_iload_n 3 C dX5_addStep_57 rfl rfl ?_
      refine j_i2l (v := v0.toInt64) C dX5_addStep_58 rfl ?_
      refine j_lconst (v := 0) C dX5_addStep_59 rfl ?_
      refine j_ldc2 (v := 4) C dX5_addStep_60 (List.mem_of_getElem? (i := 6) rfl) ?_
      refine j_callRi (v := jb (jIn v0.toInt64 0 4)) (j_runS (As := [.long v0.toInt64, .long 0, .long 4]) (rest := []) [] C (c_X5_isIn l g v0.toInt64 0 4) gX5_addStep_X5_isIn rfl rfl rfl hd_X5_isIn ⟨Nat.le_of_ble_eq_true rfl, Nat.le_of_ble_eq_true rfl⟩ rfl rfl dX5_addStep_63 rfl (Nat.le_of_ble_eq_true rfl) ⟨Nat.le_of_ble_eq_true rfl, Nat.le_of_ble_eq_true rfl⟩) ?_
      refine j_eq (pc' := 66) (L' := [(0, .ref m0), (1, .int (nI k)), (2, .int (nI j)), (3, .int v0), (4, .int v1), (5, .int v2), (6, .int v3), (7, .int 1)]) (st' := [.int (jb (jBt v0 0 4))]) (ws' := [(m0, .inr (4, [.int 0, .int (nI N), .ref tb, .ref md, .ref rw0, .int sz, .ref cs, .ref va, .int lk, .ref rn, .ref kp])), (tb, jaR g 10 (fun i => some (tr i))), (tr k, jaI g 253 (jrw n f))]) ?_ rfl rfl (by rw [jIn_b v0 0 4 _ _ (by decide) (by decide)]) rfl
      refine j_if_eq (tgt := 122) C dX5_addStep_66 (by decide) (fun c_3 => ?_) (fun c_3 => ?_)
      · skip
        have c_3 : (jBt v0 0 4) = false := jb_0 c_3
        refine j_aload_n 0 C dX5_addStep_122 rfl rfl ?_
        refine j_iconst (v := 2) C dX5_addStep_123 rfl ?_
        refine j_callWi [0] (fun _ => [(m0, .inr (4, [.int 2, .int (nI N), .ref tb, .ref md, .ref rw0, .int sz, .ref cs, .ref va, .int lk, .ref rn, .ref kp])), (tb, jaR g 10 (fun i => some (tr i))), (tr k, jaI g 253 (jrw n f))]) C (j_runV (ci := 0) (As := [.int 2]) (rest := []) [0] C (c_X5_fail l g m0 0 (nI N) tb md rw0 sz cs va lk rn kp 2) gX5_addStep_X5_fail rfl rfl rfl hd_X5_fail ⟨Nat.le_of_ble_eq_true rfl, Nat.le_of_ble_eq_true rfl⟩ rfl rfl rfl rfl dX5_addStep_124 rfl (Nat.le_of_ble_eq_true rfl) ⟨Nat.le_of_ble_eq_true rfl, Nat.le_of_ble_eq_true rfl⟩) rfl (fun _ => rfl) (fun _ => rfl) (fun z _ hz => ?_)
        subst hz
        exact j_iretW (v := 0) C hr dX5_addStep_127 () rfl rfl
      · skip
        have c_3 : (jBt v0 0 4) = true := jb_1 c_3
        refine j_iload 7 C dX5_addStep_69 rfl ?_
        refine j_if_eq (tgt := 122) C dX5_addStep_71 (by decide) (fun c_5 => ?_) (fun c_5 => ?_)
        · skip
          exact absurd c_5 (by decide)
        · skip
          refine j_iload 5 C dX5_addStep_74 rfl ?_
          refine j_i2l (v := v2.toInt64) C dX5_addStep_76 rfl ?_
          refine j_lconst (v := 0) C dX5_addStep_77 rfl ?_
          refine j_ldc2 (v := 5) C dX5_addStep_78 (List.mem_of_getElem? (i := 7) rfl) ?_
          refine j_callRi (v := jb (jIn v2.toInt64 0 5)) (j_runS (As := [.long v2.toInt64, .long 0, .long 5]) (rest := []) [] C (c_X5_isIn l g v2.toInt64 0 5) gX5_addStep_X5_isIn rfl rfl rfl hd_X5_isIn ⟨Nat.le_of_ble_eq_true rfl, Nat.le_of_ble_eq_true rfl⟩ rfl rfl dX5_addStep_81 rfl (Nat.le_of_ble_eq_true rfl) ⟨Nat.le_of_ble_eq_true rfl, Nat.le_of_ble_eq_true rfl⟩) ?_
          refine j_eq (pc' := 84) (L' := [(0, .ref m0), (1, .int (nI k)), (2, .int (nI j)), (3, .int v0), (4, .int v1), (5, .int v2), (6, .int v3), (7, .int 1)]) (st' := [.int (jb (jBt v2 0 5))]) (ws' := [(m0, .inr (4, [.int 0, .int (nI N), .ref tb, .ref md, .ref rw0, .int sz, .ref cs, .ref va, .int lk, .ref rn, .ref kp])), (tb, jaR g 10 (fun i => some (tr i))), (tr k, jaI g 253 (jrw n f))]) ?_ rfl rfl (by rw [jIn_b v2 0 5 _ _ (by decide) (by decide)]) rfl
          refine j_if_eq (tgt := 122) C dX5_addStep_84 (by decide) (fun c_6 => ?_) (fun c_6 => ?_)
          · skip
            have c_6 : (jBt v2 0 5) = false := jb_0 c_6
            refine j_aload_n 0 C dX5_addStep_122 rfl rfl ?_
            refine j_iconst (v := 2) C dX5_addStep_123 rfl ?_
            refine j_callWi [0] (fun _ => [(m0, .inr (4, [.int 2, .int (nI N), .ref tb, .ref md, .ref rw0, .int sz, .ref cs, .ref va, .int lk, .ref rn, .ref kp])), (tb, jaR g 10 (fun i => some (tr i))), (tr k, jaI g 253 (jrw n f))]) C (j_runV (ci := 0) (As := [.int 2]) (rest := []) [0] C (c_X5_fail l g m0 0 (nI N) tb md rw0 sz cs va lk rn kp 2) gX5_addStep_X5_fail rfl rfl rfl hd_X5_fail ⟨Nat.le_of_ble_eq_true rfl, Nat.le_of_ble_eq_true rfl⟩ rfl rfl rfl rfl dX5_addStep_124 rfl (Nat.le_of_ble_eq_true rfl) ⟨Nat.le_of_ble_eq_true rfl, Nat.le_of_ble_eq_true rfl⟩) rfl (fun _ => rfl) (fun _ => rfl) (fun z _ hz => ?_)
            subst hz
            exact j_iretW (v := 0) C hr dX5_addStep_127 () rfl rfl
          · skip
            have c_6 : (jBt v2 0 5) = true := jb_1 c_6
            refine j_iload 6 C dX5_addStep_87 rfl ?_
            refine j_i2l (v := v3.toInt64) C dX5_addStep_89 rfl ?_
            refine j_lconst (v := 0) C dX5_addStep_90 rfl ?_
            refine j_iload 5 C dX5_addStep_91 rfl ?_
            refine j_iconst (v := 4) C dX5_addStep_93 rfl ?_
            refine j_icmp_ne (tgt := 101) C dX5_addStep_94 (by decide) (fun c_8 => ?_) (fun c_8 => ?_)
            · skip
              refine j_iload 5 C dX5_addStep_101 rfl ?_
              refine j_iconst (v := 5) C dX5_addStep_103 rfl ?_
              refine j_icmp_ne (tgt := 113) C dX5_addStep_104 (by decide) (fun c_9 => ?_) (fun c_9 => ?_)
              · skip
                refine j_ldc2 (v := 3) C dX5_addStep_113 (List.mem_of_getElem? (i := 8) rfl) ?_
                refine j_callRi (v := jb (jIn v3.toInt64 0 3)) (j_runS (As := [.long v3.toInt64, .long 0, .long 3]) (rest := []) [] C (c_X5_isIn l g v3.toInt64 0 3) gX5_addStep_X5_isIn rfl rfl rfl hd_X5_isIn ⟨Nat.le_of_ble_eq_true rfl, Nat.le_of_ble_eq_true rfl⟩ rfl rfl dX5_addStep_116 rfl (Nat.le_of_ble_eq_true rfl) ⟨Nat.le_of_ble_eq_true rfl, Nat.le_of_ble_eq_true rfl⟩) ?_
                refine j_eq (pc' := 119) (L' := [(0, .ref m0), (1, .int (nI k)), (2, .int (nI j)), (3, .int v0), (4, .int v1), (5, .int v2), (6, .int v3), (7, .int 1)]) (st' := [.int (jb (jBt v3 0 3))]) (ws' := [(m0, .inr (4, [.int 0, .int (nI N), .ref tb, .ref md, .ref rw0, .int sz, .ref cs, .ref va, .int lk, .ref rn, .ref kp])), (tb, jaR g 10 (fun i => some (tr i))), (tr k, jaI g 253 (jrw n f))]) ?_ rfl rfl (by rw [jIn_b v3 0 3 _ _ (by decide) (by decide)]) rfl
                refine j_if_ne (tgt := 128) C dX5_addStep_119 (by decide) (fun c_10 => ?_) (fun c_10 => ?_)
                · skip
                  have c_10 : (jBt v3 0 3) = true := jb_1 c_10
                  (first | exact absurd c_10 (by decide) | exact absurd c_10 (by omega) | simp_all)
                · skip
                  have c_10 : (jBt v3 0 3) = false := jb_0 c_10
                  refine j_aload_n 0 C dX5_addStep_122 rfl rfl ?_
                  refine j_iconst (v := 2) C dX5_addStep_123 rfl ?_
                  refine j_callWi [0] (fun _ => [(m0, .inr (4, [.int 2, .int (nI N), .ref tb, .ref md, .ref rw0, .int sz, .ref cs, .ref va, .int lk, .ref rn, .ref kp])), (tb, jaR g 10 (fun i => some (tr i))), (tr k, jaI g 253 (jrw n f))]) C (j_runV (ci := 0) (As := [.int 2]) (rest := []) [0] C (c_X5_fail l g m0 0 (nI N) tb md rw0 sz cs va lk rn kp 2) gX5_addStep_X5_fail rfl rfl rfl hd_X5_fail ⟨Nat.le_of_ble_eq_true rfl, Nat.le_of_ble_eq_true rfl⟩ rfl rfl rfl rfl dX5_addStep_124 rfl (Nat.le_of_ble_eq_true rfl) ⟨Nat.le_of_ble_eq_true rfl, Nat.le_of_ble_eq_true rfl⟩) rfl (fun _ => rfl) (fun _ => rfl) (fun z _ hz => ?_)
                  subst hz
                  exact j_iretW (v := 0) C hr dX5_addStep_127 () rfl rfl
              · skip
                refine j_ldc2 (v := 100) C dX5_addStep_107 (List.mem_of_getElem? (i := 3) rfl) ?_
                refine j_goto (tgt := 116) C dX5_addStep_110 (by decide) ?_
                refine j_callRi (v := jb (jIn v3.toInt64 0 100)) (j_runS (As := [.long v3.toInt64, .long 0, .long 100]) (rest := []) [] C (c_X5_isIn l g v3.toInt64 0 100) gX5_addStep_X5_isIn rfl rfl rfl hd_X5_isIn ⟨Nat.le_of_ble_eq_true rfl, Nat.le_of_ble_eq_true rfl⟩ rfl rfl dX5_addStep_116 rfl (Nat.le_of_ble_eq_true rfl) ⟨Nat.le_of_ble_eq_true rfl, Nat.le_of_ble_eq_true rfl⟩) ?_
                refine j_eq (pc' := 119) (L' := [(0, .ref m0), (1, .int (nI k)), (2, .int (nI j)), (3, .int v0), (4, .int v1), (5, .int v2), (6, .int v3), (7, .int 1)]) (st' := [.int (jb (jBt v3 0 100))]) (ws' := [(m0, .inr (4, [.int 0, .int (nI N), .ref tb, .ref md, .ref rw0, .int sz, .ref cs, .ref va, .int lk, .ref rn, .ref kp])), (tb, jaR g 10 (fun i => some (tr i))), (tr k, jaI g 253 (jrw n f))]) ?_ rfl rfl (by rw [jIn_b v3 0 100 _ _ (by decide) (by decide)]) rfl
                refine j_if_ne (tgt := 128) C dX5_addStep_119 (by decide) (fun c_12 => ?_) (fun c_12 => ?_)
                · skip
                  have c_12 : (jBt v3 0 100) = true := jb_1 c_12
                  (first | exact absurd c_12 (by decide) | exact absurd c_12 (by omega) | simp_all)
                · skip
                  have c_12 : (jBt v3 0 100) = false := jb_0 c_12
                  refine j_aload_n 0 C dX5_addStep_122 rfl rfl ?_
                  refine j_iconst (v := 2) C dX5_addStep_123 rfl ?_
                  refine j_callWi [0] (fun _ => [(m0, .inr (4, [.int 2, .int (nI N), .ref tb, .ref md, .ref rw0, .int sz, .ref cs, .ref va, .int lk, .ref rn, .ref kp])), (tb, jaR g 10 (fun i => some (tr i))), (tr k, jaI g 253 (jrw n f))]) C (j_runV (ci := 0) (As := [.int 2]) (rest := []) [0] C (c_X5_fail l g m0 0 (nI N) tb md rw0 sz cs va lk rn kp 2) gX5_addStep_X5_fail rfl rfl rfl hd_X5_fail ⟨Nat.le_of_ble_eq_true rfl, Nat.le_of_ble_eq_true rfl⟩ rfl rfl rfl rfl dX5_addStep_124 rfl (Nat.le_of_ble_eq_true rfl) ⟨Nat.le_of_ble_eq_true rfl, Nat.le_of_ble_eq_true rfl⟩) rfl (fun _ => rfl) (fun _ => rfl) (fun z _ hz => ?_)
                  subst hz
                  exact j_iretW (v := 0) C hr dX5_addStep_127 () rfl rfl
            · skip
              refine j_lconst (v := 0) C dX5_addStep_97 rfl ?_
              refine j_goto (tgt := 116) C dX5_addStep_98 (by decide) ?_
              refine j_callRi (v := jb (jIn v3.toInt64 0 0)) (j_runS (As := [.long v3.toInt64, .long 0, .long 0]) (rest := []) [] C (c_X5_isIn l g v3.toInt64 0 0) gX5_addStep_X5_isIn rfl rfl rfl hd_X5_isIn ⟨Nat.le_of_ble_eq_true rfl, Nat.le_of_ble_eq_true rfl⟩ rfl rfl dX5_addStep_116 rfl (Nat.le_of_ble_eq_true rfl) ⟨Nat.le_of_ble_eq_true rfl, Nat.le_of_ble_eq_true rfl⟩) ?_
              refine j_eq (pc' := 119) (L' := [(0, .ref m0), (1, .int (nI k)), (2, .int (nI j)), (3, .int v0), (4, .int v1), (5, .int v2), (6, .int v3), (7, .int 1)]) (st' := [.int (jb (jBt v3 0 0))]) (ws' := [(m0, .inr (4, [.int 0, .int (nI N), .ref tb, .ref md, .ref rw0, .int sz, .ref cs, .ref va, .int lk, .ref rn, .ref kp])), (tb, jaR g 10 (fun i => some (tr i))), (tr k, jaI g 253 (jrw n f))]) ?_ rfl rfl (by rw [jIn_b v3 0 0 _ _ (by decide) (by decide)]) rfl
              refine j_if_ne (tgt := 128) C dX5_addStep_119 (by decide) (fun c_14 => ?_) (fun c_14 => ?_)
              · skip
                have c_14 : (jBt v3 0 0) = true := jb_1 c_14
                (first | exact absurd c_14 (by decide) | exact absurd c_14 (by omega) | simp_all)
              · skip
                have c_14 : (jBt v3 0 0) = false := jb_0 c_14
                refine j_aload_n 0 C dX5_addStep_122 rfl rfl ?_
                refine j_iconst (v := 2) C dX5_addStep_123 rfl ?_
                refine j_callWi [0] (fun _ => [(m0, .inr (4, [.int 2, .int (nI N), .ref tb, .ref md, .ref rw0, .int sz, .ref cs, .ref va, .int lk, .ref rn, .ref kp])), (tb, jaR g 10 (fun i => some (tr i))), (tr k, jaI g 253 (jrw n f))]) C (j_runV (ci := 0) (As := [.int 2]) (rest := []) [0] C (c_X5_fail l g m0 0 (nI N) tb md rw0 sz cs va lk rn kp 2) gX5_addStep_X5_fail rfl rfl rfl hd_X5_fail ⟨Nat.le_of_ble_eq_true rfl, Nat.le_of_ble_eq_true rfl⟩ rfl rfl rfl rfl dX5_addStep_124 rfl (Nat.le_of_ble_eq_true rfl) ⟨Nat.le_of_ble_eq_true rfl, Nat.le_of_ble_eq_true rfl⟩) rfl (fun _ => rfl) (fun _ => rfl) (fun z _ hz => ?_)
                subst hz
                exact j_iretW (v := 0) C hr dX5_addStep_127 () rfl rfl
    · skip
      have c_2 : (jBt v1 (-100) 100) = false := jb_0 c_2
      refine j_iload 4 C dX5_addStep_35 rfl ?_
      refine j_i2l (v := v1.toInt64) C dX5_addStep_37 rfl ?_
      refine j_ldc2 (v := 1000) C dX5_addStep_38 (List.mem_of_getElem? (i := 4) rfl) ?_
      refine j_ldc2 (v := 1003) C dX5_addStep_41 (List.mem_of_getElem? (i := 5) rfl) ?_
      refine j_callRi (v := jb (jIn v1.toInt64 1000 1003)) (j_runS (As := [.long v1.toInt64, .long 1000, .long 1003]) (rest := []) [] C (c_X5_isIn l g v1.toInt64 1000 1003) gX5_addStep_X5_isIn rfl rfl rfl hd_X5_isIn ⟨Nat.le_of_ble_eq_true rfl, Nat.le_of_ble_eq_true rfl⟩ rfl rfl dX5_addStep_44 rfl (Nat.le_of_ble_eq_true rfl) ⟨Nat.le_of_ble_eq_true rfl, Nat.le_of_ble_eq_true rfl⟩) ?_
      refine j_eq (pc' := 47) (L' := [(0, .ref m0), (1, .int (nI k)), (2, .int (nI j)), (3, .int v0), (4, .int v1), (5, .int v2), (6, .int v3)]) (st' := [.int (jb (jBt v1 1000 1003))]) (ws' := [(m0, .inr (4, [.int 0, .int (nI N), .ref tb, .ref md, .ref rw0, .int sz, .ref cs, .ref va, .int lk, .ref rn, .ref kp])), (tb, jaR g 10 (fun i => some (tr i))), (tr k, jaI g 253 (jrw n f))]) ?_ rfl rfl (by rw [jIn_b v1 1000 1003 _ _ (by decide) (by decide)]) rfl
      refine j_if_eq (tgt := 54) C dX5_addStep_47 (by decide) (fun c_16 => ?_) (fun c_16 => ?_)
      · skip
        have c_16 : (jBt v1 1000 1003) = false := jb_0 c_16
        refine j_iconst (v := 0) C dX5_addStep_54 rfl ?_
        refine j_istore (L' := [(0, .ref m0), (1, .int (nI k)), (2, .int (nI j)), (3, .int v0), (4, .int v1), (5, .int v2), (6, .int v3), (7, .int 0)]) C dX5_addStep_55 (Nat.le_of_ble_eq_true rfl) rfl rfl ?_
        refine j_iload_n 3 C dX5_addStep_57 rfl rfl ?_
        refine j_i2l (v := v0.toInt64) C dX5_addStep_58 rfl ?_
        refine j_lconst (v := 0) C dX5_addStep_59 rfl ?_
        refine j_ldc2 (v := 4) C dX5_addStep_60 (List.mem_of_getElem? (i := 6) rfl) ?_
        refine j_callRi (v := jb (jIn v0.toInt64 0 4)) (j_runS (As := [.long v0.toInt64, .long 0, .long 4]) (rest := []) [] C (c_X5_isIn l g v0.toInt64 0 4) gX5_addStep_X5_isIn rfl rfl rfl hd_X5_isIn ⟨Nat.le_of_ble_eq_true rfl, Nat.le_of_ble_eq_true rfl⟩ rfl rfl dX5_addStep_63 rfl (Nat.le_of_ble_eq_true rfl) ⟨Nat.le_of_ble_eq_true rfl, Nat.le_of_ble_eq_true rfl⟩) ?_
        refine j_eq (pc' := 66) (L' := [(0, .ref m0), (1, .int (nI k)), (2, .int (nI j)), (3, .int v0), (4, .int v1), (5, .int v2), (6, .int v3), (7, .int 0)]) (st' := [.int (jb (jBt v0 0 4))]) (ws' := [(m0, .inr (4, [.int 0, .int (nI N), .ref tb, .ref md, .ref rw0, .int sz, .ref cs, .ref va, .int lk, .ref rn, .ref kp])), (tb, jaR g 10 (fun i => some (tr i))), (tr k, jaI g 253 (jrw n f))]) ?_ rfl rfl (by rw [jIn_b v0 0 4 _ _ (by decide) (by decide)]) rfl
        refine j_if_eq (tgt := 122) C dX5_addStep_66 (by decide) (fun c_17 => ?_) (fun c_17 => ?_)
        · skip
          have c_17 : (jBt v0 0 4) = false := jb_0 c_17
          refine j_aload_n 0 C dX5_addStep_122 rfl rfl ?_
          refine j_iconst (v := 2) C dX5_addStep_123 rfl ?_
          refine j_callWi [0] (fun _ => [(m0, .inr (4, [.int 2, .int (nI N), .ref tb, .ref md, .ref rw0, .int sz, .ref cs, .ref va, .int lk, .ref rn, .ref kp])), (tb, jaR g 10 (fun i => some (tr i))), (tr k, jaI g 253 (jrw n f))]) C (j_runV (ci := 0) (As := [.int 2]) (rest := []) [0] C (c_X5_fail l g m0 0 (nI N) tb md rw0 sz cs va lk rn kp 2) gX5_addStep_X5_fail rfl rfl rfl hd_X5_fail ⟨Nat.le_of_ble_eq_true rfl, Nat.le_of_ble_eq_true rfl⟩ rfl rfl rfl rfl dX5_addStep_124 rfl (Nat.le_of_ble_eq_true rfl) ⟨Nat.le_of_ble_eq_true rfl, Nat.le_of_ble_eq_true rfl⟩) rfl (fun _ => rfl) (fun _ => rfl) (fun z _ hz => ?_)
          subst hz
          exact j_iretW (v := 0) C hr dX5_addStep_127 () rfl rfl
        · skip
          have c_17 : (jBt v0 0 4) = true := jb_1 c_17
          refine j_iload 7 C dX5_addStep_69 rfl ?_
          refine j_if_eq (tgt := 122) C dX5_addStep_71 (by decide) (fun c_19 => ?_) (fun c_19 => ?_)
          · skip
            refine j_aload_n 0 C dX5_addStep_122 rfl rfl ?_
            refine j_iconst (v := 2) C dX5_addStep_123 rfl ?_
            refine j_callWi [0] (fun _ => [(m0, .inr (4, [.int 2, .int (nI N), .ref tb, .ref md, .ref rw0, .int sz, .ref cs, .ref va, .int lk, .ref rn, .ref kp])), (tb, jaR g 10 (fun i => some (tr i))), (tr k, jaI g 253 (jrw n f))]) C (j_runV (ci := 0) (As := [.int 2]) (rest := []) [0] C (c_X5_fail l g m0 0 (nI N) tb md rw0 sz cs va lk rn kp 2) gX5_addStep_X5_fail rfl rfl rfl hd_X5_fail ⟨Nat.le_of_ble_eq_true rfl, Nat.le_of_ble_eq_true rfl⟩ rfl rfl rfl rfl dX5_addStep_124 rfl (Nat.le_of_ble_eq_true rfl) ⟨Nat.le_of_ble_eq_true rfl, Nat.le_of_ble_eq_true rfl⟩) rfl (fun _ => rfl) (fun _ => rfl) (fun z _ hz => ?_)
            subst hz
            exact j_iretW (v := 0) C hr dX5_addStep_127 () rfl rfl
          · skip
            exact absurd c_19 (by decide)
      · skip
        have c_16 : (jBt v1 1000 1003) = true := jb_1 c_16
        refine j_iconst (v := 1) C dX5_addStep_50 rfl ?_
        refine j_goto (tgt := 55) C dX5_addStep_51 (by decide) ?_
        refine j_istore (L' := [(0, .ref m0), (1, .int (nI k)), (2, .int (nI j)), (3, .int v0), (4, .int v1), (5, .int v2), (6, .int v3), (7, .int 1)]) C dX5_addStep_55 (Nat.le_of_ble_eq_true rfl) rfl rfl ?_
        refine j_iload_n 3 C dX5_addStep_57 rfl rfl ?_
        refine j_i2l (v := v0.toInt64) C dX5_addStep_58 rfl ?_
        refine j_lconst (v := 0) C dX5_addStep_59 rfl ?_
        refine j_ldc2 (v := 4) C dX5_addStep_60 (List.mem_of_getElem? (i := 6) rfl) ?_
        refine j_callRi (v := jb (jIn v0.toInt64 0 4)) (j_runS (As := [.long v0.toInt64, .long 0, .long 4]) (rest := []) [] C (c_X5_isIn l g v0.toInt64 0 4) gX5_addStep_X5_isIn rfl rfl rfl hd_X5_isIn ⟨Nat.le_of_ble_eq_true rfl, Nat.le_of_ble_eq_true rfl⟩ rfl rfl dX5_addStep_63 rfl (Nat.le_of_ble_eq_true rfl) ⟨Nat.le_of_ble_eq_true rfl, Nat.le_of_ble_eq_true rfl⟩) ?_
        refine j_eq (pc' := 66) (L' := [(0, .ref m0), (1, .int (nI k)), (2, .int (nI j)), (3, .int v0), (4, .int v1), (5, .int v2), (6, .int v3), (7, .int 1)]) (st' := [.int (jb (jBt v0 0 4))]) (ws' := [(m0, .inr (4, [.int 0, .int (nI N), .ref tb, .ref md, .ref rw0, .int sz, .ref cs, .ref va, .int lk, .ref rn, .ref kp])), (tb, jaR g 10 (fun i => some (tr i))), (tr k, jaI g 253 (jrw n f))]) ?_ rfl rfl (by rw [jIn_b v0 0 4 _ _ (by decide) (by decide)]) rfl
        refine j_if_eq (tgt := 122) C dX5_addStep_66 (by decide) (fun c_21 => ?_) (fun c_21 => ?_)
        · skip
          have c_21 : (jBt v0 0 4) = false := jb_0 c_21
          refine j_aload_n 0 C dX5_addStep_122 rfl rfl ?_
          refine j_iconst (v := 2) C dX5_addStep_123 rfl ?_
          refine j_callWi [0] (fun _ => [(m0, .inr (4, [.int 2, .int (nI N), .ref tb, .ref md, .ref rw0, .int sz, .ref cs, .ref va, .int lk, .ref rn, .ref kp])), (tb, jaR g 10 (fun i => some (tr i))), (tr k, jaI g 253 (jrw n f))]) C (j_runV (ci := 0) (As := [.int 2]) (rest := []) [0] C (c_X5_fail l g m0 0 (nI N) tb md rw0 sz cs va lk rn kp 2) gX5_addStep_X5_fail rfl rfl rfl hd_X5_fail ⟨Nat.le_of_ble_eq_true rfl, Nat.le_of_ble_eq_true rfl⟩ rfl rfl rfl rfl dX5_addStep_124 rfl (Nat.le_of_ble_eq_true rfl) ⟨Nat.le_of_ble_eq_true rfl, Nat.le_of_ble_eq_true rfl⟩) rfl (fun _ => rfl) (fun _ => rfl) (fun z _ hz => ?_)
          subst hz
          exact j_iretW (v := 0) C hr dX5_addStep_127 () rfl rfl
        · skip
          have c_21 : (jBt v0 0 4) = true := jb_1 c_21
          refine j_iload 7 C dX5_addStep_69 rfl ?_
          refine j_if_eq (tgt := 122) C dX5_addStep_71 (by decide) (fun c_23 => ?_) (fun c_23 => ?_)
          · skip
            exact absurd c_23 (by decide)
          · skip
            refine j_iload 5 C dX5_addStep_74 rfl ?_
            refine j_i2l (v := v2.toInt64) C dX5_addStep_76 rfl ?_
            refine j_lconst (v := 0) C dX5_addStep_77 rfl ?_
            refine j_ldc2 (v := 5) C dX5_addStep_78 (List.mem_of_getElem? (i := 7) rfl) ?_
            refine j_callRi (v := jb (jIn v2.toInt64 0 5)) (j_runS (As := [.long v2.toInt64, .long 0, .long 5]) (rest := []) [] C (c_X5_isIn l g v2.toInt64 0 5) gX5_addStep_X5_isIn rfl rfl rfl hd_X5_isIn ⟨Nat.le_of_ble_eq_true rfl, Nat.le_of_ble_eq_true rfl⟩ rfl rfl dX5_addStep_81 rfl (Nat.le_of_ble_eq_true rfl) ⟨Nat.le_of_ble_eq_true rfl, Nat.le_of_ble_eq_true rfl⟩) ?_
            refine j_eq (pc' := 84) (L' := [(0, .ref m0), (1, .int (nI k)), (2, .int (nI j)), (3, .int v0), (4, .int v1), (5, .int v2), (6, .int v3), (7, .int 1)]) (st' := [.int (jb (jBt v2 0 5))]) (ws' := [(m0, .inr (4, [.int 0, .int (nI N), .ref tb, .ref md, .ref rw0, .int sz, .ref cs, .ref va, .int lk, .ref rn, .ref kp])), (tb, jaR g 10 (fun i => some (tr i))), (tr k, jaI g 253 (jrw n f))]) ?_ rfl rfl (by rw [jIn_b v2 0 5 _ _ (by decide) (by decide)]) rfl
            refine j_if_eq (tgt := 122) C dX5_addStep_84 (by decide) (fun c_24 => ?_) (fun c_24 => ?_)
            · skip
              have c_24 : (jBt v2 0 5) = false := jb_0 c_24
              refine j_aload_n 0 C dX5_addStep_122 rfl rfl ?_
              refine j_iconst (v := 2) C dX5_addStep_123 rfl ?_
              refine j_callWi [0] (fun _ => [(m0, .inr (4, [.int 2, .int (nI N), .ref tb, .ref md, .ref rw0, .int sz, .ref cs, .ref va, .int lk, .ref rn, .ref kp])), (tb, jaR g 10 (fun i => some (tr i))), (tr k, jaI g 253 (jrw n f))]) C (j_runV (ci := 0) (As := [.int 2]) (rest := []) [0] C (c_X5_fail l g m0 0 (nI N) tb md rw0 sz cs va lk rn kp 2) gX5_addStep_X5_fail rfl rfl rfl hd_X5_fail ⟨Nat.le_of_ble_eq_true rfl, Nat.le_of_ble_eq_true rfl⟩ rfl rfl rfl rfl dX5_addStep_124 rfl (Nat.le_of_ble_eq_true rfl) ⟨Nat.le_of_ble_eq_true rfl, Nat.le_of_ble_eq_true rfl⟩) rfl (fun _ => rfl) (fun _ => rfl) (fun z _ hz => ?_)
              subst hz
              exact j_iretW (v := 0) C hr dX5_addStep_127 () rfl rfl
            · skip
              have c_24 : (jBt v2 0 5) = true := jb_1 c_24
              refine j_iload 6 C dX5_addStep_87 rfl ?_
              refine j_i2l (v := v3.toInt64) C dX5_addStep_89 rfl ?_
              refine j_lconst (v := 0) C dX5_addStep_90 rfl ?_
              refine j_iload 5 C dX5_addStep_91 rfl ?_
              refine j_iconst (v := 4) C dX5_addStep_93 rfl ?_
              refine j_icmp_ne (tgt := 101) C dX5_addStep_94 (by decide) (fun c_26 => ?_) (fun c_26 => ?_)
              · skip
                refine j_iload 5 C dX5_addStep_101 rfl ?_
                refine j_iconst (v := 5) C dX5_addStep_103 rfl ?_
                refine j_icmp_ne (tgt := 113) C dX5_addStep_104 (by decide) (fun c_27 => ?_) (fun c_27 => ?_)
                · skip
                  refine j_ldc2 (v := 3) C dX5_addStep_113 (List.mem_of_getElem? (i := 8) rfl) ?_
                  refine j_callRi (v := jb (jIn v3.toInt64 0 3)) (j_runS (As := [.long v3.toInt64, .long 0, .long 3]) (rest := []) [] C (c_X5_isIn l g v3.toInt64 0 3) gX5_addStep_X5_isIn rfl rfl rfl hd_X5_isIn ⟨Nat.le_of_ble_eq_true rfl, Nat.le_of_ble_eq_true rfl⟩ rfl rfl dX5_addStep_116 rfl (Nat.le_of_ble_eq_true rfl) ⟨Nat.le_of_ble_eq_true rfl, Nat.le_of_ble_eq_true rfl⟩) ?_
                  refine j_eq (pc' := 119) (L' := [(0, .ref m0), (1, .int (nI k)), (2, .int (nI j)), (3, .int v0), (4, .int v1), (5, .int v2), (6, .int v3), (7, .int 1)]) (st' := [.int (jb (jBt v3 0 3))]) (ws' := [(m0, .inr (4, [.int 0, .int (nI N), .ref tb, .ref md, .ref rw0, .int sz, .ref cs, .ref va, .int lk, .ref rn, .ref kp])), (tb, jaR g 10 (fun i => some (tr i))), (tr k, jaI g 253 (jrw n f))]) ?_ rfl rfl (by rw [jIn_b v3 0 3 _ _ (by decide) (by decide)]) rfl
                  refine j_if_ne (tgt := 128) C dX5_addStep_119 (by decide) (fun c_28 => ?_) (fun c_28 => ?_)
                  · skip
                    have c_28 : (jBt v3 0 3) = true := jb_1 c_28
                    (first | exact absurd c_28 (by decide) | exact absurd c_28 (by omega) | simp_all)
                  · skip
                    have c_28 : (jBt v3 0 3) = false := jb_0 c_28
                    refine j_aload_n 0 C dX5_addStep_122 rfl rfl ?_
                    refine j_iconst (v := 2) C dX5_addStep_123 rfl ?_
                    refine j_callWi [0] (fun _ => [(m0, .inr (4, [.int 2, .int (nI N), .ref tb, .ref md, .ref rw0, .int sz, .ref cs, .ref va, .int lk, .ref rn, .ref kp])), (tb, jaR g 10 (fun i => some (tr i))), (tr k, jaI g 253 (jrw n f))]) C (j_runV (ci := 0) (As := [.int 2]) (rest := []) [0] C (c_X5_fail l g m0 0 (nI N) tb md rw0 sz cs va lk rn kp 2) gX5_addStep_X5_fail rfl rfl rfl hd_X5_fail ⟨Nat.le_of_ble_eq_true rfl, Nat.le_of_ble_eq_true rfl⟩ rfl rfl rfl rfl dX5_addStep_124 rfl (Nat.le_of_ble_eq_true rfl) ⟨Nat.le_of_ble_eq_true rfl, Nat.le_of_ble_eq_true rfl⟩) rfl (fun _ => rfl) (fun _ => rfl) (fun z _ hz => ?_)
                    subst hz
                    exact j_iretW (v := 0) C hr dX5_addStep_127 () rfl rfl
                · skip
                  refine j_ldc2 (v := 100) C dX5_addStep_107 (List.mem_of_getElem? (i := 3) rfl) ?_
                  refine j_goto (tgt := 116) C dX5_addStep_110 (by decide) ?_
                  refine j_callRi (v := jb (jIn v3.toInt64 0 100)) (j_runS (As := [.long v3.toInt64, .long 0, .long 100]) (rest := []) [] C (c_X5_isIn l g v3.toInt64 0 100) gX5_addStep_X5_isIn rfl rfl rfl hd_X5_isIn ⟨Nat.le_of_ble_eq_true rfl, Nat.le_of_ble_eq_true rfl⟩ rfl rfl dX5_addStep_116 rfl (Nat.le_of_ble_eq_true rfl) ⟨Nat.le_of_ble_eq_true rfl, Nat.le_of_ble_eq_true rfl⟩) ?_
                  refine j_eq (pc' := 119) (L' := [(0, .ref m0), (1, .int (nI k)), (2, .int (nI j)), (3, .int v0), (4, .int v1), (5, .int v2), (6, .int v3), (7, .int 1)]) (st' := [.int (jb (jBt v3 0 100))]) (ws' := [(m0, .inr (4, [.int 0, .int (nI N), .ref tb, .ref md, .ref rw0, .int sz, .ref cs, .ref va, .int lk, .ref rn, .ref kp])), (tb, jaR g 10 (fun i => some (tr i))), (tr k, jaI g 253 (jrw n f))]) ?_ rfl rfl (by rw [jIn_b v3 0 100 _ _ (by decide) (by decide)]) rfl
                  refine j_if_ne (tgt := 128) C dX5_addStep_119 (by decide) (fun c_30 => ?_) (fun c_30 => ?_)
                  · skip
                    have c_30 : (jBt v3 0 100) = true := jb_1 c_30
                    (first | exact absurd c_30 (by decide) | exact absurd c_30 (by omega) | simp_all)
                  · skip
                    have c_30 : (jBt v3 0 100) = false := jb_0 c_30
                    refine j_aload_n 0 C dX5_addStep_122 rfl rfl ?_
                    refine j_iconst (v := 2) C dX5_addStep_123 rfl ?_
                    refine j_callWi [0] (fun _ => [(m0, .inr (4, [.int 2, .int (nI N), .ref tb, .ref md, .ref rw0, .int sz, .ref cs, .ref va, .int lk, .ref rn, .ref kp])), (tb, jaR g 10 (fun i => some (tr i))), (tr k, jaI g 253 (jrw n f))]) C (j_runV (ci := 0) (As := [.int 2]) (rest := []) [0] C (c_X5_fail l g m0 0 (nI N) tb md rw0 sz cs va lk rn kp 2) gX5_addStep_X5_fail rfl rfl rfl hd_X5_fail ⟨Nat.le_of_ble_eq_true rfl, Nat.le_of_ble_eq_true rfl⟩ rfl rfl rfl rfl dX5_addStep_124 rfl (Nat.le_of_ble_eq_true rfl) ⟨Nat.le_of_ble_eq_true rfl, Nat.le_of_ble_eq_true rfl⟩) rfl (fun _ => rfl) (fun _ => rfl) (fun z _ hz => ?_)
                    subst hz
                    exact j_iretW (v := 0) C hr dX5_addStep_127 () rfl rfl
              · skip
                refine j_lconst (v := 0) C dX5_addStep_97 rfl ?_
                refine j_goto (tgt := 116) C dX5_addStep_98 (by decide) ?_
                refine j_callRi (v := jb (jIn v3.toInt64 0 0)) (j_runS (As := [.long v3.toInt64, .long 0, .long 0]) (rest := []) [] C (c_X5_isIn l g v3.toInt64 0 0) gX5_addStep_X5_isIn rfl rfl rfl hd_X5_isIn ⟨Nat.le_of_ble_eq_true rfl, Nat.le_of_ble_eq_true rfl⟩ rfl rfl dX5_addStep_116 rfl (Nat.le_of_ble_eq_true rfl) ⟨Nat.le_of_ble_eq_true rfl, Nat.le_of_ble_eq_true rfl⟩) ?_
                refine j_eq (pc' := 119) (L' := [(0, .ref m0), (1, .int (nI k)), (2, .int (nI j)), (3, .int v0), (4, .int v1), (5, .int v2), (6, .int v3), (7, .int 1)]) (st' := [.int (jb (jBt v3 0 0))]) (ws' := [(m0, .inr (4, [.int 0, .int (nI N), .ref tb, .ref md, .ref rw0, .int sz, .ref cs, .ref va, .int lk, .ref rn, .ref kp])), (tb, jaR g 10 (fun i => some (tr i))), (tr k, jaI g 253 (jrw n f))]) ?_ rfl rfl (by rw [jIn_b v3 0 0 _ _ (by decide) (by decide)]) rfl
                refine j_if_ne (tgt := 128) C dX5_addStep_119 (by decide) (fun c_32 => ?_) (fun c_32 => ?_)
                · skip
                  have c_32 : (jBt v3 0 0) = true := jb_1 c_32
                  (first | exact absurd c_32 (by decide) | exact absurd c_32 (by omega) | simp_all)
                · skip
                  have c_32 : (jBt v3 0 0) = false := jb_0 c_32
                  refine j_aload_n 0 C dX5_addStep_122 rfl rfl ?_
                  refine j_iconst (v := 2) C dX5_addStep_123 rfl ?_
                  refine j_callWi [0] (fun _ => [(m0, .inr (4, [.int 2, .int (nI N), .ref tb, .ref md, .ref rw0, .int sz, .ref cs, .ref va, .int lk, .ref rn, .ref kp])), (tb, jaR g 10 (fun i => some (tr i))), (tr k, jaI g 253 (jrw n f))]) C (j_runV (ci := 0) (As := [.int 2]) (rest := []) [0] C (c_X5_fail l g m0 0 (nI N) tb md rw0 sz cs va lk rn kp 2) gX5_addStep_X5_fail rfl rfl rfl hd_X5_fail ⟨Nat.le_of_ble_eq_true rfl, Nat.le_of_ble_eq_true rfl⟩ rfl rfl rfl rfl dX5_addStep_124 rfl (Nat.le_of_ble_eq_true rfl) ⟨Nat.le_of_ble_eq_true rfl, Nat.le_of_ble_eq_true rfl⟩) rfl (fun _ => rfl) (fun _ => rfl) (fun z _ hz => ?_)
                  subst hz
                  exact j_iretW (v := 0) C hr dX5_addStep_127 () rfl rfl
  · skip
    have c_1 : true = false := jb_0 c_1
    (first | exact absurd c_1 (by decide) | exact absurd c_1 (by omega) | simp_all)
set_option maxHeartbeats 4000000 in
set_option maxRecDepth 100000 in
theorem c_X5_addStep_s (l : Launch) (g : jG) (m0 : Nat) (th : Int32) (N tb md rw0 : Nat) (sz : Int32) (cs va : Nat) (lk : Int32) (rn kp : Nat) (tr : Nat → Nat) (k n : Nat) (f : Nat → Int32) (j : Nat) (v0 v1 v2 v3 : Int32) (hk : k < N) (hN : N ≤ 10) (hj : j < n) (hn : n ≤ 8) (hq : ((jBt v0 0 4 && (jBt v1 (-100) 100 || jBt v1 1000 1003)) && (jBt v2 0 5 && jBt v3 0 (if v2 = 4 then 0 else if v2 = 5 then 100 else 3))) = true) (ha : f (j * 28 + 3) = nI 6) : jWi l yX5_addStep wsX5_addStep ({ frames := 3, cells := 0, slots := 0, locals := 68 }) g [.ref m0, .int (nI k), .int (nI j), .int v0, .int v1, .int v2, .int v3] [(m0, .inr (4, [.int th, .int (nI N), .ref tb, .ref md, .ref rw0, .int sz, .ref cs, .ref va, .int lk, .ref rn, .ref kp])), (tb, jaR g 10 (fun i => some (tr i))), (tr k, jaI g 253 (jrw n f))] [(m0, .inr (4, [.int 3, .int (nI N), .ref tb, .ref md, .ref rw0, .int sz, .ref cs, .ref va, .int lk, .ref rn, .ref kp])), (tb, jaR g 10 (fun i => some (tr i))), (tr k, jaI g 253 (jrw n f))] 0 := by
  refine j_enterW (Qc := fun sz_ => va_Qi (fun r (_ : Unit) => r = 0) (fun _ t => va_P g.1 vwCl [(m0, .inr (4, [.int 3, .int (nI N), .ref tb, .ref md, .ref rw0, .int sz, .ref cs, .ref va, .int lk, .ref rn, .ref kp])), (tb, jaR g 10 (fun i => some (tr i))), (tr k, jaI g 253 (jrw n f))] t.heap) (va_A [(m0, .inr (4, [.int th, .int (nI N), .ref tb, .ref md, .ref rw0, .int sz, .ref cs, .ref va, .int lk, .ref rn, .ref kp])), (tb, jaR g 10 (fun i => some (tr i))), (tr k, jaI g 253 (jrw n f))] sz_)) (cc := cX5_addStep) (maxL := 11) (ret := (some .int)) (own := RX5) (L := [(0, .ref m0), (1, .int (nI k)), (2, .int (nI j)), (3, .int v0), (4, .int v1), (5, .int v2), (6, .int v3)]) (by decide) rfl rfl (Nat.le_of_ble_eq_true rfl) rfl (fun p e s m args below meth c C hr => ?_)
  refine j_aload_n 0 C dX5_addStep_0 rfl rfl ?_
  refine j_iconst (v := 0) C dX5_addStep_1 rfl ?_
  refine j_put (Cn := RX5) (T := TX5) (N := 11) (ws' := [(m0, .inr (4, [.int 0, .int (nI N), .ref tb, .ref md, .ref rw0, .int sz, .ref cs, .ref va, .int lk, .ref rn, .ref kp])), (tb, jaR g 10 (fun i => some (tr i))), (tr k, jaI g 253 (jrw n f))]) tyX5 0 0 C dX5_addStep_2 hin_X5_addStep_X5 tyX5_ok nmX5 rfl rfl (by decide) (List.mem_of_getElem? (i := 1) rfl) rfl (tyX5_ok 0 (by decide)) rfl rfl (Nat.le_of_ble_eq_true rfl) rfl ?_
  refine j_aload_n 0 C dX5_addStep_5 rfl rfl ?_
  refine j_iload_n 1 C dX5_addStep_6 rfl rfl ?_
  refine j_iload_n 2 C dX5_addStep_7 rfl rfl ?_
  refine j_callRi (v := jb (jBt (nI j) 0 (nI n - 1))) (j_runV (ci := 0) (As := [.int (nI k), .int (nI j)]) (rest := []) [0, 1, 2] C (c_X5_isLoop l g m0 0 N tb md rw0 sz cs va lk rn kp tr k n f (nI j) (by omega) (by omega)) gX5_addStep_X5_isLoop rfl rfl rfl hd_X5_isLoop ⟨Nat.le_of_ble_eq_true rfl, Nat.le_of_ble_eq_true rfl⟩ rfl rfl rfl rfl dX5_addStep_8 rfl (Nat.le_of_ble_eq_true rfl) ⟨Nat.le_of_ble_eq_true rfl, Nat.le_of_ble_eq_true rfl⟩) ?_
  refine j_eq (pc' := 11) (L' := [(0, .ref m0), (1, .int (nI k)), (2, .int (nI j)), (3, .int v0), (4, .int v1), (5, .int v2), (6, .int v3)]) (st' := [.int (jb true)]) (ws' := [(m0, .inr (4, [.int 0, .int (nI N), .ref tb, .ref md, .ref rw0, .int sz, .ref cs, .ref va, .int lk, .ref rn, .ref kp])), (tb, jaR g 10 (fun i => some (tr i))), (tr k, jaI g 253 (jrw n f))]) ?_ rfl rfl (by rw [jBt_n hj (by omega)]) rfl
  refine j_if_ne (tgt := 20) C dX5_addStep_11 (by decide) (fun c_1 => ?_) (fun c_1 => ?_)
  · skip
    have c_1 : true = true := jb_1 c_1
    refine j_iload 4 C dX5_addStep_20 rfl ?_
    refine j_i2l (v := v1.toInt64) C dX5_addStep_22 rfl ?_
    refine j_ldc2 (v := -100) C dX5_addStep_23 (List.mem_of_getElem? (i := 2) rfl) ?_
    refine j_ldc2 (v := 100) C dX5_addStep_26 (List.mem_of_getElem? (i := 3) rfl) ?_
    refine j_callRi (v := jb (jIn v1.toInt64 (-100) 100)) (j_runS (As := [.long v1.toInt64, .long (-100), .long 100]) (rest := []) [] C (c_X5_isIn l g v1.toInt64 (-100) 100) gX5_addStep_X5_isIn rfl rfl rfl hd_X5_isIn ⟨Nat.le_of_ble_eq_true rfl, Nat.le_of_ble_eq_true rfl⟩ rfl rfl dX5_addStep_29 rfl (Nat.le_of_ble_eq_true rfl) ⟨Nat.le_of_ble_eq_true rfl, Nat.le_of_ble_eq_true rfl⟩) ?_
    refine j_eq (pc' := 32) (L' := [(0, .ref m0), (1, .int (nI k)), (2, .int (nI j)), (3, .int v0), (4, .int v1), (5, .int v2), (6, .int v3)]) (st' := [.int (jb (jBt v1 (-100) 100))]) (ws' := [(m0, .inr (4, [.int 0, .int (nI N), .ref tb, .ref md, .ref rw0, .int sz, .ref cs, .ref va, .int lk, .ref rn, .ref kp])), (tb, jaR g 10 (fun i => some (tr i))), (tr k, jaI g 253 (jrw n f))]) ?_ rfl rfl (by rw [jIn_b v1 (-100) 100 _ _ (by decide) (by decide)]) rfl
    refine j_if_ne (tgt := 50) C dX5_addStep_32 (by decide) (fun c_2 => ?_) (fun c_2 => ?_)
    · skip
      have c_2 : (jBt v1 (-100) 100) = true := jb_1 c_2
      refine j_iconst (v := 1) C dX5_addStep_50 rfl ?_
      refine j_goto (tgt := 55) C dX5_addStep_51 (by decide) ?_
      refine j_istore (L' := [(0, .ref m0), (1, .int (nI k)), (2, .int (nI j)), (3, .int v0), (4, .int v1), (5, .int v2), (6, .int v3), (7, .int 1)]) C dX5_addStep_55 (Nat.le_of_ble_eq_true rfl) rfl rfl ?_
      refine j_iload_n 3 C dX5_addStep_57 rfl rfl ?_
      refine j_i2l (v := v0.toInt64) C dX5_addStep_58 rfl ?_
      refine j_lconst (v := 0) C dX5_addStep_59 rfl ?_
      refine j_ldc2 (v := 4) C dX5_addStep_60 (List.mem_of_getElem? (i := 6) rfl) ?_
      refine j_callRi (v := jb (jIn v0.toInt64 0 4)) (j_runS (As := [.long v0.toInt64, .long 0, .long 4]) (rest := []) [] C (c_X5_isIn l g v0.toInt64 0 4) gX5_addStep_X5_isIn rfl rfl rfl hd_X5_isIn ⟨Nat.le_of_ble_eq_true rfl, Nat.le_of_ble_eq_true rfl⟩ rfl rfl dX5_addStep_63 rfl (Nat.le_of_ble_eq_true rfl) ⟨Nat.le_of_ble_eq_true rfl, Nat.le_of_ble_eq_true rfl⟩) ?_
      refine j_eq (pc' := 66) (L' := [(0, .ref m0), (1, .int (nI k)), (2, .int (nI j)), (3, .int v0), (4, .int v1), (5, .int v2), (6, .int v3), (7, .int 1)]) (st' := [.int (jb (jBt v0 0 4))]) (ws' := [(m0, .inr (4, [.int 0, .int (nI N), .ref tb, .ref md, .ref rw0, .int sz, .ref cs, .ref va, .int lk, .ref rn, .ref kp])), (tb, jaR g 10 (fun i => some (tr i))), (tr k, jaI g 253 (jrw n f))]) ?_ rfl rfl (by rw [jIn_b v0 0 4 _ _ (by decide) (by decide)]) rfl
      refine j_if_eq (tgt := 122) C dX5_addStep_66 (by decide) (fun c_3 => ?_) (fun c_3 => ?_)
      · skip
        have c_3 : (jBt v0 0 4) = false := jb_0 c_3
        (first | exact absurd c_3 (by decide) | exact absurd c_3 (by omega) | simp_all)
      · skip
        have c_3 : (jBt v0 0 4) = true := jb_1 c_3
        refine j_iload 7 C dX5_addStep_69 rfl ?_
        refine j_if_eq (tgt := 122) C dX5_addStep_71 (by decide) (fun c_4 => ?_) (fun c_4 => ?_)
        · skip
          exact absurd c_4 (by decide)
        · skip
          refine j_iload 5 C dX5_addStep_74 rfl ?_
          refine j_i2l (v := v2.toInt64) C dX5_addStep_76 rfl ?_
          refine j_lconst (v := 0) C dX5_addStep_77 rfl ?_
          refine j_ldc2 (v := 5) C dX5_addStep_78 (List.mem_of_getElem? (i := 7) rfl) ?_
          refine j_callRi (v := jb (jIn v2.toInt64 0 5)) (j_runS (As := [.long v2.toInt64, .long 0, .long 5]) (rest := []) [] C (c_X5_isIn l g v2.toInt64 0 5) gX5_addStep_X5_isIn rfl rfl rfl hd_X5_isIn ⟨Nat.le_of_ble_eq_true rfl, Nat.le_of_ble_eq_true rfl⟩ rfl rfl dX5_addStep_81 rfl (Nat.le_of_ble_eq_true rfl) ⟨Nat.le_of_ble_eq_true rfl, Nat.le_of_ble_eq_true rfl⟩) ?_
          refine j_eq (pc' := 84) (L' := [(0, .ref m0), (1, .int (nI k)), (2, .int (nI j)), (3, .int v0), (4, .int v1), (5, .int v2), (6, .int v3), (7, .int 1)]) (st' := [.int (jb (jBt v2 0 5))]) (ws' := [(m0, .inr (4, [.int 0, .int (nI N), .ref tb, .ref md, .ref rw0, .int sz, .ref cs, .ref va, .int lk, .ref rn, .ref kp])), (tb, jaR g 10 (fun i => some (tr i))), (tr k, jaI g 253 (jrw n f))]) ?_ rfl rfl (by rw [jIn_b v2 0 5 _ _ (by decide) (by decide)]) rfl
          refine j_if_eq (tgt := 122) C dX5_addStep_84 (by decide) (fun c_5 => ?_) (fun c_5 => ?_)
          · skip
            have c_5 : (jBt v2 0 5) = false := jb_0 c_5
            (first | exact absurd c_5 (by decide) | exact absurd c_5 (by omega) | simp_all)
          · skip
            have c_5 : (jBt v2 0 5) = true := jb_1 c_5
            refine j_iload 6 C dX5_addStep_87 rfl ?_
            refine j_i2l (v := v3.toInt64) C dX5_addStep_89 rfl ?_
            refine j_lconst (v := 0) C dX5_addStep_90 rfl ?_
            refine j_iload 5 C dX5_addStep_91 rfl ?_
            refine j_iconst (v := 4) C dX5_addStep_93 rfl ?_
            refine j_icmp_ne (tgt := 101) C dX5_addStep_94 (by decide) (fun c_6 => ?_) (fun c_6 => ?_)
            · skip
              refine j_iload 5 C dX5_addStep_101 rfl ?_
              refine j_iconst (v := 5) C dX5_addStep_103 rfl ?_
              refine j_icmp_ne (tgt := 113) C dX5_addStep_104 (by decide) (fun c_7 => ?_) (fun c_7 => ?_)
              · skip
                refine j_ldc2 (v := 3) C dX5_addStep_113 (List.mem_of_getElem? (i := 8) rfl) ?_
                refine j_callRi (v := jb (jIn v3.toInt64 0 3)) (j_runS (As := [.long v3.toInt64, .long 0, .long 3]) (rest := []) [] C (c_X5_isIn l g v3.toInt64 0 3) gX5_addStep_X5_isIn rfl rfl rfl hd_X5_isIn ⟨Nat.le_of_ble_eq_true rfl, Nat.le_of_ble_eq_true rfl⟩ rfl rfl dX5_addStep_116 rfl (Nat.le_of_ble_eq_true rfl) ⟨Nat.le_of_ble_eq_true rfl, Nat.le_of_ble_eq_true rfl⟩) ?_
                refine j_eq (pc' := 119) (L' := [(0, .ref m0), (1, .int (nI k)), (2, .int (nI j)), (3, .int v0), (4, .int v1), (5, .int v2), (6, .int v3), (7, .int 1)]) (st' := [.int (jb (jBt v3 0 3))]) (ws' := [(m0, .inr (4, [.int 0, .int (nI N), .ref tb, .ref md, .ref rw0, .int sz, .ref cs, .ref va, .int lk, .ref rn, .ref kp])), (tb, jaR g 10 (fun i => some (tr i))), (tr k, jaI g 253 (jrw n f))]) ?_ rfl rfl (by rw [jIn_b v3 0 3 _ _ (by decide) (by decide)]) rfl
                refine j_if_ne (tgt := 128) C dX5_addStep_119 (by decide) (fun c_8 => ?_) (fun c_8 => ?_)
                · skip
                  have c_8 : (jBt v3 0 3) = true := jb_1 c_8
                  refine j_aload_n 0 C dX5_addStep_128 rfl rfl ?_
                  refine j_get (Cn := RX5) (T := TX5) (N := 11) 0 2 C dX5_addStep_129 hin_X5_addStep_X5 rfl rfl (by decide) (List.mem_of_getElem? (i := 9) rfl) rfl ?_
                  refine j_iload_n 1 C dX5_addStep_132 rfl rfl ?_
                  refine j_aldR (x := k) 1 C dX5_addStep_133 rfl rfl (by omega) (by decide) ?_
                  refine j_eq (pc' := 134) (L' := [(0, .ref m0), (1, .int (nI k)), (2, .int (nI j)), (3, .int v0), (4, .int v1), (5, .int v2), (6, .int v3), (7, .int 1)]) (st' := [.ref (tr k)]) (ws' := [(m0, .inr (4, [.int 0, .int (nI N), .ref tb, .ref md, .ref rw0, .int sz, .ref cs, .ref va, .int lk, .ref rn, .ref kp])), (tb, jaR g 10 (fun i => some (tr i))), (tr k, jaI g 253 (jrw n f))]) ?_ rfl rfl rfl rfl
                  refine j_astore (L' := [(0, .ref m0), (1, .int (nI k)), (2, .int (nI j)), (3, .int v0), (4, .int v1), (5, .int v2), (6, .int v3), (7, .int 1), (8, .ref (tr k))]) C dX5_addStep_134 (Nat.le_of_ble_eq_true rfl) rfl rfl ?_
                  refine j_aload 8 C dX5_addStep_136 rfl ?_
                  refine j_iload_n 2 C dX5_addStep_138 rfl rfl ?_
                  refine j_callRi (v := f (j * 28 + 3)) (j_runS (As := [.ref (tr k), .int (nI j)]) (rest := []) [2] C (c_X5_steps l g (tr k) n f j (by omega)) gX5_addStep_X5_steps rfl rfl rfl hd_X5_steps ⟨Nat.le_of_ble_eq_true rfl, Nat.le_of_ble_eq_true rfl⟩ rfl rfl dX5_addStep_139 rfl (Nat.le_of_ble_eq_true rfl) ⟨Nat.le_of_ble_eq_true rfl, Nat.le_of_ble_eq_true rfl⟩) ?_
                  refine j_eq (pc' := 142) (L' := [(0, .ref m0), (1, .int (nI k)), (2, .int (nI j)), (3, .int v0), (4, .int v1), (5, .int v2), (6, .int v3), (7, .int 1), (8, .ref (tr k))]) (st' := [.int 6]) (ws' := [(m0, .inr (4, [.int 0, .int (nI N), .ref tb, .ref md, .ref rw0, .int sz, .ref cs, .ref va, .int lk, .ref rn, .ref kp])), (tb, jaR g 10 (fun i => some (tr i))), (tr k, jaI g 253 (jrw n f))]) ?_ rfl rfl (by rw [ha]; rfl) rfl
                  refine j_istore (L' := [(0, .ref m0), (1, .int (nI k)), (2, .int (nI j)), (3, .int v0), (4, .int v1), (5, .int v2), (6, .int v3), (7, .int 1), (8, .ref (tr k)), (9, .int 6)]) C dX5_addStep_142 (Nat.le_of_ble_eq_true rfl) rfl rfl ?_
                  refine j_iload 9 C dX5_addStep_144 rfl ?_
                  refine j_bipush (v := 6) C dX5_addStep_146 rfl ?_
                  refine j_icmp_ne (tgt := 157) C dX5_addStep_148 (by decide) (fun c_9 => ?_) (fun c_9 => ?_)
                  · skip
                    exact absurd c_9 (by decide)
                  · skip
                    refine j_aload_n 0 C dX5_addStep_151 rfl rfl ?_
                    refine j_iconst (v := 3) C dX5_addStep_152 rfl ?_
                    refine j_callWi [0] (fun _ => [(m0, .inr (4, [.int 3, .int (nI N), .ref tb, .ref md, .ref rw0, .int sz, .ref cs, .ref va, .int lk, .ref rn, .ref kp])), (tb, jaR g 10 (fun i => some (tr i))), (tr k, jaI g 253 (jrw n f))]) C (j_runV (ci := 0) (As := [.int 3]) (rest := []) [0] C (c_X5_fail l g m0 0 (nI N) tb md rw0 sz cs va lk rn kp 3) gX5_addStep_X5_fail rfl rfl rfl hd_X5_fail ⟨Nat.le_of_ble_eq_true rfl, Nat.le_of_ble_eq_true rfl⟩ rfl rfl rfl rfl dX5_addStep_153 rfl (Nat.le_of_ble_eq_true rfl) ⟨Nat.le_of_ble_eq_true rfl, Nat.le_of_ble_eq_true rfl⟩) rfl (fun _ => rfl) (fun _ => rfl) (fun z _ hz => ?_)
                    subst hz
                    exact j_iretW (v := 0) C hr dX5_addStep_156 () rfl rfl
                · skip
                  have c_8 : (jBt v3 0 3) = false := jb_0 c_8
                  (first | exact absurd c_8 (by decide) | exact absurd c_8 (by omega) | simp_all)
              · skip
                refine j_ldc2 (v := 100) C dX5_addStep_107 (List.mem_of_getElem? (i := 3) rfl) ?_
                refine j_goto (tgt := 116) C dX5_addStep_110 (by decide) ?_
                refine j_callRi (v := jb (jIn v3.toInt64 0 100)) (j_runS (As := [.long v3.toInt64, .long 0, .long 100]) (rest := []) [] C (c_X5_isIn l g v3.toInt64 0 100) gX5_addStep_X5_isIn rfl rfl rfl hd_X5_isIn ⟨Nat.le_of_ble_eq_true rfl, Nat.le_of_ble_eq_true rfl⟩ rfl rfl dX5_addStep_116 rfl (Nat.le_of_ble_eq_true rfl) ⟨Nat.le_of_ble_eq_true rfl, Nat.le_of_ble_eq_true rfl⟩) ?_
                refine j_eq (pc' := 119) (L' := [(0, .ref m0), (1, .int (nI k)), (2, .int (nI j)), (3, .int v0), (4, .int v1), (5, .int v2), (6, .int v3), (7, .int 1)]) (st' := [.int (jb (jBt v3 0 100))]) (ws' := [(m0, .inr (4, [.int 0, .int (nI N), .ref tb, .ref md, .ref rw0, .int sz, .ref cs, .ref va, .int lk, .ref rn, .ref kp])), (tb, jaR g 10 (fun i => some (tr i))), (tr k, jaI g 253 (jrw n f))]) ?_ rfl rfl (by rw [jIn_b v3 0 100 _ _ (by decide) (by decide)]) rfl
                refine j_if_ne (tgt := 128) C dX5_addStep_119 (by decide) (fun c_11 => ?_) (fun c_11 => ?_)
                · skip
                  have c_11 : (jBt v3 0 100) = true := jb_1 c_11
                  refine j_aload_n 0 C dX5_addStep_128 rfl rfl ?_
                  refine j_get (Cn := RX5) (T := TX5) (N := 11) 0 2 C dX5_addStep_129 hin_X5_addStep_X5 rfl rfl (by decide) (List.mem_of_getElem? (i := 9) rfl) rfl ?_
                  refine j_iload_n 1 C dX5_addStep_132 rfl rfl ?_
                  refine j_aldR (x := k) 1 C dX5_addStep_133 rfl rfl (by omega) (by decide) ?_
                  refine j_eq (pc' := 134) (L' := [(0, .ref m0), (1, .int (nI k)), (2, .int (nI j)), (3, .int v0), (4, .int v1), (5, .int v2), (6, .int v3), (7, .int 1)]) (st' := [.ref (tr k)]) (ws' := [(m0, .inr (4, [.int 0, .int (nI N), .ref tb, .ref md, .ref rw0, .int sz, .ref cs, .ref va, .int lk, .ref rn, .ref kp])), (tb, jaR g 10 (fun i => some (tr i))), (tr k, jaI g 253 (jrw n f))]) ?_ rfl rfl rfl rfl
                  refine j_astore (L' := [(0, .ref m0), (1, .int (nI k)), (2, .int (nI j)), (3, .int v0), (4, .int v1), (5, .int v2), (6, .int v3), (7, .int 1), (8, .ref (tr k))]) C dX5_addStep_134 (Nat.le_of_ble_eq_true rfl) rfl rfl ?_
                  refine j_aload 8 C dX5_addStep_136 rfl ?_
                  refine j_iload_n 2 C dX5_addStep_138 rfl rfl ?_
                  refine j_callRi (v := f (j * 28 + 3)) (j_runS (As := [.ref (tr k), .int (nI j)]) (rest := []) [2] C (c_X5_steps l g (tr k) n f j (by omega)) gX5_addStep_X5_steps rfl rfl rfl hd_X5_steps ⟨Nat.le_of_ble_eq_true rfl, Nat.le_of_ble_eq_true rfl⟩ rfl rfl dX5_addStep_139 rfl (Nat.le_of_ble_eq_true rfl) ⟨Nat.le_of_ble_eq_true rfl, Nat.le_of_ble_eq_true rfl⟩) ?_
                  refine j_eq (pc' := 142) (L' := [(0, .ref m0), (1, .int (nI k)), (2, .int (nI j)), (3, .int v0), (4, .int v1), (5, .int v2), (6, .int v3), (7, .int 1), (8, .ref (tr k))]) (st' := [.int 6]) (ws' := [(m0, .inr (4, [.int 0, .int (nI N), .ref tb, .ref md, .ref rw0, .int sz, .ref cs, .ref va, .int lk, .ref rn, .ref kp])), (tb, jaR g 10 (fun i => some (tr i))), (tr k, jaI g 253 (jrw n f))]) ?_ rfl rfl (by rw [ha]; rfl) rfl
                  refine j_istore (L' := [(0, .ref m0), (1, .int (nI k)), (2, .int (nI j)), (3, .int v0), (4, .int v1), (5, .int v2), (6, .int v3), (7, .int 1), (8, .ref (tr k)), (9, .int 6)]) C dX5_addStep_142 (Nat.le_of_ble_eq_true rfl) rfl rfl ?_
                  refine j_iload 9 C dX5_addStep_144 rfl ?_
                  refine j_bipush (v := 6) C dX5_addStep_146 rfl ?_
                  refine j_icmp_ne (tgt := 157) C dX5_addStep_148 (by decide) (fun c_12 => ?_) (fun c_12 => ?_)
                  · skip
                    exact absurd c_12 (by decide)
                  · skip
                    refine j_aload_n 0 C dX5_addStep_151 rfl rfl ?_
                    refine j_iconst (v := 3) C dX5_addStep_152 rfl ?_
                    refine j_callWi [0] (fun _ => [(m0, .inr (4, [.int 3, .int (nI N), .ref tb, .ref md, .ref rw0, .int sz, .ref cs, .ref va, .int lk, .ref rn, .ref kp])), (tb, jaR g 10 (fun i => some (tr i))), (tr k, jaI g 253 (jrw n f))]) C (j_runV (ci := 0) (As := [.int 3]) (rest := []) [0] C (c_X5_fail l g m0 0 (nI N) tb md rw0 sz cs va lk rn kp 3) gX5_addStep_X5_fail rfl rfl rfl hd_X5_fail ⟨Nat.le_of_ble_eq_true rfl, Nat.le_of_ble_eq_true rfl⟩ rfl rfl rfl rfl dX5_addStep_153 rfl (Nat.le_of_ble_eq_true rfl) ⟨Nat.le_of_ble_eq_true rfl, Nat.le_of_ble_eq_true rfl⟩) rfl (fun _ => rfl) (fun _ => rfl) (fun z _ hz => ?_)
                    subst hz
                    exact j_iretW (v := 0) C hr dX5_addStep_156 () rfl rfl
                · skip
                  have c_11 : (jBt v3 0 100) = false := jb_0 c_11
                  (first | exact absurd c_11 (by decide) | exact absurd c_11 (by omega) | simp_all)
            · skip
              refine j_lconst (v := 0) C dX5_addStep_97 rfl ?_
              refine j_goto (tgt := 116) C dX5_addStep_98 (by decide) ?_
              refine j_callRi (v := jb (jIn v3.toInt64 0 0)) (j_runS (As := [.long v3.toInt64, .long 0, .long 0]) (rest := []) [] C (c_X5_isIn l g v3.toInt64 0 0) gX5_addStep_X5_isIn rfl rfl rfl hd_X5_isIn ⟨Nat.le_of_ble_eq_true rfl, Nat.le_of_ble_eq_true rfl⟩ rfl rfl dX5_addStep_116 rfl (Nat.le_of_ble_eq_true rfl) ⟨Nat.le_of_ble_eq_true rfl, Nat.le_of_ble_eq_true rfl⟩) ?_
              refine j_eq (pc' := 119) (L' := [(0, .ref m0), (1, .int (nI k)), (2, .int (nI j)), (3, .int v0), (4, .int v1), (5, .int v2), (6, .int v3), (7, .int 1)]) (st' := [.int (jb (jBt v3 0 0))]) (ws' := [(m0, .inr (4, [.int 0, .int (nI N), .ref tb, .ref md, .ref rw0, .int sz, .ref cs, .ref va, .int lk, .ref rn, .ref kp])), (tb, jaR g 10 (fun i => some (tr i))), (tr k, jaI g 253 (jrw n f))]) ?_ rfl rfl (by rw [jIn_b v3 0 0 _ _ (by decide) (by decide)]) rfl
              refine j_if_ne (tgt := 128) C dX5_addStep_119 (by decide) (fun c_14 => ?_) (fun c_14 => ?_)
              · skip
                have c_14 : (jBt v3 0 0) = true := jb_1 c_14
                refine j_aload_n 0 C dX5_addStep_128 rfl rfl ?_
                refine j_get (Cn := RX5) (T := TX5) (N := 11) 0 2 C dX5_addStep_129 hin_X5_addStep_X5 rfl rfl (by decide) (List.mem_of_getElem? (i := 9) rfl) rfl ?_
                refine j_iload_n 1 C dX5_addStep_132 rfl rfl ?_
                refine j_aldR (x := k) 1 C dX5_addStep_133 rfl rfl (by omega) (by decide) ?_
                refine j_eq (pc' := 134) (L' := [(0, .ref m0), (1, .int (nI k)), (2, .int (nI j)), (3, .int v0), (4, .int v1), (5, .int v2), (6, .int v3), (7, .int 1)]) (st' := [.ref (tr k)]) (ws' := [(m0, .inr (4, [.int 0, .int (nI N), .ref tb, .ref md, .ref rw0, .int sz, .ref cs, .ref va, .int lk, .ref rn, .ref kp])), (tb, jaR g 10 (fun i => some (tr i))), (tr k, jaI g 253 (jrw n f))]) ?_ rfl rfl rfl rfl
                refine j_astore (L' := [(0, .ref m0), (1, .int (nI k)), (2, .int (nI j)), (3, .int v0), (4, .int v1), (5, .int v2), (6, .int v3), (7, .int 1), (8, .ref (tr k))]) C dX5_addStep_134 (Nat.le_of_ble_eq_true rfl) rfl rfl ?_
                refine j_aload 8 C dX5_addStep_136 rfl ?_
                refine j_iload_n 2 C dX5_addStep_138 rfl rfl ?_
                refine j_callRi (v := f (j * 28 + 3)) (j_runS (As := [.ref (tr k), .int (nI j)]) (rest := []) [2] C (c_X5_steps l g (tr k) n f j (by omega)) gX5_addStep_X5_steps rfl rfl rfl hd_X5_steps ⟨Nat.le_of_ble_eq_true rfl, Nat.le_of_ble_eq_true rfl⟩ rfl rfl dX5_addStep_139 rfl (Nat.le_of_ble_eq_true rfl) ⟨Nat.le_of_ble_eq_true rfl, Nat.le_of_ble_eq_true rfl⟩) ?_
                refine j_eq (pc' := 142) (L' := [(0, .ref m0), (1, .int (nI k)), (2, .int (nI j)), (3, .int v0), (4, .int v1), (5, .int v2), (6, .int v3), (7, .int 1), (8, .ref (tr k))]) (st' := [.int 6]) (ws' := [(m0, .inr (4, [.int 0, .int (nI N), .ref tb, .ref md, .ref rw0, .int sz, .ref cs, .ref va, .int lk, .ref rn, .ref kp])), (tb, jaR g 10 (fun i => some (tr i))), (tr k, jaI g 253 (jrw n f))]) ?_ rfl rfl (by rw [ha]; rfl) rfl
                refine j_istore (L' := [(0, .ref m0), (1, .int (nI k)), (2, .int (nI j)), (3, .int v0), (4, .int v1), (5, .int v2), (6, .int v3), (7, .int 1), (8, .ref (tr k)), (9, .int 6)]) C dX5_addStep_142 (Nat.le_of_ble_eq_true rfl) rfl rfl ?_
                refine j_iload 9 C dX5_addStep_144 rfl ?_
                refine j_bipush (v := 6) C dX5_addStep_146 rfl ?_
                refine j_icmp_ne (tgt := 157) C dX5_addStep_148 (by decide) (fun c_15 => ?_) (fun c_15 => ?_)
                · skip
                  exact absurd c_15 (by decide)
                · skip
                  refine j_aload_n 0 C dX5_addStep_151 rfl rfl ?_
                  refine j_iconst (v := 3) C dX5_addStep_152 rfl ?_
                  refine j_callWi [0] (fun _ => [(m0, .inr (4, [.int 3, .int (nI N), .ref tb, .ref md, .ref rw0, .int sz, .ref cs, .ref va, .int lk, .ref rn, .ref kp])), (tb, jaR g 10 (fun i => some (tr i))), (tr k, jaI g 253 (jrw n f))]) C (j_runV (ci := 0) (As := [.int 3]) (rest := []) [0] C (c_X5_fail l g m0 0 (nI N) tb md rw0 sz cs va lk rn kp 3) gX5_addStep_X5_fail rfl rfl rfl hd_X5_fail ⟨Nat.le_of_ble_eq_true rfl, Nat.le_of_ble_eq_true rfl⟩ rfl rfl rfl rfl dX5_addStep_153 rfl (Nat.le_of_ble_eq_true rfl) ⟨Nat.le_of_ble_eq_true rfl, Nat.le_of_ble_eq_true rfl⟩) rfl (fun _ => rfl) (fun _ => rfl) (fun z _ hz => ?_)
                  subst hz
                  exact j_iretW (v := 0) C hr dX5_addStep_156 () rfl rfl
              · skip
                have c_14 : (jBt v3 0 0) = false := jb_0 c_14
                (first | exact absurd c_14 (by decide) | exact absurd c_14 (by omega) | simp_all)
    · skip
      have c_2 : (jBt v1 (-100) 100) = false := jb_0 c_2
      refine j_iload 4 C dX5_addStep_35 rfl ?_
      refine j_i2l (v := v1.toInt64) C dX5_addStep_37 rfl ?_
      refine j_ldc2 (v := 1000) C dX5_addStep_38 (List.mem_of_getElem? (i := 4) rfl) ?_
      refine j_ldc2 (v := 1003) C dX5_addStep_41 (List.mem_of_getElem? (i := 5) rfl) ?_
      refine j_callRi (v := jb (jIn v1.toInt64 1000 1003)) (j_runS (As := [.long v1.toInt64, .long 1000, .long 1003]) (rest := []) [] C (c_X5_isIn l g v1.toInt64 1000 1003) gX5_addStep_X5_isIn rfl rfl rfl hd_X5_isIn ⟨Nat.le_of_ble_eq_true rfl, Nat.le_of_ble_eq_true rfl⟩ rfl rfl dX5_addStep_44 rfl (Nat.le_of_ble_eq_true rfl) ⟨Nat.le_of_ble_eq_true rfl, Nat.le_of_ble_eq_true rfl⟩) ?_
      refine j_eq (pc' := 47) (L' := [(0, .ref m0), (1, .int (nI k)), (2, .int (nI j)), (3, .int v0), (4, .int v1), (5, .int v2), (6, .int v3)]) (st' := [.int (jb (jBt v1 1000 1003))]) (ws' := [(m0, .inr (4, [.int 0, .int (nI N), .ref tb, .ref md, .ref rw0, .int sz, .ref cs, .ref va, .int lk, .ref rn, .ref kp])), (tb, jaR g 10 (fun i => some (tr i))), (tr k, jaI g 253 (jrw n f))]) ?_ rfl rfl (by rw [jIn_b v1 1000 1003 _ _ (by decide) (by decide)]) rfl
      refine j_if_eq (tgt := 54) C dX5_addStep_47 (by decide) (fun c_17 => ?_) (fun c_17 => ?_)
      · skip
        have c_17 : (jBt v1 1000 1003) = false := jb_0 c_17
        (first | exact absurd c_17 (by decide) | exact absurd c_17 (by omega) | simp_all)
      · skip
        have c_17 : (jBt v1 1000 1003) = true := jb_1 c_17
        refine j_iconst (v := 1) C dX5_addStep_50 rfl ?_
        refine j_goto (tgt := 55) C dX5_addStep_51 (by decide) ?_
        refine j_istore (L' := [(0, .ref m0), (1, .int (nI k)), (2, .int (nI j)), (3, .int v0), (4, .int v1), (5, .int v2), (6, .int v3), (7, .int 1)]) C dX5_addStep_55 (Nat.le_of_ble_eq_true rfl) rfl rfl ?_
        refine j_iload_n 3 C dX5_addStep_57 rfl rfl ?_
        refine j_i2l (v := v0.toInt64) C dX5_addStep_58 rfl ?_
        refine j_lconst (v := 0) C dX5_addStep_59 rfl ?_
        refine j_ldc2 (v := 4) C dX5_addStep_60 (List.mem_of_getElem? (i := 6) rfl) ?_
        refine j_callRi (v := jb (jIn v0.toInt64 0 4)) (j_runS (As := [.long v0.toInt64, .long 0, .long 4]) (rest := []) [] C (c_X5_isIn l g v0.toInt64 0 4) gX5_addStep_X5_isIn rfl rfl rfl hd_X5_isIn ⟨Nat.le_of_ble_eq_true rfl, Nat.le_of_ble_eq_true rfl⟩ rfl rfl dX5_addStep_63 rfl (Nat.le_of_ble_eq_true rfl) ⟨Nat.le_of_ble_eq_true rfl, Nat.le_of_ble_eq_true rfl⟩) ?_
        refine j_eq (pc' := 66) (L' := [(0, .ref m0), (1, .int (nI k)), (2, .int (nI j)), (3, .int v0), (4, .int v1), (5, .int v2), (6, .int v3), (7, .int 1)]) (st' := [.int (jb (jBt v0 0 4))]) (ws' := [(m0, .inr (4, [.int 0, .int (nI N), .ref tb, .ref md, .ref rw0, .int sz, .ref cs, .ref va, .int lk, .ref rn, .ref kp])), (tb, jaR g 10 (fun i => some (tr i))), (tr k, jaI g 253 (jrw n f))]) ?_ rfl rfl (by rw [jIn_b v0 0 4 _ _ (by decide) (by decide)]) rfl
        refine j_if_eq (tgt := 122) C dX5_addStep_66 (by decide) (fun c_18 => ?_) (fun c_18 => ?_)
        · skip
          have c_18 : (jBt v0 0 4) = false := jb_0 c_18
          (first | exact absurd c_18 (by decide) | exact absurd c_18 (by omega) | simp_all)
        · skip
          have c_18 : (jBt v0 0 4) = true := jb_1 c_18
          refine j_iload 7 C dX5_addStep_69 rfl ?_
          refine j_if_eq (tgt := 122) C dX5_addStep_71 (by decide) (fun c_19 => ?_) (fun c_19 => ?_)
          · skip
            exact absurd c_19 (by decide)
          · skip
            refine j_iload 5 C dX5_addStep_74 rfl ?_
            refine j_i2l (v := v2.toInt64) C dX5_addStep_76 rfl ?_
            refine j_lconst (v := 0) C dX5_addStep_77 rfl ?_
            refine j_ldc2 (v := 5) C dX5_addStep_78 (List.mem_of_getElem? (i := 7) rfl) ?_
            refine j_callRi (v := jb (jIn v2.toInt64 0 5)) (j_runS (As := [.long v2.toInt64, .long 0, .long 5]) (rest := []) [] C (c_X5_isIn l g v2.toInt64 0 5) gX5_addStep_X5_isIn rfl rfl rfl hd_X5_isIn ⟨Nat.le_of_ble_eq_true rfl, Nat.le_of_ble_eq_true rfl⟩ rfl rfl dX5_addStep_81 rfl (Nat.le_of_ble_eq_true rfl) ⟨Nat.le_of_ble_eq_true rfl, Nat.le_of_ble_eq_true rfl⟩) ?_
            refine j_eq (pc' := 84) (L' := [(0, .ref m0), (1, .int (nI k)), (2, .int (nI j)), (3, .int v0), (4, .int v1), (5, .int v2), (6, .int v3), (7, .int 1)]) (st' := [.int (jb (jBt v2 0 5))]) (ws' := [(m0, .inr (4, [.int 0, .int (nI N), .ref tb, .ref md, .ref rw0, .int sz, .ref cs, .ref va, .int lk, .ref rn, .ref kp])), (tb, jaR g 10 (fun i => some (tr i))), (tr k, jaI g 253 (jrw n f))]) ?_ rfl rfl (by rw [jIn_b v2 0 5 _ _ (by decide) (by decide)]) rfl
            refine j_if_eq (tgt := 122) C dX5_addStep_84 (by decide) (fun c_20 => ?_) (fun c_20 => ?_)
            · skip
              have c_20 : (jBt v2 0 5) = false := jb_0 c_20
              (first | exact absurd c_20 (by decide) | exact absurd c_20 (by omega) | simp_all)
            · skip
              have c_20 : (jBt v2 0 5) = true := jb_1 c_20
              refine j_iload 6 C dX5_addStep_87 rfl ?_
              refine j_i2l (v := v3.toInt64) C dX5_addStep_89 rfl ?_
              refine j_lconst (v := 0) C dX5_addStep_90 rfl ?_
              refine j_iload 5 C dX5_addStep_91 rfl ?_
              refine j_iconst (v := 4) C dX5_addStep_93 rfl ?_
              refine j_icmp_ne (tgt := 101) C dX5_addStep_94 (by decide) (fun c_21 => ?_) (fun c_21 => ?_)
              · skip
                refine j_iload 5 C dX5_addStep_101 rfl ?_
                refine j_iconst (v := 5) C dX5_addStep_103 rfl ?_
                refine j_icmp_ne (tgt := 113) C dX5_addStep_104 (by decide) (fun c_22 => ?_) (fun c_22 => ?_)
                · skip
                  refine j_ldc2 (v := 3) C dX5_addStep_113 (List.mem_of_getElem? (i := 8) rfl) ?_
                  refine j_callRi (v := jb (jIn v3.toInt64 0 3)) (j_runS (As := [.long v3.toInt64, .long 0, .long 3]) (rest := []) [] C (c_X5_isIn l g v3.toInt64 0 3) gX5_addStep_X5_isIn rfl rfl rfl hd_X5_isIn ⟨Nat.le_of_ble_eq_true rfl, Nat.le_of_ble_eq_true rfl⟩ rfl rfl dX5_addStep_116 rfl (Nat.le_of_ble_eq_true rfl) ⟨Nat.le_of_ble_eq_true rfl, Nat.le_of_ble_eq_true rfl⟩) ?_
                  refine j_eq (pc' := 119) (L' := [(0, .ref m0), (1, .int (nI k)), (2, .int (nI j)), (3, .int v0), (4, .int v1), (5, .int v2), (6, .int v3), (7, .int 1)]) (st' := [.int (jb (jBt v3 0 3))]) (ws' := [(m0, .inr (4, [.int 0, .int (nI N), .ref tb, .ref md, .ref rw0, .int sz, .ref cs, .ref va, .int lk, .ref rn, .ref kp])), (tb, jaR g 10 (fun i => some (tr i))), (tr k, jaI g 253 (jrw n f))]) ?_ rfl rfl (by rw [jIn_b v3 0 3 _ _ (by decide) (by decide)]) rfl
                  refine j_if_ne (tgt := 128) C dX5_addStep_119 (by decide) (fun c_23 => ?_) (fun c_23 => ?_)
                  · skip
                    have c_23 : (jBt v3 0 3) = true := jb_1 c_23
                    refine j_aload_n 0 C dX5_addStep_128 rfl rfl ?_
                    refine j_get (Cn := RX5) (T := TX5) (N := 11) 0 2 C dX5_addStep_129 hin_X5_addStep_X5 rfl rfl (by decide) (List.mem_of_getElem? (i := 9) rfl) rfl ?_
                    refine j_iload_n 1 C dX5_addStep_132 rfl rfl ?_
                    refine j_aldR (x := k) 1 C dX5_addStep_133 rfl rfl (by omega) (by decide) ?_
                    refine j_eq (pc' := 134) (L' := [(0, .ref m0), (1, .int (nI k)), (2, .int (nI j)), (3, .int v0), (4, .int v1), (5, .int v2), (6, .int v3), (7, .int 1)]) (st' := [.ref (tr k)]) (ws' := [(m0, .inr (4, [.int 0, .int (nI N), .ref tb, .ref md, .ref rw0, .int sz, .ref cs, .ref va, .int lk, .ref rn, .ref kp])), (tb, jaR g 10 (fun i => some (tr i))), (tr k, jaI g 253 (jrw n f))]) ?_ rfl rfl rfl rfl
                    refine j_astore (L' := [(0, .ref m0), (1, .int (nI k)), (2, .int (nI j)), (3, .int v0), (4, .int v1), (5, .int v2), (6, .int v3), (7, .int 1), (8, .ref (tr k))]) C dX5_addStep_134 (Nat.le_of_ble_eq_true rfl) rfl rfl ?_
                    refine j_aload 8 C dX5_addStep_136 rfl ?_
                    refine j_iload_n 2 C dX5_addStep_138 rfl rfl ?_
                    refine j_callRi (v := f (j * 28 + 3)) (j_runS (As := [.ref (tr k), .int (nI j)]) (rest := []) [2] C (c_X5_steps l g (tr k) n f j (by omega)) gX5_addStep_X5_steps rfl rfl rfl hd_X5_steps ⟨Nat.le_of_ble_eq_true rfl, Nat.le_of_ble_eq_true rfl⟩ rfl rfl dX5_addStep_139 rfl (Nat.le_of_ble_eq_true rfl) ⟨Nat.le_of_ble_eq_true rfl, Nat.le_of_ble_eq_true rfl⟩) ?_
                    refine j_eq (pc' := 142) (L' := [(0, .ref m0), (1, .int (nI k)), (2, .int (nI j)), (3, .int v0), (4, .int v1), (5, .int v2), (6, .int v3), (7, .int 1), (8, .ref (tr k))]) (st' := [.int 6]) (ws' := [(m0, .inr (4, [.int 0, .int (nI N), .ref tb, .ref md, .ref rw0, .int sz, .ref cs, .ref va, .int lk, .ref rn, .ref kp])), (tb, jaR g 10 (fun i => some (tr i))), (tr k, jaI g 253 (jrw n f))]) ?_ rfl rfl (by rw [ha]; rfl) rfl
                    refine j_istore (L' := [(0, .ref m0), (1, .int (nI k)), (2, .int (nI j)), (3, .int v0), (4, .int v1), (5, .int v2), (6, .int v3), (7, .int 1), (8, .ref (tr k)), (9, .int 6)]) C dX5_addStep_142 (Nat.le_of_ble_eq_true rfl) rfl rfl ?_
                    refine j_iload 9 C dX5_addStep_144 rfl ?_
                    refine j_bipush (v := 6) C dX5_addStep_146 rfl ?_
                    refine j_icmp_ne (tgt := 157) C dX5_addStep_148 (by decide) (fun c_24 => ?_) (fun c_24 => ?_)
                    · skip
                      exact absurd c_24 (by decide)
                    · skip
                      refine j_aload_n 0 C dX5_addStep_151 rfl rfl ?_
                      refine j_iconst (v := 3) C dX5_addStep_152 rfl ?_
                      refine j_callWi [0] (fun _ => [(m0, .inr (4, [.int 3, .int (nI N), .ref tb, .ref md, .ref rw0, .int sz, .ref cs, .ref va, .int lk, .ref rn, .ref kp])), (tb, jaR g 10 (fun i => some (tr i))), (tr k, jaI g 253 (jrw n f))]) C (j_runV (ci := 0) (As := [.int 3]) (rest := []) [0] C (c_X5_fail l g m0 0 (nI N) tb md rw0 sz cs va lk rn kp 3) gX5_addStep_X5_fail rfl rfl rfl hd_X5_fail ⟨Nat.le_of_ble_eq_true rfl, Nat.le_of_ble_eq_true rfl⟩ rfl rfl rfl rfl dX5_addStep_153 rfl (Nat.le_of_ble_eq_true rfl) ⟨Nat.le_of_ble_eq_true rfl, Nat.le_of_ble_eq_true rfl⟩) rfl (fun _ => rfl) (fun _ => rfl) (fun z _ hz => ?_)
                      subst hz
                      exact j_iretW (v := 0) C hr dX5_addStep_156 () rfl rfl
                  · skip
                    have c_23 : (jBt v3 0 3) = false := jb_0 c_23
                    (first | exact absurd c_23 (by decide) | exact absurd c_23 (by omega) | simp_all)
                · skip
                  refine j_ldc2 (v := 100) C dX5_addStep_107 (List.mem_of_getElem? (i := 3) rfl) ?_
                  refine j_goto (tgt := 116) C dX5_addStep_110 (by decide) ?_
                  refine j_callRi (v := jb (jIn v3.toInt64 0 100)) (j_runS (As := [.long v3.toInt64, .long 0, .long 100]) (rest := []) [] C (c_X5_isIn l g v3.toInt64 0 100) gX5_addStep_X5_isIn rfl rfl rfl hd_X5_isIn ⟨Nat.le_of_ble_eq_true rfl, Nat.le_of_ble_eq_true rfl⟩ rfl rfl dX5_addStep_116 rfl (Nat.le_of_ble_eq_true rfl) ⟨Nat.le_of_ble_eq_true rfl, Nat.le_of_ble_eq_true rfl⟩) ?_
                  refine j_eq (pc' := 119) (L' := [(0, .ref m0), (1, .int (nI k)), (2, .int (nI j)), (3, .int v0), (4, .int v1), (5, .int v2), (6, .int v3), (7, .int 1)]) (st' := [.int (jb (jBt v3 0 100))]) (ws' := [(m0, .inr (4, [.int 0, .int (nI N), .ref tb, .ref md, .ref rw0, .int sz, .ref cs, .ref va, .int lk, .ref rn, .ref kp])), (tb, jaR g 10 (fun i => some (tr i))), (tr k, jaI g 253 (jrw n f))]) ?_ rfl rfl (by rw [jIn_b v3 0 100 _ _ (by decide) (by decide)]) rfl
                  refine j_if_ne (tgt := 128) C dX5_addStep_119 (by decide) (fun c_26 => ?_) (fun c_26 => ?_)
                  · skip
                    have c_26 : (jBt v3 0 100) = true := jb_1 c_26
                    refine j_aload_n 0 C dX5_addStep_128 rfl rfl ?_
                    refine j_get (Cn := RX5) (T := TX5) (N := 11) 0 2 C dX5_addStep_129 hin_X5_addStep_X5 rfl rfl (by decide) (List.mem_of_getElem? (i := 9) rfl) rfl ?_
                    refine j_iload_n 1 C dX5_addStep_132 rfl rfl ?_
                    refine j_aldR (x := k) 1 C dX5_addStep_133 rfl rfl (by omega) (by decide) ?_
                    refine j_eq (pc' := 134) (L' := [(0, .ref m0), (1, .int (nI k)), (2, .int (nI j)), (3, .int v0), (4, .int v1), (5, .int v2), (6, .int v3), (7, .int 1)]) (st' := [.ref (tr k)]) (ws' := [(m0, .inr (4, [.int 0, .int (nI N), .ref tb, .ref md, .ref rw0, .int sz, .ref cs, .ref va, .int lk, .ref rn, .ref kp])), (tb, jaR g 10 (fun i => some (tr i))), (tr k, jaI g 253 (jrw n f))]) ?_ rfl rfl rfl rfl
                    refine j_astore (L' := [(0, .ref m0), (1, .int (nI k)), (2, .int (nI j)), (3, .int v0), (4, .int v1), (5, .int v2), (6, .int v3), (7, .int 1), (8, .ref (tr k))]) C dX5_addStep_134 (Nat.le_of_ble_eq_true rfl) rfl rfl ?_
                    refine j_aload 8 C dX5_addStep_136 rfl ?_
                    refine j_iload_n 2 C dX5_addStep_138 rfl rfl ?_
                    refine j_callRi (v := f (j * 28 + 3)) (j_runS (As := [.ref (tr k), .int (nI j)]) (rest := []) [2] C (c_X5_steps l g (tr k) n f j (by omega)) gX5_addStep_X5_steps rfl rfl rfl hd_X5_steps ⟨Nat.le_of_ble_eq_true rfl, Nat.le_of_ble_eq_true rfl⟩ rfl rfl dX5_addStep_139 rfl (Nat.le_of_ble_eq_true rfl) ⟨Nat.le_of_ble_eq_true rfl, Nat.le_of_ble_eq_true rfl⟩) ?_
                    refine j_eq (pc' := 142) (L' := [(0, .ref m0), (1, .int (nI k)), (2, .int (nI j)), (3, .int v0), (4, .int v1), (5, .int v2), (6, .int v3), (7, .int 1), (8, .ref (tr k))]) (st' := [.int 6]) (ws' := [(m0, .inr (4, [.int 0, .int (nI N), .ref tb, .ref md, .ref rw0, .int sz, .ref cs, .ref va, .int lk, .ref rn, .ref kp])), (tb, jaR g 10 (fun i => some (tr i))), (tr k, jaI g 253 (jrw n f))]) ?_ rfl rfl (by rw [ha]; rfl) rfl
                    refine j_istore (L' := [(0, .ref m0), (1, .int (nI k)), (2, .int (nI j)), (3, .int v0), (4, .int v1), (5, .int v2), (6, .int v3), (7, .int 1), (8, .ref (tr k)), (9, .int 6)]) C dX5_addStep_142 (Nat.le_of_ble_eq_true rfl) rfl rfl ?_
                    refine j_iload 9 C dX5_addStep_144 rfl ?_
                    refine j_bipush (v := 6) C dX5_addStep_146 rfl ?_
                    refine j_icmp_ne (tgt := 157) C dX5_addStep_148 (by decide) (fun c_27 => ?_) (fun c_27 => ?_)
                    · skip
                      exact absurd c_27 (by decide)
                    · skip
                      refine j_aload_n 0 C dX5_addStep_151 rfl rfl ?_
                      refine j_iconst (v := 3) C dX5_addStep_152 rfl ?_
                      refine j_callWi [0] (fun _ => [(m0, .inr (4, [.int 3, .int (nI N), .ref tb, .ref md, .ref rw0, .int sz, .ref cs, .ref va, .int lk, .ref rn, .ref kp])), (tb, jaR g 10 (fun i => some (tr i))), (tr k, jaI g 253 (jrw n f))]) C (j_runV (ci := 0) (As := [.int 3]) (rest := []) [0] C (c_X5_fail l g m0 0 (nI N) tb md rw0 sz cs va lk rn kp 3) gX5_addStep_X5_fail rfl rfl rfl hd_X5_fail ⟨Nat.le_of_ble_eq_true rfl, Nat.le_of_ble_eq_true rfl⟩ rfl rfl rfl rfl dX5_addStep_153 rfl (Nat.le_of_ble_eq_true rfl) ⟨Nat.le_of_ble_eq_true rfl, Nat.le_of_ble_eq_true rfl⟩) rfl (fun _ => rfl) (fun _ => rfl) (fun z _ hz => ?_)
                      subst hz
                      exact j_iretW (v := 0) C hr dX5_addStep_156 () rfl rfl
                  · skip
                    have c_26 : (jBt v3 0 100) = false := jb_0 c_26
                    (first | exact absurd c_26 (by decide) | exact absurd c_26 (by omega) | simp_all)
              · skip
                refine j_lconst (v := 0) C dX5_addStep_97 rfl ?_
                refine j_goto (tgt := 116) C dX5_addStep_98 (by decide) ?_
                refine j_callRi (v := jb (jIn v3.toInt64 0 0)) (j_runS (As := [.long v3.toInt64, .long 0, .long 0]) (rest := []) [] C (c_X5_isIn l g v3.toInt64 0 0) gX5_addStep_X5_isIn rfl rfl rfl hd_X5_isIn ⟨Nat.le_of_ble_eq_true rfl, Nat.le_of_ble_eq_true rfl⟩ rfl rfl dX5_addStep_116 rfl (Nat.le_of_ble_eq_true rfl) ⟨Nat.le_of_ble_eq_true rfl, Nat.le_of_ble_eq_true rfl⟩) ?_
                refine j_eq (pc' := 119) (L' := [(0, .ref m0), (1, .int (nI k)), (2, .int (nI j)), (3, .int v0), (4, .int v1), (5, .int v2), (6, .int v3), (7, .int 1)]) (st' := [.int (jb (jBt v3 0 0))]) (ws' := [(m0, .inr (4, [.int 0, .int (nI N), .ref tb, .ref md, .ref rw0, .int sz, .ref cs, .ref va, .int lk, .ref rn, .ref kp])), (tb, jaR g 10 (fun i => some (tr i))), (tr k, jaI g 253 (jrw n f))]) ?_ rfl rfl (by rw [jIn_b v3 0 0 _ _ (by decide) (by decide)]) rfl
                refine j_if_ne (tgt := 128) C dX5_addStep_119 (by decide) (fun c_29 => ?_) (fun c_29 => ?_)
                · skip
                  have c_29 : (jBt v3 0 0) = true := jb_1 c_29
                  refine j_aload_n 0 C dX5_addStep_128 rfl rfl ?_
                  refine j_get (Cn := RX5) (T := TX5) (N := 11) 0 2 C dX5_addStep_129 hin_X5_addStep_X5 rfl rfl (by decide) (List.mem_of_getElem? (i := 9) rfl) rfl ?_
                  refine j_iload_n 1 C dX5_addStep_132 rfl rfl ?_
                  refine j_aldR (x := k) 1 C dX5_addStep_133 rfl rfl (by omega) (by decide) ?_
                  refine j_eq (pc' := 134) (L' := [(0, .ref m0), (1, .int (nI k)), (2, .int (nI j)), (3, .int v0), (4, .int v1), (5, .int v2), (6, .int v3), (7, .int 1)]) (st' := [.ref (tr k)]) (ws' := [(m0, .inr (4, [.int 0, .int (nI N), .ref tb, .ref md, .ref rw0, .int sz, .ref cs, .ref va, .int lk, .ref rn, .ref kp])), (tb, jaR g 10 (fun i => some (tr i))), (tr k, jaI g 253 (jrw n f))]) ?_ rfl rfl rfl rfl
                  refine j_astore (L' := [(0, .ref m0), (1, .int (nI k)), (2, .int (nI j)), (3, .int v0), (4, .int v1), (5, .int v2), (6, .int v3), (7, .int 1), (8, .ref (tr k))]) C dX5_addStep_134 (Nat.le_of_ble_eq_true rfl) rfl rfl ?_
                  refine j_aload 8 C dX5_addStep_136 rfl ?_
                  refine j_iload_n 2 C dX5_addStep_138 rfl rfl ?_
                  refine j_callRi (v := f (j * 28 + 3)) (j_runS (As := [.ref (tr k), .int (nI j)]) (rest := []) [2] C (c_X5_steps l g (tr k) n f j (by omega)) gX5_addStep_X5_steps rfl rfl rfl hd_X5_steps ⟨Nat.le_of_ble_eq_true rfl, Nat.le_of_ble_eq_true rfl⟩ rfl rfl dX5_addStep_139 rfl (Nat.le_of_ble_eq_true rfl) ⟨Nat.le_of_ble_eq_true rfl, Nat.le_of_ble_eq_true rfl⟩) ?_
                  refine j_eq (pc' := 142) (L' := [(0, .ref m0), (1, .int (nI k)), (2, .int (nI j)), (3, .int v0), (4, .int v1), (5, .int v2), (6, .int v3), (7, .int 1), (8, .ref (tr k))]) (st' := [.int 6]) (ws' := [(m0, .inr (4, [.int 0, .int (nI N), .ref tb, .ref md, .ref rw0, .int sz, .ref cs, .ref va, .int lk, .ref rn, .ref kp])), (tb, jaR g 10 (fun i => some (tr i))), (tr k, jaI g 253 (jrw n f))]) ?_ rfl rfl (by rw [ha]; rfl) rfl
                  refine j_istore (L' := [(0, .ref m0), (1, .int (nI k)), (2, .int (nI j)), (3, .int v0), (4, .int v1), (5, .int v2), (6, .int v3), (7, .int 1), (8, .ref (tr k)), (9, .int 6)]) C dX5_addStep_142 (Nat.le_of_ble_eq_true rfl) rfl rfl ?_
                  refine j_iload 9 C dX5_addStep_144 rfl ?_
                  refine j_bipush (v := 6) C dX5_addStep_146 rfl ?_
                  refine j_icmp_ne (tgt := 157) C dX5_addStep_148 (by decide) (fun c_30 => ?_) (fun c_30 => ?_)
                  · skip
                    exact absurd c_30 (by decide)
                  · skip
                    refine j_aload_n 0 C dX5_addStep_151 rfl rfl ?_
                    refine j_iconst (v := 3) C dX5_addStep_152 rfl ?_
                    refine j_callWi [0] (fun _ => [(m0, .inr (4, [.int 3, .int (nI N), .ref tb, .ref md, .ref rw0, .int sz, .ref cs, .ref va, .int lk, .ref rn, .ref kp])), (tb, jaR g 10 (fun i => some (tr i))), (tr k, jaI g 253 (jrw n f))]) C (j_runV (ci := 0) (As := [.int 3]) (rest := []) [0] C (c_X5_fail l g m0 0 (nI N) tb md rw0 sz cs va lk rn kp 3) gX5_addStep_X5_fail rfl rfl rfl hd_X5_fail ⟨Nat.le_of_ble_eq_true rfl, Nat.le_of_ble_eq_true rfl⟩ rfl rfl rfl rfl dX5_addStep_153 rfl (Nat.le_of_ble_eq_true rfl) ⟨Nat.le_of_ble_eq_true rfl, Nat.le_of_ble_eq_true rfl⟩) rfl (fun _ => rfl) (fun _ => rfl) (fun z _ hz => ?_)
                    subst hz
                    exact j_iretW (v := 0) C hr dX5_addStep_156 () rfl rfl
                · skip
                  have c_29 : (jBt v3 0 0) = false := jb_0 c_29
                  (first | exact absurd c_29 (by decide) | exact absurd c_29 (by omega) | simp_all)
  · skip
    have c_1 : true = false := jb_0 c_1
    (first | exact absurd c_1 (by decide) | exact absurd c_1 (by omega) | simp_all)
set_option maxHeartbeats 4000000 in
set_option maxRecDepth 100000 in
theorem c_X5_addStep (l : Launch) (g : jG) (m0 : Nat) (th : Int32) (N tb md rw0 : Nat) (sz : Int32) (cs va : Nat) (lk : Int32) (rn kp : Nat) (tr : Nat → Nat) (k n : Nat) (f : Nat → Int32) (j : Nat) (a : Nat) (v0 v1 v2 v3 : Int32) (hk : k < N) (hN : N ≤ 10) (hj : j < n) (hn : n ≤ 8) (hq : ((jBt v0 0 4 && (jBt v1 (-100) 100 || jBt v1 1000 1003)) && (jBt v2 0 5 && jBt v3 0 (if v2 = 4 then 0 else if v2 = 5 then 100 else 3))) = true) (ha : f (j * 28 + 3) = nI a) (ha6 : a < 6) : jMi l yX5_addStep wsX5_addStep ({ frames := 3, cells := 1, slots := 4, locals := 68 }) 1 4 g [.ref m0, .int (nI k), .int (nI j), .int v0, .int v1, .int v2, .int v3] [(m0, .inr (4, [.int th, .int (nI N), .ref tb, .ref md, .ref rw0, .int sz, .ref cs, .ref va, .int lk, .ref rn, .ref kp])), (tb, jaR g 10 (fun i => some (tr i))), (tr k, jaI g 253 (jrw n f))] [(m0, .inr (4, [.int 0, .int (nI N), .ref tb, .ref md, .ref rw0, .int sz, .ref cs, .ref va, .int lk, .ref rn, .ref kp])), (tb, jaR g 10 (fun i => some (tr i))), (tr k, jaI g 253 (jrw n (upd (upd (upd (upd (upd f (j * 28 + 4 + a * 4 + 0) v0) (j * 28 + 4 + a * 4 + 1) v1) (j * 28 + 4 + a * 4 + 2) v2) (j * 28 + 4 + a * 4 + 3) v3) (j * 28 + 3) (nI (a + 1)))))] (nI a) := by
  refine j_enterW (Qc := fun sz_ => va_Qi (fun r (_ : Unit) => r = nI a) (fun _ t => va_P g.1 vwCl [(m0, .inr (4, [.int 0, .int (nI N), .ref tb, .ref md, .ref rw0, .int sz, .ref cs, .ref va, .int lk, .ref rn, .ref kp])), (tb, jaR g 10 (fun i => some (tr i))), (tr k, jaI g 253 (jrw n (upd (upd (upd (upd (upd f (j * 28 + 4 + a * 4 + 0) v0) (j * 28 + 4 + a * 4 + 1) v1) (j * 28 + 4 + a * 4 + 2) v2) (j * 28 + 4 + a * 4 + 3) v3) (j * 28 + 3) (nI (a + 1)))))] t.heap) (va_A [(m0, .inr (4, [.int th, .int (nI N), .ref tb, .ref md, .ref rw0, .int sz, .ref cs, .ref va, .int lk, .ref rn, .ref kp])), (tb, jaR g 10 (fun i => some (tr i))), (tr k, jaI g 253 (jrw n f))] sz_)) (cc := cX5_addStep) (maxL := 11) (ret := (some .int)) (own := RX5) (L := [(0, .ref m0), (1, .int (nI k)), (2, .int (nI j)), (3, .int v0), (4, .int v1), (5, .int v2), (6, .int v3)]) (by decide) rfl rfl (Nat.le_of_ble_eq_true rfl) rfl (fun p e s m args below meth c C hr => ?_)
  refine j_aload_n 0 C dX5_addStep_0 rfl rfl ?_
  refine j_iconst (v := 0) C dX5_addStep_1 rfl ?_
  refine j_put (Cn := RX5) (T := TX5) (N := 11) (ws' := [(m0, .inr (4, [.int 0, .int (nI N), .ref tb, .ref md, .ref rw0, .int sz, .ref cs, .ref va, .int lk, .ref rn, .ref kp])), (tb, jaR g 10 (fun i => some (tr i))), (tr k, jaI g 253 (jrw n f))]) tyX5 0 0 C dX5_addStep_2 hin_X5_addStep_X5 tyX5_ok nmX5 rfl rfl (by decide) (List.mem_of_getElem? (i := 1) rfl) rfl (tyX5_ok 0 (by decide)) rfl rfl (Nat.le_of_ble_eq_true rfl) rfl ?_
  refine j_aload_n 0 C dX5_addStep_5 rfl rfl ?_
  refine j_iload_n 1 C dX5_addStep_6 rfl rfl ?_
  refine j_iload_n 2 C dX5_addStep_7 rfl rfl ?_
  refine j_callRi (v := jb (jBt (nI j) 0 (nI n - 1))) (j_runV (ci := 0) (As := [.int (nI k), .int (nI j)]) (rest := []) [0, 1, 2] C (c_X5_isLoop l g m0 0 N tb md rw0 sz cs va lk rn kp tr k n f (nI j) (by omega) (by omega)) gX5_addStep_X5_isLoop rfl rfl rfl hd_X5_isLoop ⟨Nat.le_of_ble_eq_true rfl, Nat.le_of_ble_eq_true rfl⟩ rfl rfl rfl rfl dX5_addStep_8 rfl (Nat.le_of_ble_eq_true rfl) ⟨Nat.le_of_ble_eq_true rfl, Nat.le_of_ble_eq_true rfl⟩) ?_
  refine j_eq (pc' := 11) (L' := [(0, .ref m0), (1, .int (nI k)), (2, .int (nI j)), (3, .int v0), (4, .int v1), (5, .int v2), (6, .int v3)]) (st' := [.int (jb true)]) (ws' := [(m0, .inr (4, [.int 0, .int (nI N), .ref tb, .ref md, .ref rw0, .int sz, .ref cs, .ref va, .int lk, .ref rn, .ref kp])), (tb, jaR g 10 (fun i => some (tr i))), (tr k, jaI g 253 (jrw n f))]) ?_ rfl rfl (by rw [jBt_n hj (by omega)]) rfl
  refine j_if_ne (tgt := 20) C dX5_addStep_11 (by decide) (fun c_1 => ?_) (fun c_1 => ?_)
  · skip
    have c_1 : true = true := jb_1 c_1
    refine j_iload 4 C dX5_addStep_20 rfl ?_
    refine j_i2l (v := v1.toInt64) C dX5_addStep_22 rfl ?_
    refine j_ldc2 (v := -100) C dX5_addStep_23 (List.mem_of_getElem? (i := 2) rfl) ?_
    refine j_ldc2 (v := 100) C dX5_addStep_26 (List.mem_of_getElem? (i := 3) rfl) ?_
    refine j_callRi (v := jb (jIn v1.toInt64 (-100) 100)) (j_runS (As := [.long v1.toInt64, .long (-100), .long 100]) (rest := []) [] C (c_X5_isIn l g v1.toInt64 (-100) 100) gX5_addStep_X5_isIn rfl rfl rfl hd_X5_isIn ⟨Nat.le_of_ble_eq_true rfl, Nat.le_of_ble_eq_true rfl⟩ rfl rfl dX5_addStep_29 rfl (Nat.le_of_ble_eq_true rfl) ⟨Nat.le_of_ble_eq_true rfl, Nat.le_of_ble_eq_true rfl⟩) ?_
    refine j_eq (pc' := 32) (L' := [(0, .ref m0), (1, .int (nI k)), (2, .int (nI j)), (3, .int v0), (4, .int v1), (5, .int v2), (6, .int v3)]) (st' := [.int (jb (jBt v1 (-100) 100))]) (ws' := [(m0, .inr (4, [.int 0, .int (nI N), .ref tb, .ref md, .ref rw0, .int sz, .ref cs, .ref va, .int lk, .ref rn, .ref kp])), (tb, jaR g 10 (fun i => some (tr i))), (tr k, jaI g 253 (jrw n f))]) ?_ rfl rfl (by rw [jIn_b v1 (-100) 100 _ _ (by decide) (by decide)]) rfl
    refine j_if_ne (tgt := 50) C dX5_addStep_32 (by decide) (fun c_2 => ?_) (fun c_2 => ?_)
    · skip
      have c_2 : (jBt v1 (-100) 100) = true := jb_1 c_2
      refine j_iconst (v := 1) C dX5_addStep_50 rfl ?_
      refine j_goto (tgt := 55) C dX5_addStep_51 (by decide) ?_
      refine j_istore (L' := [(0, .ref m0), (1, .int (nI k)), (2, .int (nI j)), (3, .int v0), (4, .int v1), (5, .int v2), (6, .int v3), (7, .int 1)]) C dX5_addStep_55 (Nat.le_of_ble_eq_true rfl) rfl rfl ?_
      refine j_iload_n 3 C dX5_addStep_57 rfl rfl ?_
      refine j_i2l (v := v0.toInt64) C dX5_addStep_58 rfl ?_
      refine j_lconst (v := 0) C dX5_addStep_59 rfl ?_
      refine j_ldc2 (v := 4) C dX5_addStep_60 (List.mem_of_getElem? (i := 6) rfl) ?_
      refine j_callRi (v := jb (jIn v0.toInt64 0 4)) (j_runS (As := [.long v0.toInt64, .long 0, .long 4]) (rest := []) [] C (c_X5_isIn l g v0.toInt64 0 4) gX5_addStep_X5_isIn rfl rfl rfl hd_X5_isIn ⟨Nat.le_of_ble_eq_true rfl, Nat.le_of_ble_eq_true rfl⟩ rfl rfl dX5_addStep_63 rfl (Nat.le_of_ble_eq_true rfl) ⟨Nat.le_of_ble_eq_true rfl, Nat.le_of_ble_eq_true rfl⟩) ?_
      refine j_eq (pc' := 66) (L' := [(0, .ref m0), (1, .int (nI k)), (2, .int (nI j)), (3, .int v0), (4, .int v1), (5, .int v2), (6, .int v3), (7, .int 1)]) (st' := [.int (jb (jBt v0 0 4))]) (ws' := [(m0, .inr (4, [.int 0, .int (nI N), .ref tb, .ref md, .ref rw0, .int sz, .ref cs, .ref va, .int lk, .ref rn, .ref kp])), (tb, jaR g 10 (fun i => some (tr i))), (tr k, jaI g 253 (jrw n f))]) ?_ rfl rfl (by rw [jIn_b v0 0 4 _ _ (by decide) (by decide)]) rfl
      refine j_if_eq (tgt := 122) C dX5_addStep_66 (by decide) (fun c_3 => ?_) (fun c_3 => ?_)
      · skip
        have c_3 : (jBt v0 0 4) = false := jb_0 c_3
        (first | exact absurd c_3 (by decide) | exact absurd c_3 (by omega) | simp_all)
      · skip
        have c_3 : (jBt v0 0 4) = true := jb_1 c_3
        refine j_iload 7 C dX5_addStep_69 rfl ?_
        refine j_if_eq (tgt := 122) C dX5_addStep_71 (by decide) (fun c_4 => ?_) (fun c_4 => ?_)
        · skip
          exact absurd c_4 (by decide)
        · skip
          refine j_iload 5 C dX5_addStep_74 rfl ?_
          refine j_i2l (v := v2.toInt64) C dX5_addStep_76 rfl ?_
          refine j_lconst (v := 0) C dX5_addStep_77 rfl ?_
          refine j_ldc2 (v := 5) C dX5_addStep_78 (List.mem_of_getElem? (i := 7) rfl) ?_
          refine j_callRi (v := jb (jIn v2.toInt64 0 5)) (j_runS (As := [.long v2.toInt64, .long 0, .long 5]) (rest := []) [] C (c_X5_isIn l g v2.toInt64 0 5) gX5_addStep_X5_isIn rfl rfl rfl hd_X5_isIn ⟨Nat.le_of_ble_eq_true rfl, Nat.le_of_ble_eq_true rfl⟩ rfl rfl dX5_addStep_81 rfl (Nat.le_of_ble_eq_true rfl) ⟨Nat.le_of_ble_eq_true rfl, Nat.le_of_ble_eq_true rfl⟩) ?_
          refine j_eq (pc' := 84) (L' := [(0, .ref m0), (1, .int (nI k)), (2, .int (nI j)), (3, .int v0), (4, .int v1), (5, .int v2), (6, .int v3), (7, .int 1)]) (st' := [.int (jb (jBt v2 0 5))]) (ws' := [(m0, .inr (4, [.int 0, .int (nI N), .ref tb, .ref md, .ref rw0, .int sz, .ref cs, .ref va, .int lk, .ref rn, .ref kp])), (tb, jaR g 10 (fun i => some (tr i))), (tr k, jaI g 253 (jrw n f))]) ?_ rfl rfl (by rw [jIn_b v2 0 5 _ _ (by decide) (by decide)]) rfl
          refine j_if_eq (tgt := 122) C dX5_addStep_84 (by decide) (fun c_5 => ?_) (fun c_5 => ?_)
          · skip
            have c_5 : (jBt v2 0 5) = false := jb_0 c_5
            (first | exact absurd c_5 (by decide) | exact absurd c_5 (by omega) | simp_all)
          · skip
            have c_5 : (jBt v2 0 5) = true := jb_1 c_5
            refine j_iload 6 C dX5_addStep_87 rfl ?_
            refine j_i2l (v := v3.toInt64) C dX5_addStep_89 rfl ?_
            refine j_lconst (v := 0) C dX5_addStep_90 rfl ?_
            refine j_iload 5 C dX5_addStep_91 rfl ?_
            refine j_iconst (v := 4) C dX5_addStep_93 rfl ?_
            refine j_icmp_ne (tgt := 101) C dX5_addStep_94 (by decide) (fun c_6 => ?_) (fun c_6 => ?_)
            · skip
              refine j_iload 5 C dX5_addStep_101 rfl ?_
              refine j_iconst (v := 5) C dX5_addStep_103 rfl ?_
              refine j_icmp_ne (tgt := 113) C dX5_addStep_104 (by decide) (fun c_7 => ?_) (fun c_7 => ?_)
              · skip
                refine j_ldc2 (v := 3) C dX5_addStep_113 (List.mem_of_getElem? (i := 8) rfl) ?_
                refine j_callRi (v := jb (jIn v3.toInt64 0 3)) (j_runS (As := [.long v3.toInt64, .long 0, .long 3]) (rest := []) [] C (c_X5_isIn l g v3.toInt64 0 3) gX5_addStep_X5_isIn rfl rfl rfl hd_X5_isIn ⟨Nat.le_of_ble_eq_true rfl, Nat.le_of_ble_eq_true rfl⟩ rfl rfl dX5_addStep_116 rfl (Nat.le_of_ble_eq_true rfl) ⟨Nat.le_of_ble_eq_true rfl, Nat.le_of_ble_eq_true rfl⟩) ?_
                refine j_eq (pc' := 119) (L' := [(0, .ref m0), (1, .int (nI k)), (2, .int (nI j)), (3, .int v0), (4, .int v1), (5, .int v2), (6, .int v3), (7, .int 1)]) (st' := [.int (jb (jBt v3 0 3))]) (ws' := [(m0, .inr (4, [.int 0, .int (nI N), .ref tb, .ref md, .ref rw0, .int sz, .ref cs, .ref va, .int lk, .ref rn, .ref kp])), (tb, jaR g 10 (fun i => some (tr i))), (tr k, jaI g 253 (jrw n f))]) ?_ rfl rfl (by rw [jIn_b v3 0 3 _ _ (by decide) (by decide)]) rfl
                refine j_if_ne (tgt := 128) C dX5_addStep_119 (by decide) (fun c_8 => ?_) (fun c_8 => ?_)
                · skip
                  have c_8 : (jBt v3 0 3) = true := jb_1 c_8
                  refine j_aload_n 0 C dX5_addStep_128 rfl rfl ?_
                  refine j_get (Cn := RX5) (T := TX5) (N := 11) 0 2 C dX5_addStep_129 hin_X5_addStep_X5 rfl rfl (by decide) (List.mem_of_getElem? (i := 9) rfl) rfl ?_
                  refine j_iload_n 1 C dX5_addStep_132 rfl rfl ?_
                  refine j_aldR (x := k) 1 C dX5_addStep_133 rfl rfl (by omega) (by decide) ?_
                  refine j_eq (pc' := 134) (L' := [(0, .ref m0), (1, .int (nI k)), (2, .int (nI j)), (3, .int v0), (4, .int v1), (5, .int v2), (6, .int v3), (7, .int 1)]) (st' := [.ref (tr k)]) (ws' := [(m0, .inr (4, [.int 0, .int (nI N), .ref tb, .ref md, .ref rw0, .int sz, .ref cs, .ref va, .int lk, .ref rn, .ref kp])), (tb, jaR g 10 (fun i => some (tr i))), (tr k, jaI g 253 (jrw n f))]) ?_ rfl rfl rfl rfl
                  refine j_astore (L' := [(0, .ref m0), (1, .int (nI k)), (2, .int (nI j)), (3, .int v0), (4, .int v1), (5, .int v2), (6, .int v3), (7, .int 1), (8, .ref (tr k))]) C dX5_addStep_134 (Nat.le_of_ble_eq_true rfl) rfl rfl ?_
                  refine j_aload 8 C dX5_addStep_136 rfl ?_
                  refine j_iload_n 2 C dX5_addStep_138 rfl rfl ?_
                  refine j_callRi (v := f (j * 28 + 3)) (j_runS (As := [.ref (tr k), .int (nI j)]) (rest := []) [2] C (c_X5_steps l g (tr k) n f j (by omega)) gX5_addStep_X5_steps rfl rfl rfl hd_X5_steps ⟨Nat.le_of_ble_eq_true rfl, Nat.le_of_ble_eq_true rfl⟩ rfl rfl dX5_addStep_139 rfl (Nat.le_of_ble_eq_true rfl) ⟨Nat.le_of_ble_eq_true rfl, Nat.le_of_ble_eq_true rfl⟩) ?_
                  refine j_eq (pc' := 142) (L' := [(0, .ref m0), (1, .int (nI k)), (2, .int (nI j)), (3, .int v0), (4, .int v1), (5, .int v2), (6, .int v3), (7, .int 1), (8, .ref (tr k))]) (st' := [.int (nI a)]) (ws' := [(m0, .inr (4, [.int 0, .int (nI N), .ref tb, .ref md, .ref rw0, .int sz, .ref cs, .ref va, .int lk, .ref rn, .ref kp])), (tb, jaR g 10 (fun i => some (tr i))), (tr k, jaI g 253 (jrw n f))]) ?_ rfl rfl (by rw [ha]) rfl
                  refine j_istore (L' := [(0, .ref m0), (1, .int (nI k)), (2, .int (nI j)), (3, .int v0), (4, .int v1), (5, .int v2), (6, .int v3), (7, .int 1), (8, .ref (tr k)), (9, .int (nI a))]) C dX5_addStep_142 (Nat.le_of_ble_eq_true rfl) rfl rfl ?_
                  refine j_iload 9 C dX5_addStep_144 rfl ?_
                  refine j_bipush (v := 6) C dX5_addStep_146 rfl ?_
                  refine j_icmp_ne (tgt := 157) C dX5_addStep_148 (by decide) (fun c_9 => ?_) (fun c_9 => ?_)
                  · skip
                    have c_9 : ¬ a = 6 := fun z => c_9 ((nI_eq (a := a) (b := 6) (by omega) (by omega)).mpr z)
                    refine j_iconst (v := 4) C dX5_addStep_157 rfl ?_
                    refine j_newaI C dX5_addStep_158 (List.mem_of_getElem? (i := 10) rfl) rfl (by decide) (by constructor <;> exact Nat.le_of_ble_eq_true rfl) (fun nw_10 => ?_)
                    refine j_eq (pc' := 160) (L' := [(0, .ref m0), (1, .int (nI k)), (2, .int (nI j)), (3, .int v0), (4, .int v1), (5, .int v2), (6, .int v3), (7, .int 1), (8, .ref (tr k)), (9, .int (nI a))]) (st' := [.ref nw_10]) (ws' := [(m0, .inr (4, [.int 0, .int (nI N), .ref tb, .ref md, .ref rw0, .int sz, .ref cs, .ref va, .int lk, .ref rn, .ref kp])), (tb, jaR g 10 (fun i => some (tr i))), (tr k, jaI g 253 (jrw n f)), (nw_10, jaI g 4 (fun _ => 0))]) ?_ rfl rfl rfl rfl
                    refine j_dup C dX5_addStep_160 rfl ?_
                    refine j_iconst (v := 0) C dX5_addStep_161 rfl ?_
                    refine j_iload_n 3 C dX5_addStep_162 rfl rfl ?_
                    refine j_iastN (x := 0) (ws' := [(m0, .inr (4, [.int 0, .int (nI N), .ref tb, .ref md, .ref rw0, .int sz, .ref cs, .ref va, .int lk, .ref rn, .ref kp])), (tb, jaR g 10 (fun i => some (tr i))), (tr k, jaI g 253 (jrw n f)), (nw_10, jaI g 4 (upd (fun _ => 0) 0 v0))]) 3 C dX5_addStep_163 rfl rfl (by omega) (by decide) rfl ?_
                    refine j_dup C dX5_addStep_164 rfl ?_
                    refine j_iconst (v := 1) C dX5_addStep_165 rfl ?_
                    refine j_iload 4 C dX5_addStep_166 rfl ?_
                    refine j_iastN (x := 1) (ws' := [(m0, .inr (4, [.int 0, .int (nI N), .ref tb, .ref md, .ref rw0, .int sz, .ref cs, .ref va, .int lk, .ref rn, .ref kp])), (tb, jaR g 10 (fun i => some (tr i))), (tr k, jaI g 253 (jrw n f)), (nw_10, jaI g 4 (upd (upd (fun _ => 0) 0 v0) 1 v1))]) 3 C dX5_addStep_168 rfl rfl (by omega) (by decide) rfl ?_
                    refine j_dup C dX5_addStep_169 rfl ?_
                    refine j_iconst (v := 2) C dX5_addStep_170 rfl ?_
                    refine j_iload 5 C dX5_addStep_171 rfl ?_
                    refine j_iastN (x := 2) (ws' := [(m0, .inr (4, [.int 0, .int (nI N), .ref tb, .ref md, .ref rw0, .int sz, .ref cs, .ref va, .int lk, .ref rn, .ref kp])), (tb, jaR g 10 (fun i => some (tr i))), (tr k, jaI g 253 (jrw n f)), (nw_10, jaI g 4 (upd (upd (upd (fun _ => 0) 0 v0) 1 v1) 2 v2))]) 3 C dX5_addStep_173 rfl rfl (by omega) (by decide) rfl ?_
                    refine j_dup C dX5_addStep_174 rfl ?_
                    refine j_iconst (v := 3) C dX5_addStep_175 rfl ?_
                    refine j_iload 6 C dX5_addStep_176 rfl ?_
                    refine j_iastN (x := 3) (ws' := [(m0, .inr (4, [.int 0, .int (nI N), .ref tb, .ref md, .ref rw0, .int sz, .ref cs, .ref va, .int lk, .ref rn, .ref kp])), (tb, jaR g 10 (fun i => some (tr i))), (tr k, jaI g 253 (jrw n f)), (nw_10, jaI g 4 (upd (upd (upd (upd (fun _ => 0) 0 v0) 1 v1) 2 v2) 3 v3))]) 3 C dX5_addStep_178 rfl rfl (by omega) (by decide) rfl ?_
                    refine j_astore (L' := [(0, .ref m0), (1, .int (nI k)), (2, .int (nI j)), (3, .int v0), (4, .int v1), (5, .int v2), (6, .int v3), (7, .int 1), (8, .ref (tr k)), (9, .int (nI a)), (10, .ref nw_10)]) C dX5_addStep_179 (Nat.le_of_ble_eq_true rfl) rfl rfl ?_
                    refine j_aload 10 C dX5_addStep_181 rfl ?_
                    refine j_iconst (v := 0) C dX5_addStep_183 rfl ?_
                    refine j_aload 8 C dX5_addStep_184 rfl ?_
                    refine j_iload_n 2 C dX5_addStep_186 rfl rfl ?_
                    refine j_iload 9 C dX5_addStep_187 rfl ?_
                    refine j_callRi (v := nI (1 + 28 * j + 4 + 4 * a)) (j_runS (As := [.int (nI j), .int (nI a)]) (rest := [.ref (tr k), .int 0, .ref nw_10]) [] C (c_X5_stepAt l g j a) gX5_addStep_X5_stepAt rfl rfl rfl hd_X5_stepAt ⟨Nat.le_of_ble_eq_true rfl, Nat.le_of_ble_eq_true rfl⟩ rfl rfl dX5_addStep_189 rfl (Nat.le_of_ble_eq_true rfl) ⟨Nat.le_of_ble_eq_true rfl, Nat.le_of_ble_eq_true rfl⟩) ?_
                    refine j_iconst (v := 4) C dX5_addStep_192 rfl ?_
                    refine j_copyI (sp := 0) (dp := 1 + 28 * j + 4 + 4 * a) (n := 4) (rest := []) (ws' := [(m0, .inr (4, [.int 0, .int (nI N), .ref tb, .ref md, .ref rw0, .int sz, .ref cs, .ref va, .int lk, .ref rn, .ref kp])), (tb, jaR g 10 (fun i => some (tr i))), (tr k, jaI g 253 (va_cpy (upd (upd (upd (upd (fun _ => 0) 0 v0) 1 v1) 2 v2) 3 v3) (jrw n f) 0 (1 + 28 * j + 4 + 4 * a) 4)), (nw_10, jaI g 4 (upd (upd (upd (upd (fun _ => 0) 0 v0) 1 v1) 2 v2) 3 v3))]) 3 2 C dX5_addStep_193 (List.mem_of_getElem? (i := 11) rfl) (List.mem_of_getElem? (i := 12) rfl) (List.mem_of_getElem? (i := 13) rfl) (List.mem_of_getElem? (i := 14) rfl) rfl rfl rfl rfl rfl (by omega) (by omega) (by decide) (by decide) (Nat.le_of_ble_eq_true rfl) (Nat.le_of_ble_eq_true rfl) rfl ?_
                    refine j_eq (pc' := 196) (L' := [(0, .ref m0), (1, .int (nI k)), (2, .int (nI j)), (3, .int v0), (4, .int v1), (5, .int v2), (6, .int v3), (7, .int 1), (8, .ref (tr k)), (9, .int (nI a)), (10, .ref nw_10)]) (st' := []) (ws' := [(m0, .inr (4, [.int 0, .int (nI N), .ref tb, .ref md, .ref rw0, .int sz, .ref cs, .ref va, .int lk, .ref rn, .ref kp])), (tb, jaR g 10 (fun i => some (tr i))), (tr k, jaI g 253 (jrw n (upd (upd (upd (upd f (j * 28 + 4 + a * 4 + 0) v0) (j * 28 + 4 + a * 4 + 1) v1) (j * 28 + 4 + a * 4 + 2) v2) (j * 28 + 4 + a * 4 + 3) v3))), (nw_10, jaI g 4 (upd (upd (upd (upd (fun _ => 0) 0 v0) 1 v1) 2 v2) 3 v3))]) ?_ rfl rfl rfl (by rw [jsaid (y0 := j * 28 + 4 + a * 4 + 0) (y1 := j * 28 + 4 + a * 4 + 1) (y2 := j * 28 + 4 + a * 4 + 2) (y3 := j * 28 + 4 + a * 4 + 3) (by omega) (by omega) (by omega) (by omega)])
                    refine j_aload 8 C dX5_addStep_196 rfl ?_
                    refine j_iload_n 2 C dX5_addStep_198 rfl rfl ?_
                    refine j_callRi (v := nI (1 + 28 * j)) (j_runS (As := [.int (nI j)]) (rest := [.ref (tr k)]) [] C (c_X5_loopAt l g j) gX5_addStep_X5_loopAt rfl rfl rfl hd_X5_loopAt ⟨Nat.le_of_ble_eq_true rfl, Nat.le_of_ble_eq_true rfl⟩ rfl rfl dX5_addStep_199 rfl (Nat.le_of_ble_eq_true rfl) ⟨Nat.le_of_ble_eq_true rfl, Nat.le_of_ble_eq_true rfl⟩) ?_
                    refine j_iconst (v := 3) C dX5_addStep_202 rfl ?_
                    refine j_iadd (x := nI (1 + 28 * j)) (y := 3) (v := nI (1 + 28 * j + 3)) C dX5_addStep_203 (nI_add (1 + 28 * j) 3) ?_
                    refine j_dup2 C dX5_addStep_204 rfl rfl ?_
                    refine j_ialdR (x := 1 + 28 * j + 3) (y := j * 28 + 3) 2 C dX5_addStep_205 rfl rfl (by omega) (by omega) ?_
                    refine j_eq (pc' := 206) (L' := [(0, .ref m0), (1, .int (nI k)), (2, .int (nI j)), (3, .int v0), (4, .int v1), (5, .int v2), (6, .int v3), (7, .int 1), (8, .ref (tr k)), (9, .int (nI a)), (10, .ref nw_10)]) (st' := [.int (nI a), .int (nI (1 + 28 * j + 3)), .ref (tr k)]) (ws' := [(m0, .inr (4, [.int 0, .int (nI N), .ref tb, .ref md, .ref rw0, .int sz, .ref cs, .ref va, .int lk, .ref rn, .ref kp])), (tb, jaR g 10 (fun i => some (tr i))), (tr k, jaI g 253 (jrw n (upd (upd (upd (upd f (j * 28 + 4 + a * 4 + 0) v0) (j * 28 + 4 + a * 4 + 1) v1) (j * 28 + 4 + a * 4 + 2) v2) (j * 28 + 4 + a * 4 + 3) v3))), (nw_10, jaI g 4 (upd (upd (upd (upd (fun _ => 0) 0 v0) 1 v1) 2 v2) 3 v3))]) ?_ rfl rfl (by rw [pk_un (by omega), pk_un (by omega), pk_un (by omega), pk_un (by omega), ha]) rfl
                    refine j_iconst (v := 1) C dX5_addStep_206 rfl ?_
                    refine j_iadd (x := nI a) (y := 1) (v := nI (a + 1)) C dX5_addStep_207 (nI_add a 1) ?_
                    refine j_iastR (x := 1 + 28 * j + 3) (y := j * 28 + 3) (ws' := [(m0, .inr (4, [.int 0, .int (nI N), .ref tb, .ref md, .ref rw0, .int sz, .ref cs, .ref va, .int lk, .ref rn, .ref kp])), (tb, jaR g 10 (fun i => some (tr i))), (tr k, jaI g 253 (jrw n (upd (upd (upd (upd (upd f (j * 28 + 4 + a * 4 + 0) v0) (j * 28 + 4 + a * 4 + 1) v1) (j * 28 + 4 + a * 4 + 2) v2) (j * 28 + 4 + a * 4 + 3) v3) (j * 28 + 3) (nI (a + 1))))), (nw_10, jaI g 4 (upd (upd (upd (upd (fun _ => 0) 0 v0) 1 v1) 2 v2) 3 v3))]) 2 C dX5_addStep_208 rfl rfl (by omega) (by omega) rfl ?_
                    refine j_iload 9 C dX5_addStep_209 rfl ?_
                    refine j_wsub (ws' := [(m0, .inr (4, [.int 0, .int (nI N), .ref tb, .ref md, .ref rw0, .int sz, .ref cs, .ref va, .int lk, .ref rn, .ref kp])), (tb, jaR g 10 (fun i => some (tr i))), (tr k, jaI g 253 (jrw n (upd (upd (upd (upd (upd f (j * 28 + 4 + a * 4 + 0) v0) (j * 28 + 4 + a * 4 + 1) v1) (j * 28 + 4 + a * 4 + 2) v2) (j * 28 + 4 + a * 4 + 3) v3) (j * 28 + 3) (nI (a + 1)))))]) [0, 1, 2] rfl rfl ?_
                    exact j_iretW (v := nI a) C hr dX5_addStep_211 () rfl rfl
                  · skip
                    have c_9 : a = 6 := (nI_eq (a := a) (b := 6) (by omega) (by omega)).mp c_9
                    exact absurd c_9 (by omega)
                · skip
                  have c_8 : (jBt v3 0 3) = false := jb_0 c_8
                  (first | exact absurd c_8 (by decide) | exact absurd c_8 (by omega) | simp_all)
              · skip
                refine j_ldc2 (v := 100) C dX5_addStep_107 (List.mem_of_getElem? (i := 3) rfl) ?_
                refine j_goto (tgt := 116) C dX5_addStep_110 (by decide) ?_
                refine j_callRi (v := jb (jIn v3.toInt64 0 100)) (j_runS (As := [.long v3.toInt64, .long 0, .long 100]) (rest := []) [] C (c_X5_isIn l g v3.toInt64 0 100) gX5_addStep_X5_isIn rfl rfl rfl hd_X5_isIn ⟨Nat.le_of_ble_eq_true rfl, Nat.le_of_ble_eq_true rfl⟩ rfl rfl dX5_addStep_116 rfl (Nat.le_of_ble_eq_true rfl) ⟨Nat.le_of_ble_eq_true rfl, Nat.le_of_ble_eq_true rfl⟩) ?_
                refine j_eq (pc' := 119) (L' := [(0, .ref m0), (1, .int (nI k)), (2, .int (nI j)), (3, .int v0), (4, .int v1), (5, .int v2), (6, .int v3), (7, .int 1)]) (st' := [.int (jb (jBt v3 0 100))]) (ws' := [(m0, .inr (4, [.int 0, .int (nI N), .ref tb, .ref md, .ref rw0, .int sz, .ref cs, .ref va, .int lk, .ref rn, .ref kp])), (tb, jaR g 10 (fun i => some (tr i))), (tr k, jaI g 253 (jrw n f))]) ?_ rfl rfl (by rw [jIn_b v3 0 100 _ _ (by decide) (by decide)]) rfl
                refine j_if_ne (tgt := 128) C dX5_addStep_119 (by decide) (fun c_11 => ?_) (fun c_11 => ?_)
                · skip
                  have c_11 : (jBt v3 0 100) = true := jb_1 c_11
                  refine j_aload_n 0 C dX5_addStep_128 rfl rfl ?_
                  refine j_get (Cn := RX5) (T := TX5) (N := 11) 0 2 C dX5_addStep_129 hin_X5_addStep_X5 rfl rfl (by decide) (List.mem_of_getElem? (i := 9) rfl) rfl ?_
                  refine j_iload_n 1 C dX5_addStep_132 rfl rfl ?_
                  refine j_aldR (x := k) 1 C dX5_addStep_133 rfl rfl (by omega) (by decide) ?_
                  refine j_eq (pc' := 134) (L' := [(0, .ref m0), (1, .int (nI k)), (2, .int (nI j)), (3, .int v0), (4, .int v1), (5, .int v2), (6, .int v3), (7, .int 1)]) (st' := [.ref (tr k)]) (ws' := [(m0, .inr (4, [.int 0, .int (nI N), .ref tb, .ref md, .ref rw0, .int sz, .ref cs, .ref va, .int lk, .ref rn, .ref kp])), (tb, jaR g 10 (fun i => some (tr i))), (tr k, jaI g 253 (jrw n f))]) ?_ rfl rfl rfl rfl
                  refine j_astore (L' := [(0, .ref m0), (1, .int (nI k)), (2, .int (nI j)), (3, .int v0), (4, .int v1), (5, .int v2), (6, .int v3), (7, .int 1), (8, .ref (tr k))]) C dX5_addStep_134 (Nat.le_of_ble_eq_true rfl) rfl rfl ?_
                  refine j_aload 8 C dX5_addStep_136 rfl ?_
                  refine j_iload_n 2 C dX5_addStep_138 rfl rfl ?_
                  refine j_callRi (v := f (j * 28 + 3)) (j_runS (As := [.ref (tr k), .int (nI j)]) (rest := []) [2] C (c_X5_steps l g (tr k) n f j (by omega)) gX5_addStep_X5_steps rfl rfl rfl hd_X5_steps ⟨Nat.le_of_ble_eq_true rfl, Nat.le_of_ble_eq_true rfl⟩ rfl rfl dX5_addStep_139 rfl (Nat.le_of_ble_eq_true rfl) ⟨Nat.le_of_ble_eq_true rfl, Nat.le_of_ble_eq_true rfl⟩) ?_
                  refine j_eq (pc' := 142) (L' := [(0, .ref m0), (1, .int (nI k)), (2, .int (nI j)), (3, .int v0), (4, .int v1), (5, .int v2), (6, .int v3), (7, .int 1), (8, .ref (tr k))]) (st' := [.int (nI a)]) (ws' := [(m0, .inr (4, [.int 0, .int (nI N), .ref tb, .ref md, .ref rw0, .int sz, .ref cs, .ref va, .int lk, .ref rn, .ref kp])), (tb, jaR g 10 (fun i => some (tr i))), (tr k, jaI g 253 (jrw n f))]) ?_ rfl rfl (by rw [ha]) rfl
                  refine j_istore (L' := [(0, .ref m0), (1, .int (nI k)), (2, .int (nI j)), (3, .int v0), (4, .int v1), (5, .int v2), (6, .int v3), (7, .int 1), (8, .ref (tr k)), (9, .int (nI a))]) C dX5_addStep_142 (Nat.le_of_ble_eq_true rfl) rfl rfl ?_
                  refine j_iload 9 C dX5_addStep_144 rfl ?_
                  refine j_bipush (v := 6) C dX5_addStep_146 rfl ?_
                  refine j_icmp_ne (tgt := 157) C dX5_addStep_148 (by decide) (fun c_12 => ?_) (fun c_12 => ?_)
                  · skip
                    have c_12 : ¬ a = 6 := fun z => c_12 ((nI_eq (a := a) (b := 6) (by omega) (by omega)).mpr z)
                    refine j_iconst (v := 4) C dX5_addStep_157 rfl ?_
                    refine j_newaI C dX5_addStep_158 (List.mem_of_getElem? (i := 10) rfl) rfl (by decide) (by constructor <;> exact Nat.le_of_ble_eq_true rfl) (fun nw_13 => ?_)
                    refine j_eq (pc' := 160) (L' := [(0, .ref m0), (1, .int (nI k)), (2, .int (nI j)), (3, .int v0), (4, .int v1), (5, .int v2), (6, .int v3), (7, .int 1), (8, .ref (tr k)), (9, .int (nI a))]) (st' := [.ref nw_13]) (ws' := [(m0, .inr (4, [.int 0, .int (nI N), .ref tb, .ref md, .ref rw0, .int sz, .ref cs, .ref va, .int lk, .ref rn, .ref kp])), (tb, jaR g 10 (fun i => some (tr i))), (tr k, jaI g 253 (jrw n f)), (nw_13, jaI g 4 (fun _ => 0))]) ?_ rfl rfl rfl rfl
                    refine j_dup C dX5_addStep_160 rfl ?_
                    refine j_iconst (v := 0) C dX5_addStep_161 rfl ?_
                    refine j_iload_n 3 C dX5_addStep_162 rfl rfl ?_
                    refine j_iastN (x := 0) (ws' := [(m0, .inr (4, [.int 0, .int (nI N), .ref tb, .ref md, .ref rw0, .int sz, .ref cs, .ref va, .int lk, .ref rn, .ref kp])), (tb, jaR g 10 (fun i => some (tr i))), (tr k, jaI g 253 (jrw n f)), (nw_13, jaI g 4 (upd (fun _ => 0) 0 v0))]) 3 C dX5_addStep_163 rfl rfl (by omega) (by decide) rfl ?_
                    refine j_dup C dX5_addStep_164 rfl ?_
                    refine j_iconst (v := 1) C dX5_addStep_165 rfl ?_
                    refine j_iload 4 C dX5_addStep_166 rfl ?_
                    refine j_iastN (x := 1) (ws' := [(m0, .inr (4, [.int 0, .int (nI N), .ref tb, .ref md, .ref rw0, .int sz, .ref cs, .ref va, .int lk, .ref rn, .ref kp])), (tb, jaR g 10 (fun i => some (tr i))), (tr k, jaI g 253 (jrw n f)), (nw_13, jaI g 4 (upd (upd (fun _ => 0) 0 v0) 1 v1))]) 3 C dX5_addStep_168 rfl rfl (by omega) (by decide) rfl ?_
                    refine j_dup C dX5_addStep_169 rfl ?_
                    refine j_iconst (v := 2) C dX5_addStep_170 rfl ?_
                    refine j_iload 5 C dX5_addStep_171 rfl ?_
                    refine j_iastN (x := 2) (ws' := [(m0, .inr (4, [.int 0, .int (nI N), .ref tb, .ref md, .ref rw0, .int sz, .ref cs, .ref va, .int lk, .ref rn, .ref kp])), (tb, jaR g 10 (fun i => some (tr i))), (tr k, jaI g 253 (jrw n f)), (nw_13, jaI g 4 (upd (upd (upd (fun _ => 0) 0 v0) 1 v1) 2 v2))]) 3 C dX5_addStep_173 rfl rfl (by omega) (by decide) rfl ?_
                    refine j_dup C dX5_addStep_174 rfl ?_
                    refine j_iconst (v := 3) C dX5_addStep_175 rfl ?_
                    refine j_iload 6 C dX5_addStep_176 rfl ?_
                    refine j_iastN (x := 3) (ws' := [(m0, .inr (4, [.int 0, .int (nI N), .ref tb, .ref md, .ref rw0, .int sz, .ref cs, .ref va, .int lk, .ref rn, .ref kp])), (tb, jaR g 10 (fun i => some (tr i))), (tr k, jaI g 253 (jrw n f)), (nw_13, jaI g 4 (upd (upd (upd (upd (fun _ => 0) 0 v0) 1 v1) 2 v2) 3 v3))]) 3 C dX5_addStep_178 rfl rfl (by omega) (by decide) rfl ?_
                    refine j_astore (L' := [(0, .ref m0), (1, .int (nI k)), (2, .int (nI j)), (3, .int v0), (4, .int v1), (5, .int v2), (6, .int v3), (7, .int 1), (8, .ref (tr k)), (9, .int (nI a)), (10, .ref nw_13)]) C dX5_addStep_179 (Nat.le_of_ble_eq_true rfl) rfl rfl ?_
                    refine j_aload 10 C dX5_addStep_181 rfl ?_
                    refine j_iconst (v := 0) C dX5_addStep_183 rfl ?_
                    refine j_aload 8 C dX5_addStep_184 rfl ?_
                    refine j_iload_n 2 C dX5_addStep_186 rfl rfl ?_
                    refine j_iload 9 C dX5_addStep_187 rfl ?_
                    refine j_callRi (v := nI (1 + 28 * j + 4 + 4 * a)) (j_runS (As := [.int (nI j), .int (nI a)]) (rest := [.ref (tr k), .int 0, .ref nw_13]) [] C (c_X5_stepAt l g j a) gX5_addStep_X5_stepAt rfl rfl rfl hd_X5_stepAt ⟨Nat.le_of_ble_eq_true rfl, Nat.le_of_ble_eq_true rfl⟩ rfl rfl dX5_addStep_189 rfl (Nat.le_of_ble_eq_true rfl) ⟨Nat.le_of_ble_eq_true rfl, Nat.le_of_ble_eq_true rfl⟩) ?_
                    refine j_iconst (v := 4) C dX5_addStep_192 rfl ?_
                    refine j_copyI (sp := 0) (dp := 1 + 28 * j + 4 + 4 * a) (n := 4) (rest := []) (ws' := [(m0, .inr (4, [.int 0, .int (nI N), .ref tb, .ref md, .ref rw0, .int sz, .ref cs, .ref va, .int lk, .ref rn, .ref kp])), (tb, jaR g 10 (fun i => some (tr i))), (tr k, jaI g 253 (va_cpy (upd (upd (upd (upd (fun _ => 0) 0 v0) 1 v1) 2 v2) 3 v3) (jrw n f) 0 (1 + 28 * j + 4 + 4 * a) 4)), (nw_13, jaI g 4 (upd (upd (upd (upd (fun _ => 0) 0 v0) 1 v1) 2 v2) 3 v3))]) 3 2 C dX5_addStep_193 (List.mem_of_getElem? (i := 11) rfl) (List.mem_of_getElem? (i := 12) rfl) (List.mem_of_getElem? (i := 13) rfl) (List.mem_of_getElem? (i := 14) rfl) rfl rfl rfl rfl rfl (by omega) (by omega) (by decide) (by decide) (Nat.le_of_ble_eq_true rfl) (Nat.le_of_ble_eq_true rfl) rfl ?_
                    refine j_eq (pc' := 196) (L' := [(0, .ref m0), (1, .int (nI k)), (2, .int (nI j)), (3, .int v0), (4, .int v1), (5, .int v2), (6, .int v3), (7, .int 1), (8, .ref (tr k)), (9, .int (nI a)), (10, .ref nw_13)]) (st' := []) (ws' := [(m0, .inr (4, [.int 0, .int (nI N), .ref tb, .ref md, .ref rw0, .int sz, .ref cs, .ref va, .int lk, .ref rn, .ref kp])), (tb, jaR g 10 (fun i => some (tr i))), (tr k, jaI g 253 (jrw n (upd (upd (upd (upd f (j * 28 + 4 + a * 4 + 0) v0) (j * 28 + 4 + a * 4 + 1) v1) (j * 28 + 4 + a * 4 + 2) v2) (j * 28 + 4 + a * 4 + 3) v3))), (nw_13, jaI g 4 (upd (upd (upd (upd (fun _ => 0) 0 v0) 1 v1) 2 v2) 3 v3))]) ?_ rfl rfl rfl (by rw [jsaid (y0 := j * 28 + 4 + a * 4 + 0) (y1 := j * 28 + 4 + a * 4 + 1) (y2 := j * 28 + 4 + a * 4 + 2) (y3 := j * 28 + 4 + a * 4 + 3) (by omega) (by omega) (by omega) (by omega)])
                    refine j_aload 8 C dX5_addStep_196 rfl ?_
                    refine j_iload_n 2 C dX5_addStep_198 rfl rfl ?_
                    refine j_callRi (v := nI (1 + 28 * j)) (j_runS (As := [.int (nI j)]) (rest := [.ref (tr k)]) [] C (c_X5_loopAt l g j) gX5_addStep_X5_loopAt rfl rfl rfl hd_X5_loopAt ⟨Nat.le_of_ble_eq_true rfl, Nat.le_of_ble_eq_true rfl⟩ rfl rfl dX5_addStep_199 rfl (Nat.le_of_ble_eq_true rfl) ⟨Nat.le_of_ble_eq_true rfl, Nat.le_of_ble_eq_true rfl⟩) ?_
                    refine j_iconst (v := 3) C dX5_addStep_202 rfl ?_
                    refine j_iadd (x := nI (1 + 28 * j)) (y := 3) (v := nI (1 + 28 * j + 3)) C dX5_addStep_203 (nI_add (1 + 28 * j) 3) ?_
                    refine j_dup2 C dX5_addStep_204 rfl rfl ?_
                    refine j_ialdR (x := 1 + 28 * j + 3) (y := j * 28 + 3) 2 C dX5_addStep_205 rfl rfl (by omega) (by omega) ?_
                    refine j_eq (pc' := 206) (L' := [(0, .ref m0), (1, .int (nI k)), (2, .int (nI j)), (3, .int v0), (4, .int v1), (5, .int v2), (6, .int v3), (7, .int 1), (8, .ref (tr k)), (9, .int (nI a)), (10, .ref nw_13)]) (st' := [.int (nI a), .int (nI (1 + 28 * j + 3)), .ref (tr k)]) (ws' := [(m0, .inr (4, [.int 0, .int (nI N), .ref tb, .ref md, .ref rw0, .int sz, .ref cs, .ref va, .int lk, .ref rn, .ref kp])), (tb, jaR g 10 (fun i => some (tr i))), (tr k, jaI g 253 (jrw n (upd (upd (upd (upd f (j * 28 + 4 + a * 4 + 0) v0) (j * 28 + 4 + a * 4 + 1) v1) (j * 28 + 4 + a * 4 + 2) v2) (j * 28 + 4 + a * 4 + 3) v3))), (nw_13, jaI g 4 (upd (upd (upd (upd (fun _ => 0) 0 v0) 1 v1) 2 v2) 3 v3))]) ?_ rfl rfl (by rw [pk_un (by omega), pk_un (by omega), pk_un (by omega), pk_un (by omega), ha]) rfl
                    refine j_iconst (v := 1) C dX5_addStep_206 rfl ?_
                    refine j_iadd (x := nI a) (y := 1) (v := nI (a + 1)) C dX5_addStep_207 (nI_add a 1) ?_
                    refine j_iastR (x := 1 + 28 * j + 3) (y := j * 28 + 3) (ws' := [(m0, .inr (4, [.int 0, .int (nI N), .ref tb, .ref md, .ref rw0, .int sz, .ref cs, .ref va, .int lk, .ref rn, .ref kp])), (tb, jaR g 10 (fun i => some (tr i))), (tr k, jaI g 253 (jrw n (upd (upd (upd (upd (upd f (j * 28 + 4 + a * 4 + 0) v0) (j * 28 + 4 + a * 4 + 1) v1) (j * 28 + 4 + a * 4 + 2) v2) (j * 28 + 4 + a * 4 + 3) v3) (j * 28 + 3) (nI (a + 1))))), (nw_13, jaI g 4 (upd (upd (upd (upd (fun _ => 0) 0 v0) 1 v1) 2 v2) 3 v3))]) 2 C dX5_addStep_208 rfl rfl (by omega) (by omega) rfl ?_
                    refine j_iload 9 C dX5_addStep_209 rfl ?_
                    refine j_wsub (ws' := [(m0, .inr (4, [.int 0, .int (nI N), .ref tb, .ref md, .ref rw0, .int sz, .ref cs, .ref va, .int lk, .ref rn, .ref kp])), (tb, jaR g 10 (fun i => some (tr i))), (tr k, jaI g 253 (jrw n (upd (upd (upd (upd (upd f (j * 28 + 4 + a * 4 + 0) v0) (j * 28 + 4 + a * 4 + 1) v1) (j * 28 + 4 + a * 4 + 2) v2) (j * 28 + 4 + a * 4 + 3) v3) (j * 28 + 3) (nI (a + 1)))))]) [0, 1, 2] rfl rfl ?_
                    exact j_iretW (v := nI a) C hr dX5_addStep_211 () rfl rfl
                  · skip
                    have c_12 : a = 6 := (nI_eq (a := a) (b := 6) (by omega) (by omega)).mp c_12
                    exact absurd c_12 (by omega)
                · skip
                  have c_11 : (jBt v3 0 100) = false := jb_0 c_11
                  (first | exact absurd c_11 (by decide) | exact absurd c_11 (by omega) | simp_all)
            · skip
              refine j_lconst (v := 0) C dX5_addStep_97 rfl ?_
              refine j_goto (tgt := 116) C dX5_addStep_98 (by decide) ?_
              refine j_callRi (v := jb (jIn v3.toInt64 0 0)) (j_runS (As := [.long v3.toInt64, .long 0, .long 0]) (rest := []) [] C (c_X5_isIn l g v3.toInt64 0 0) gX5_addStep_X5_isIn rfl rfl rfl hd_X5_isIn ⟨Nat.le_of_ble_eq_true rfl, Nat.le_of_ble_eq_true rfl⟩ rfl rfl dX5_addStep_116 rfl (Nat.le_of_ble_eq_true rfl) ⟨Nat.le_of_ble_eq_true rfl, Nat.le_of_ble_eq_true rfl⟩) ?_
              refine j_eq (pc' := 119) (L' := [(0, .ref m0), (1, .int (nI k)), (2, .int (nI j)), (3, .int v0), (4, .int v1), (5, .int v2), (6, .int v3), (7, .int 1)]) (st' := [.int (jb (jBt v3 0 0))]) (ws' := [(m0, .inr (4, [.int 0, .int (nI N), .ref tb, .ref md, .ref rw0, .int sz, .ref cs, .ref va, .int lk, .ref rn, .ref kp])), (tb, jaR g 10 (fun i => some (tr i))), (tr k, jaI g 253 (jrw n f))]) ?_ rfl rfl (by rw [jIn_b v3 0 0 _ _ (by decide) (by decide)]) rfl
              refine j_if_ne (tgt := 128) C dX5_addStep_119 (by decide) (fun c_14 => ?_) (fun c_14 => ?_)
              · skip
                have c_14 : (jBt v3 0 0) = true := jb_1 c_14
                refine j_aload_n 0 C dX5_addStep_128 rfl rfl ?_
                refine j_get (Cn := RX5) (T := TX5) (N := 11) 0 2 C dX5_addStep_129 hin_X5_addStep_X5 rfl rfl (by decide) (List.mem_of_getElem? (i := 9) rfl) rfl ?_
                refine j_iload_n 1 C dX5_addStep_132 rfl rfl ?_
                refine j_aldR (x := k) 1 C dX5_addStep_133 rfl rfl (by omega) (by decide) ?_
                refine j_eq (pc' := 134) (L' := [(0, .ref m0), (1, .int (nI k)), (2, .int (nI j)), (3, .int v0), (4, .int v1), (5, .int v2), (6, .int v3), (7, .int 1)]) (st' := [.ref (tr k)]) (ws' := [(m0, .inr (4, [.int 0, .int (nI N), .ref tb, .ref md, .ref rw0, .int sz, .ref cs, .ref va, .int lk, .ref rn, .ref kp])), (tb, jaR g 10 (fun i => some (tr i))), (tr k, jaI g 253 (jrw n f))]) ?_ rfl rfl rfl rfl
                refine j_astore (L' := [(0, .ref m0), (1, .int (nI k)), (2, .int (nI j)), (3, .int v0), (4, .int v1), (5, .int v2), (6, .int v3), (7, .int 1), (8, .ref (tr k))]) C dX5_addStep_134 (Nat.le_of_ble_eq_true rfl) rfl rfl ?_
                refine j_aload 8 C dX5_addStep_136 rfl ?_
                refine j_iload_n 2 C dX5_addStep_138 rfl rfl ?_
                refine j_callRi (v := f (j * 28 + 3)) (j_runS (As := [.ref (tr k), .int (nI j)]) (rest := []) [2] C (c_X5_steps l g (tr k) n f j (by omega)) gX5_addStep_X5_steps rfl rfl rfl hd_X5_steps ⟨Nat.le_of_ble_eq_true rfl, Nat.le_of_ble_eq_true rfl⟩ rfl rfl dX5_addStep_139 rfl (Nat.le_of_ble_eq_true rfl) ⟨Nat.le_of_ble_eq_true rfl, Nat.le_of_ble_eq_true rfl⟩) ?_
                refine j_eq (pc' := 142) (L' := [(0, .ref m0), (1, .int (nI k)), (2, .int (nI j)), (3, .int v0), (4, .int v1), (5, .int v2), (6, .int v3), (7, .int 1), (8, .ref (tr k))]) (st' := [.int (nI a)]) (ws' := [(m0, .inr (4, [.int 0, .int (nI N), .ref tb, .ref md, .ref rw0, .int sz, .ref cs, .ref va, .int lk, .ref rn, .ref kp])), (tb, jaR g 10 (fun i => some (tr i))), (tr k, jaI g 253 (jrw n f))]) ?_ rfl rfl (by rw [ha]) rfl
                refine j_istore (L' := [(0, .ref m0), (1, .int (nI k)), (2, .int (nI j)), (3, .int v0), (4, .int v1), (5, .int v2), (6, .int v3), (7, .int 1), (8, .ref (tr k)), (9, .int (nI a))]) C dX5_addStep_142 (Nat.le_of_ble_eq_true rfl) rfl rfl ?_
                refine j_iload 9 C dX5_addStep_144 rfl ?_
                refine j_bipush (v := 6) C dX5_addStep_146 rfl ?_
                refine j_icmp_ne (tgt := 157) C dX5_addStep_148 (by decide) (fun c_15 => ?_) (fun c_15 => ?_)
                · skip
                  have c_15 : ¬ a = 6 := fun z => c_15 ((nI_eq (a := a) (b := 6) (by omega) (by omega)).mpr z)
                  refine j_iconst (v := 4) C dX5_addStep_157 rfl ?_
                  refine j_newaI C dX5_addStep_158 (List.mem_of_getElem? (i := 10) rfl) rfl (by decide) (by constructor <;> exact Nat.le_of_ble_eq_true rfl) (fun nw_16 => ?_)
                  refine j_eq (pc' := 160) (L' := [(0, .ref m0), (1, .int (nI k)), (2, .int (nI j)), (3, .int v0), (4, .int v1), (5, .int v2), (6, .int v3), (7, .int 1), (8, .ref (tr k)), (9, .int (nI a))]) (st' := [.ref nw_16]) (ws' := [(m0, .inr (4, [.int 0, .int (nI N), .ref tb, .ref md, .ref rw0, .int sz, .ref cs, .ref va, .int lk, .ref rn, .ref kp])), (tb, jaR g 10 (fun i => some (tr i))), (tr k, jaI g 253 (jrw n f)), (nw_16, jaI g 4 (fun _ => 0))]) ?_ rfl rfl rfl rfl
                  refine j_dup C dX5_addStep_160 rfl ?_
                  refine j_iconst (v := 0) C dX5_addStep_161 rfl ?_
                  refine j_iload_n 3 C dX5_addStep_162 rfl rfl ?_
                  refine j_iastN (x := 0) (ws' := [(m0, .inr (4, [.int 0, .int (nI N), .ref tb, .ref md, .ref rw0, .int sz, .ref cs, .ref va, .int lk, .ref rn, .ref kp])), (tb, jaR g 10 (fun i => some (tr i))), (tr k, jaI g 253 (jrw n f)), (nw_16, jaI g 4 (upd (fun _ => 0) 0 v0))]) 3 C dX5_addStep_163 rfl rfl (by omega) (by decide) rfl ?_
                  refine j_dup C dX5_addStep_164 rfl ?_
                  refine j_iconst (v := 1) C dX5_addStep_165 rfl ?_
                  refine j_iload 4 C dX5_addStep_166 rfl ?_
                  refine j_iastN (x := 1) (ws' := [(m0, .inr (4, [.int 0, .int (nI N), .ref tb, .ref md, .ref rw0, .int sz, .ref cs, .ref va, .int lk, .ref rn, .ref kp])), (tb, jaR g 10 (fun i => some (tr i))), (tr k, jaI g 253 (jrw n f)), (nw_16, jaI g 4 (upd (upd (fun _ => 0) 0 v0) 1 v1))]) 3 C dX5_addStep_168 rfl rfl (by omega) (by decide) rfl ?_
                  refine j_dup C dX5_addStep_169 rfl ?_
                  refine j_iconst (v := 2) C dX5_addStep_170 rfl ?_
                  refine j_iload 5 C dX5_addStep_171 rfl ?_
                  refine j_iastN (x := 2) (ws' := [(m0, .inr (4, [.int 0, .int (nI N), .ref tb, .ref md, .ref rw0, .int sz, .ref cs, .ref va, .int lk, .ref rn, .ref kp])), (tb, jaR g 10 (fun i => some (tr i))), (tr k, jaI g 253 (jrw n f)), (nw_16, jaI g 4 (upd (upd (upd (fun _ => 0) 0 v0) 1 v1) 2 v2))]) 3 C dX5_addStep_173 rfl rfl (by omega) (by decide) rfl ?_
                  refine j_dup C dX5_addStep_174 rfl ?_
                  refine j_iconst (v := 3) C dX5_addStep_175 rfl ?_
                  refine j_iload 6 C dX5_addStep_176 rfl ?_
                  refine j_iastN (x := 3) (ws' := [(m0, .inr (4, [.int 0, .int (nI N), .ref tb, .ref md, .ref rw0, .int sz, .ref cs, .ref va, .int lk, .ref rn, .ref kp])), (tb, jaR g 10 (fun i => some (tr i))), (tr k, jaI g 253 (jrw n f)), (nw_16, jaI g 4 (upd (upd (upd (upd (fun _ => 0) 0 v0) 1 v1) 2 v2) 3 v3))]) 3 C dX5_addStep_178 rfl rfl (by omega) (by decide) rfl ?_
                  refine j_astore (L' := [(0, .ref m0), (1, .int (nI k)), (2, .int (nI j)), (3, .int v0), (4, .int v1), (5, .int v2), (6, .int v3), (7, .int 1), (8, .ref (tr k)), (9, .int (nI a)), (10, .ref nw_16)]) C dX5_addStep_179 (Nat.le_of_ble_eq_true rfl) rfl rfl ?_
                  refine j_aload 10 C dX5_addStep_181 rfl ?_
                  refine j_iconst (v := 0) C dX5_addStep_183 rfl ?_
                  refine j_aload 8 C dX5_addStep_184 rfl ?_
                  refine j_iload_n 2 C dX5_addStep_186 rfl rfl ?_
                  refine j_iload 9 C dX5_addStep_187 rfl ?_
                  refine j_callRi (v := nI (1 + 28 * j + 4 + 4 * a)) (j_runS (As := [.int (nI j), .int (nI a)]) (rest := [.ref (tr k), .int 0, .ref nw_16]) [] C (c_X5_stepAt l g j a) gX5_addStep_X5_stepAt rfl rfl rfl hd_X5_stepAt ⟨Nat.le_of_ble_eq_true rfl, Nat.le_of_ble_eq_true rfl⟩ rfl rfl dX5_addStep_189 rfl (Nat.le_of_ble_eq_true rfl) ⟨Nat.le_of_ble_eq_true rfl, Nat.le_of_ble_eq_true rfl⟩) ?_
                  refine j_iconst (v := 4) C dX5_addStep_192 rfl ?_
                  refine j_copyI (sp := 0) (dp := 1 + 28 * j + 4 + 4 * a) (n := 4) (rest := []) (ws' := [(m0, .inr (4, [.int 0, .int (nI N), .ref tb, .ref md, .ref rw0, .int sz, .ref cs, .ref va, .int lk, .ref rn, .ref kp])), (tb, jaR g 10 (fun i => some (tr i))), (tr k, jaI g 253 (va_cpy (upd (upd (upd (upd (fun _ => 0) 0 v0) 1 v1) 2 v2) 3 v3) (jrw n f) 0 (1 + 28 * j + 4 + 4 * a) 4)), (nw_16, jaI g 4 (upd (upd (upd (upd (fun _ => 0) 0 v0) 1 v1) 2 v2) 3 v3))]) 3 2 C dX5_addStep_193 (List.mem_of_getElem? (i := 11) rfl) (List.mem_of_getElem? (i := 12) rfl) (List.mem_of_getElem? (i := 13) rfl) (List.mem_of_getElem? (i := 14) rfl) rfl rfl rfl rfl rfl (by omega) (by omega) (by decide) (by decide) (Nat.le_of_ble_eq_true rfl) (Nat.le_of_ble_eq_true rfl) rfl ?_
                  refine j_eq (pc' := 196) (L' := [(0, .ref m0), (1, .int (nI k)), (2, .int (nI j)), (3, .int v0), (4, .int v1), (5, .int v2), (6, .int v3), (7, .int 1), (8, .ref (tr k)), (9, .int (nI a)), (10, .ref nw_16)]) (st' := []) (ws' := [(m0, .inr (4, [.int 0, .int (nI N), .ref tb, .ref md, .ref rw0, .int sz, .ref cs, .ref va, .int lk, .ref rn, .ref kp])), (tb, jaR g 10 (fun i => some (tr i))), (tr k, jaI g 253 (jrw n (upd (upd (upd (upd f (j * 28 + 4 + a * 4 + 0) v0) (j * 28 + 4 + a * 4 + 1) v1) (j * 28 + 4 + a * 4 + 2) v2) (j * 28 + 4 + a * 4 + 3) v3))), (nw_16, jaI g 4 (upd (upd (upd (upd (fun _ => 0) 0 v0) 1 v1) 2 v2) 3 v3))]) ?_ rfl rfl rfl (by rw [jsaid (y0 := j * 28 + 4 + a * 4 + 0) (y1 := j * 28 + 4 + a * 4 + 1) (y2 := j * 28 + 4 + a * 4 + 2) (y3 := j * 28 + 4 + a * 4 + 3) (by omega) (by omega) (by omega) (by omega)])
                  refine j_aload 8 C dX5_addStep_196 rfl ?_
                  refine j_iload_n 2 C dX5_addStep_198 rfl rfl ?_
                  refine j_callRi (v := nI (1 + 28 * j)) (j_runS (As := [.int (nI j)]) (rest := [.ref (tr k)]) [] C (c_X5_loopAt l g j) gX5_addStep_X5_loopAt rfl rfl rfl hd_X5_loopAt ⟨Nat.le_of_ble_eq_true rfl, Nat.le_of_ble_eq_true rfl⟩ rfl rfl dX5_addStep_199 rfl (Nat.le_of_ble_eq_true rfl) ⟨Nat.le_of_ble_eq_true rfl, Nat.le_of_ble_eq_true rfl⟩) ?_
                  refine j_iconst (v := 3) C dX5_addStep_202 rfl ?_
                  refine j_iadd (x := nI (1 + 28 * j)) (y := 3) (v := nI (1 + 28 * j + 3)) C dX5_addStep_203 (nI_add (1 + 28 * j) 3) ?_
                  refine j_dup2 C dX5_addStep_204 rfl rfl ?_
                  refine j_ialdR (x := 1 + 28 * j + 3) (y := j * 28 + 3) 2 C dX5_addStep_205 rfl rfl (by omega) (by omega) ?_
                  refine j_eq (pc' := 206) (L' := [(0, .ref m0), (1, .int (nI k)), (2, .int (nI j)), (3, .int v0), (4, .int v1), (5, .int v2), (6, .int v3), (7, .int 1), (8, .ref (tr k)), (9, .int (nI a)), (10, .ref nw_16)]) (st' := [.int (nI a), .int (nI (1 + 28 * j + 3)), .ref (tr k)]) (ws' := [(m0, .inr (4, [.int 0, .int (nI N), .ref tb, .ref md, .ref rw0, .int sz, .ref cs, .ref va, .int lk, .ref rn, .ref kp])), (tb, jaR g 10 (fun i => some (tr i))), (tr k, jaI g 253 (jrw n (upd (upd (upd (upd f (j * 28 + 4 + a * 4 + 0) v0) (j * 28 + 4 + a * 4 + 1) v1) (j * 28 + 4 + a * 4 + 2) v2) (j * 28 + 4 + a * 4 + 3) v3))), (nw_16, jaI g 4 (upd (upd (upd (upd (fun _ => 0) 0 v0) 1 v1) 2 v2) 3 v3))]) ?_ rfl rfl (by rw [pk_un (by omega), pk_un (by omega), pk_un (by omega), pk_un (by omega), ha]) rfl
                  refine j_iconst (v := 1) C dX5_addStep_206 rfl ?_
                  refine j_iadd (x := nI a) (y := 1) (v := nI (a + 1)) C dX5_addStep_207 (nI_add a 1) ?_
                  refine j_iastR (x := 1 + 28 * j + 3) (y := j * 28 + 3) (ws' := [(m0, .inr (4, [.int 0, .int (nI N), .ref tb, .ref md, .ref rw0, .int sz, .ref cs, .ref va, .int lk, .ref rn, .ref kp])), (tb, jaR g 10 (fun i => some (tr i))), (tr k, jaI g 253 (jrw n (upd (upd (upd (upd (upd f (j * 28 + 4 + a * 4 + 0) v0) (j * 28 + 4 + a * 4 + 1) v1) (j * 28 + 4 + a * 4 + 2) v2) (j * 28 + 4 + a * 4 + 3) v3) (j * 28 + 3) (nI (a + 1))))), (nw_16, jaI g 4 (upd (upd (upd (upd (fun _ => 0) 0 v0) 1 v1) 2 v2) 3 v3))]) 2 C dX5_addStep_208 rfl rfl (by omega) (by omega) rfl ?_
                  refine j_iload 9 C dX5_addStep_209 rfl ?_
                  refine j_wsub (ws' := [(m0, .inr (4, [.int 0, .int (nI N), .ref tb, .ref md, .ref rw0, .int sz, .ref cs, .ref va, .int lk, .ref rn, .ref kp])), (tb, jaR g 10 (fun i => some (tr i))), (tr k, jaI g 253 (jrw n (upd (upd (upd (upd (upd f (j * 28 + 4 + a * 4 + 0) v0) (j * 28 + 4 + a * 4 + 1) v1) (j * 28 + 4 + a * 4 + 2) v2) (j * 28 + 4 + a * 4 + 3) v3) (j * 28 + 3) (nI (a + 1)))))]) [0, 1, 2] rfl rfl ?_
                  exact j_iretW (v := nI a) C hr dX5_addStep_211 () rfl rfl
                · skip
                  have c_15 : a = 6 := (nI_eq (a := a) (b := 6) (by omega) (by omega)).mp c_15
                  exact absurd c_15 (by omega)
              · skip
                have c_14 : (jBt v3 0 0) = false := jb_0 c_14
                (first | exact absurd c_14 (by decide) | exact absurd c_14 (by omega) | simp_all)
    · skip
      have c_2 : (jBt v1 (-100) 100) = false := jb_0 c_2
      refine j_iload 4 C dX5_addStep_35 rfl ?_
      refine j_i2l (v := v1.toInt64) C dX5_addStep_37 rfl ?_
      refine j_ldc2 (v := 1000) C dX5_addStep_38 (List.mem_of_getElem? (i := 4) rfl) ?_
      refine j_ldc2 (v := 1003) C dX5_addStep_41 (List.mem_of_getElem? (i := 5) rfl) ?_
      refine j_callRi (v := jb (jIn v1.toInt64 1000 1003)) (j_runS (As := [.long v1.toInt64, .long 1000, .long 1003]) (rest := []) [] C (c_X5_isIn l g v1.toInt64 1000 1003) gX5_addStep_X5_isIn rfl rfl rfl hd_X5_isIn ⟨Nat.le_of_ble_eq_true rfl, Nat.le_of_ble_eq_true rfl⟩ rfl rfl dX5_addStep_44 rfl (Nat.le_of_ble_eq_true rfl) ⟨Nat.le_of_ble_eq_true rfl, Nat.le_of_ble_eq_true rfl⟩) ?_
      refine j_eq (pc' := 47) (L' := [(0, .ref m0), (1, .int (nI k)), (2, .int (nI j)), (3, .int v0), (4, .int v1), (5, .int v2), (6, .int v3)]) (st' := [.int (jb (jBt v1 1000 1003))]) (ws' := [(m0, .inr (4, [.int 0, .int (nI N), .ref tb, .ref md, .ref rw0, .int sz, .ref cs, .ref va, .int lk, .ref rn, .ref kp])), (tb, jaR g 10 (fun i => some (tr i))), (tr k, jaI g 253 (jrw n f))]) ?_ rfl rfl (by rw [jIn_b v1 1000 1003 _ _ (by decide) (by decide)]) rfl
      refine j_if_eq (tgt := 54) C dX5_addStep_47 (by decide) (fun c_17 => ?_) (fun c_17 => ?_)
      · skip
        have c_17 : (jBt v1 1000 1003) = false := jb_0 c_17
        (first | exact absurd c_17 (by decide) | exact absurd c_17 (by omega) | simp_all)
      · skip
        have c_17 : (jBt v1 1000 1003) = true := jb_1 c_17
        refine j_iconst (v := 1) C dX5_addStep_50 rfl ?_
        refine j_goto (tgt := 55) C dX5_addStep_51 (by decide) ?_
        refine j_istore (L' := [(0, .ref m0), (1, .int (nI k)), (2, .int (nI j)), (3, .int v0), (4, .int v1), (5, .int v2), (6, .int v3), (7, .int 1)]) C dX5_addStep_55 (Nat.le_of_ble_eq_true rfl) rfl rfl ?_
        refine j_iload_n 3 C dX5_addStep_57 rfl rfl ?_
        refine j_i2l (v := v0.toInt64) C dX5_addStep_58 rfl ?_
        refine j_lconst (v := 0) C dX5_addStep_59 rfl ?_
        refine j_ldc2 (v := 4) C dX5_addStep_60 (List.mem_of_getElem? (i := 6) rfl) ?_
        refine j_callRi (v := jb (jIn v0.toInt64 0 4)) (j_runS (As := [.long v0.toInt64, .long 0, .long 4]) (rest := []) [] C (c_X5_isIn l g v0.toInt64 0 4) gX5_addStep_X5_isIn rfl rfl rfl hd_X5_isIn ⟨Nat.le_of_ble_eq_true rfl, Nat.le_of_ble_eq_true rfl⟩ rfl rfl dX5_addStep_63 rfl (Nat.le_of_ble_eq_true rfl) ⟨Nat.le_of_ble_eq_true rfl, Nat.le_of_ble_eq_true rfl⟩) ?_
        refine j_eq (pc' := 66) (L' := [(0, .ref m0), (1, .int (nI k)), (2, .int (nI j)), (3, .int v0), (4, .int v1), (5, .int v2), (6, .int v3), (7, .int 1)]) (st' := [.int (jb (jBt v0 0 4))]) (ws' := [(m0, .inr (4, [.int 0, .int (nI N), .ref tb, .ref md, .ref rw0, .int sz, .ref cs, .ref va, .int lk, .ref rn, .ref kp])), (tb, jaR g 10 (fun i => some (tr i))), (tr k, jaI g 253 (jrw n f))]) ?_ rfl rfl (by rw [jIn_b v0 0 4 _ _ (by decide) (by decide)]) rfl
        refine j_if_eq (tgt := 122) C dX5_addStep_66 (by decide) (fun c_18 => ?_) (fun c_18 => ?_)
        · skip
          have c_18 : (jBt v0 0 4) = false := jb_0 c_18
          (first | exact absurd c_18 (by decide) | exact absurd c_18 (by omega) | simp_all)
        · skip
          have c_18 : (jBt v0 0 4) = true := jb_1 c_18
          refine j_iload 7 C dX5_addStep_69 rfl ?_
          refine j_if_eq (tgt := 122) C dX5_addStep_71 (by decide) (fun c_19 => ?_) (fun c_19 => ?_)
          · skip
            exact absurd c_19 (by decide)
          · skip
            refine j_iload 5 C dX5_addStep_74 rfl ?_
            refine j_i2l (v := v2.toInt64) C dX5_addStep_76 rfl ?_
            refine j_lconst (v := 0) C dX5_addStep_77 rfl ?_
            refine j_ldc2 (v := 5) C dX5_addStep_78 (List.mem_of_getElem? (i := 7) rfl) ?_
            refine j_callRi (v := jb (jIn v2.toInt64 0 5)) (j_runS (As := [.long v2.toInt64, .long 0, .long 5]) (rest := []) [] C (c_X5_isIn l g v2.toInt64 0 5) gX5_addStep_X5_isIn rfl rfl rfl hd_X5_isIn ⟨Nat.le_of_ble_eq_true rfl, Nat.le_of_ble_eq_true rfl⟩ rfl rfl dX5_addStep_81 rfl (Nat.le_of_ble_eq_true rfl) ⟨Nat.le_of_ble_eq_true rfl, Nat.le_of_ble_eq_true rfl⟩) ?_
            refine j_eq (pc' := 84) (L' := [(0, .ref m0), (1, .int (nI k)), (2, .int (nI j)), (3, .int v0), (4, .int v1), (5, .int v2), (6, .int v3), (7, .int 1)]) (st' := [.int (jb (jBt v2 0 5))]) (ws' := [(m0, .inr (4, [.int 0, .int (nI N), .ref tb, .ref md, .ref rw0, .int sz, .ref cs, .ref va, .int lk, .ref rn, .ref kp])), (tb, jaR g 10 (fun i => some (tr i))), (tr k, jaI g 253 (jrw n f))]) ?_ rfl rfl (by rw [jIn_b v2 0 5 _ _ (by decide) (by decide)]) rfl
            refine j_if_eq (tgt := 122) C dX5_addStep_84 (by decide) (fun c_20 => ?_) (fun c_20 => ?_)
            · skip
              have c_20 : (jBt v2 0 5) = false := jb_0 c_20
              (first | exact absurd c_20 (by decide) | exact absurd c_20 (by omega) | simp_all)
            · skip
              have c_20 : (jBt v2 0 5) = true := jb_1 c_20
              refine j_iload 6 C dX5_addStep_87 rfl ?_
              refine j_i2l (v := v3.toInt64) C dX5_addStep_89 rfl ?_
              refine j_lconst (v := 0) C dX5_addStep_90 rfl ?_
              refine j_iload 5 C dX5_addStep_91 rfl ?_
              refine j_iconst (v := 4) C dX5_addStep_93 rfl ?_
              refine j_icmp_ne (tgt := 101) C dX5_addStep_94 (by decide) (fun c_21 => ?_) (fun c_21 => ?_)
              · skip
                refine j_iload 5 C dX5_addStep_101 rfl ?_
                refine j_iconst (v := 5) C dX5_addStep_103 rfl ?_
                refine j_icmp_ne (tgt := 113) C dX5_addStep_104 (by decide) (fun c_22 => ?_) (fun c_22 => ?_)
                · skip
                  refine j_ldc2 (v := 3) C dX5_addStep_113 (List.mem_of_getElem? (i := 8) rfl) ?_
                  refine j_callRi (v := jb (jIn v3.toInt64 0 3)) (j_runS (As := [.long v3.toInt64, .long 0, .long 3]) (rest := []) [] C (c_X5_isIn l g v3.toInt64 0 3) gX5_addStep_X5_isIn rfl rfl rfl hd_X5_isIn ⟨Nat.le_of_ble_eq_true rfl, Nat.le_of_ble_eq_true rfl⟩ rfl rfl dX5_addStep_116 rfl (Nat.le_of_ble_eq_true rfl) ⟨Nat.le_of_ble_eq_true rfl, Nat.le_of_ble_eq_true rfl⟩) ?_
                  refine j_eq (pc' := 119) (L' := [(0, .ref m0), (1, .int (nI k)), (2, .int (nI j)), (3, .int v0), (4, .int v1), (5, .int v2), (6, .int v3), (7, .int 1)]) (st' := [.int (jb (jBt v3 0 3))]) (ws' := [(m0, .inr (4, [.int 0, .int (nI N), .ref tb, .ref md, .ref rw0, .int sz, .ref cs, .ref va, .int lk, .ref rn, .ref kp])), (tb, jaR g 10 (fun i => some (tr i))), (tr k, jaI g 253 (jrw n f))]) ?_ rfl rfl (by rw [jIn_b v3 0 3 _ _ (by decide) (by decide)]) rfl
                  refine j_if_ne (tgt := 128) C dX5_addStep_119 (by decide) (fun c_23 => ?_) (fun c_23 => ?_)
                  · skip
                    have c_23 : (jBt v3 0 3) = true := jb_1 c_23
                    refine j_aload_n 0 C dX5_addStep_128 rfl rfl ?_
                    refine j_get (Cn := RX5) (T := TX5) (N := 11) 0 2 C dX5_addStep_129 hin_X5_addStep_X5 rfl rfl (by decide) (List.mem_of_getElem? (i := 9) rfl) rfl ?_
                    refine j_iload_n 1 C dX5_addStep_132 rfl rfl ?_
                    refine j_aldR (x := k) 1 C dX5_addStep_133 rfl rfl (by omega) (by decide) ?_
                    refine j_eq (pc' := 134) (L' := [(0, .ref m0), (1, .int (nI k)), (2, .int (nI j)), (3, .int v0), (4, .int v1), (5, .int v2), (6, .int v3), (7, .int 1)]) (st' := [.ref (tr k)]) (ws' := [(m0, .inr (4, [.int 0, .int (nI N), .ref tb, .ref md, .ref rw0, .int sz, .ref cs, .ref va, .int lk, .ref rn, .ref kp])), (tb, jaR g 10 (fun i => some (tr i))), (tr k, jaI g 253 (jrw n f))]) ?_ rfl rfl rfl rfl
                    refine j_astore (L' := [(0, .ref m0), (1, .int (nI k)), (2, .int (nI j)), (3, .int v0), (4, .int v1), (5, .int v2), (6, .int v3), (7, .int 1), (8, .ref (tr k))]) C dX5_addStep_134 (Nat.le_of_ble_eq_true rfl) rfl rfl ?_
                    refine j_aload 8 C dX5_addStep_136 rfl ?_
                    refine j_iload_n 2 C dX5_addStep_138 rfl rfl ?_
                    refine j_callRi (v := f (j * 28 + 3)) (j_runS (As := [.ref (tr k), .int (nI j)]) (rest := []) [2] C (c_X5_steps l g (tr k) n f j (by omega)) gX5_addStep_X5_steps rfl rfl rfl hd_X5_steps ⟨Nat.le_of_ble_eq_true rfl, Nat.le_of_ble_eq_true rfl⟩ rfl rfl dX5_addStep_139 rfl (Nat.le_of_ble_eq_true rfl) ⟨Nat.le_of_ble_eq_true rfl, Nat.le_of_ble_eq_true rfl⟩) ?_
                    refine j_eq (pc' := 142) (L' := [(0, .ref m0), (1, .int (nI k)), (2, .int (nI j)), (3, .int v0), (4, .int v1), (5, .int v2), (6, .int v3), (7, .int 1), (8, .ref (tr k))]) (st' := [.int (nI a)]) (ws' := [(m0, .inr (4, [.int 0, .int (nI N), .ref tb, .ref md, .ref rw0, .int sz, .ref cs, .ref va, .int lk, .ref rn, .ref kp])), (tb, jaR g 10 (fun i => some (tr i))), (tr k, jaI g 253 (jrw n f))]) ?_ rfl rfl (by rw [ha]) rfl
                    refine j_istore (L' := [(0, .ref m0), (1, .int (nI k)), (2, .int (nI j)), (3, .int v0), (4, .int v1), (5, .int v2), (6, .int v3), (7, .int 1), (8, .ref (tr k)), (9, .int (nI a))]) C dX5_addStep_142 (Nat.le_of_ble_eq_true rfl) rfl rfl ?_
                    refine j_iload 9 C dX5_addStep_144 rfl ?_
                    refine j_bipush (v := 6) C dX5_addStep_146 rfl ?_
                    refine j_icmp_ne (tgt := 157) C dX5_addStep_148 (by decide) (fun c_24 => ?_) (fun c_24 => ?_)
                    · skip
                      have c_24 : ¬ a = 6 := fun z => c_24 ((nI_eq (a := a) (b := 6) (by omega) (by omega)).mpr z)
                      refine j_iconst (v := 4) C dX5_addStep_157 rfl ?_
                      refine j_newaI C dX5_addStep_158 (List.mem_of_getElem? (i := 10) rfl) rfl (by decide) (by constructor <;> exact Nat.le_of_ble_eq_true rfl) (fun nw_25 => ?_)
                      refine j_eq (pc' := 160) (L' := [(0, .ref m0), (1, .int (nI k)), (2, .int (nI j)), (3, .int v0), (4, .int v1), (5, .int v2), (6, .int v3), (7, .int 1), (8, .ref (tr k)), (9, .int (nI a))]) (st' := [.ref nw_25]) (ws' := [(m0, .inr (4, [.int 0, .int (nI N), .ref tb, .ref md, .ref rw0, .int sz, .ref cs, .ref va, .int lk, .ref rn, .ref kp])), (tb, jaR g 10 (fun i => some (tr i))), (tr k, jaI g 253 (jrw n f)), (nw_25, jaI g 4 (fun _ => 0))]) ?_ rfl rfl rfl rfl
                      refine j_dup C dX5_addStep_160 rfl ?_
                      refine j_iconst (v := 0) C dX5_addStep_161 rfl ?_
                      refine j_iload_n 3 C dX5_addStep_162 rfl rfl ?_
                      refine j_iastN (x := 0) (ws' := [(m0, .inr (4, [.int 0, .int (nI N), .ref tb, .ref md, .ref rw0, .int sz, .ref cs, .ref va, .int lk, .ref rn, .ref kp])), (tb, jaR g 10 (fun i => some (tr i))), (tr k, jaI g 253 (jrw n f)), (nw_25, jaI g 4 (upd (fun _ => 0) 0 v0))]) 3 C dX5_addStep_163 rfl rfl (by omega) (by decide) rfl ?_
                      refine j_dup C dX5_addStep_164 rfl ?_
                      refine j_iconst (v := 1) C dX5_addStep_165 rfl ?_
                      refine j_iload 4 C dX5_addStep_166 rfl ?_
                      refine j_iastN (x := 1) (ws' := [(m0, .inr (4, [.int 0, .int (nI N), .ref tb, .ref md, .ref rw0, .int sz, .ref cs, .ref va, .int lk, .ref rn, .ref kp])), (tb, jaR g 10 (fun i => some (tr i))), (tr k, jaI g 253 (jrw n f)), (nw_25, jaI g 4 (upd (upd (fun _ => 0) 0 v0) 1 v1))]) 3 C dX5_addStep_168 rfl rfl (by omega) (by decide) rfl ?_
                      refine j_dup C dX5_addStep_169 rfl ?_
                      refine j_iconst (v := 2) C dX5_addStep_170 rfl ?_
                      refine j_iload 5 C dX5_addStep_171 rfl ?_
                      refine j_iastN (x := 2) (ws' := [(m0, .inr (4, [.int 0, .int (nI N), .ref tb, .ref md, .ref rw0, .int sz, .ref cs, .ref va, .int lk, .ref rn, .ref kp])), (tb, jaR g 10 (fun i => some (tr i))), (tr k, jaI g 253 (jrw n f)), (nw_25, jaI g 4 (upd (upd (upd (fun _ => 0) 0 v0) 1 v1) 2 v2))]) 3 C dX5_addStep_173 rfl rfl (by omega) (by decide) rfl ?_
                      refine j_dup C dX5_addStep_174 rfl ?_
                      refine j_iconst (v := 3) C dX5_addStep_175 rfl ?_
                      refine j_iload 6 C dX5_addStep_176 rfl ?_
                      refine j_iastN (x := 3) (ws' := [(m0, .inr (4, [.int 0, .int (nI N), .ref tb, .ref md, .ref rw0, .int sz, .ref cs, .ref va, .int lk, .ref rn, .ref kp])), (tb, jaR g 10 (fun i => some (tr i))), (tr k, jaI g 253 (jrw n f)), (nw_25, jaI g 4 (upd (upd (upd (upd (fun _ => 0) 0 v0) 1 v1) 2 v2) 3 v3))]) 3 C dX5_addStep_178 rfl rfl (by omega) (by decide) rfl ?_
                      refine j_astore (L' := [(0, .ref m0), (1, .int (nI k)), (2, .int (nI j)), (3, .int v0), (4, .int v1), (5, .int v2), (6, .int v3), (7, .int 1), (8, .ref (tr k)), (9, .int (nI a)), (10, .ref nw_25)]) C dX5_addStep_179 (Nat.le_of_ble_eq_true rfl) rfl rfl ?_
                      refine j_aload 10 C dX5_addStep_181 rfl ?_
                      refine j_iconst (v := 0) C dX5_addStep_183 rfl ?_
                      refine j_aload 8 C dX5_addStep_184 rfl ?_
                      refine j_iload_n 2 C dX5_addStep_186 rfl rfl ?_
                      refine j_iload 9 C dX5_addStep_187 rfl ?_
                      refine j_callRi (v := nI (1 + 28 * j + 4 + 4 * a)) (j_runS (As := [.int (nI j), .int (nI a)]) (rest := [.ref (tr k), .int 0, .ref nw_25]) [] C (c_X5_stepAt l g j a) gX5_addStep_X5_stepAt rfl rfl rfl hd_X5_stepAt ⟨Nat.le_of_ble_eq_true rfl, Nat.le_of_ble_eq_true rfl⟩ rfl rfl dX5_addStep_189 rfl (Nat.le_of_ble_eq_true rfl) ⟨Nat.le_of_ble_eq_true rfl, Nat.le_of_ble_eq_true rfl⟩) ?_
                      refine j_iconst (v := 4) C dX5_addStep_192 rfl ?_
                      refine j_copyI (sp := 0) (dp := 1 + 28 * j + 4 + 4 * a) (n := 4) (rest := []) (ws' := [(m0, .inr (4, [.int 0, .int (nI N), .ref tb, .ref md, .ref rw0, .int sz, .ref cs, .ref va, .int lk, .ref rn, .ref kp])), (tb, jaR g 10 (fun i => some (tr i))), (tr k, jaI g 253 (va_cpy (upd (upd (upd (upd (fun _ => 0) 0 v0) 1 v1) 2 v2) 3 v3) (jrw n f) 0 (1 + 28 * j + 4 + 4 * a) 4)), (nw_25, jaI g 4 (upd (upd (upd (upd (fun _ => 0) 0 v0) 1 v1) 2 v2) 3 v3))]) 3 2 C dX5_addStep_193 (List.mem_of_getElem? (i := 11) rfl) (List.mem_of_getElem? (i := 12) rfl) (List.mem_of_getElem? (i := 13) rfl) (List.mem_of_getElem? (i := 14) rfl) rfl rfl rfl rfl rfl (by omega) (by omega) (by decide) (by decide) (Nat.le_of_ble_eq_true rfl) (Nat.le_of_ble_eq_true rfl) rfl ?_
                      refine j_eq (pc' := 196) (L' := [(0, .ref m0), (1, .int (nI k)), (2, .int (nI j)), (3, .int v0), (4, .int v1), (5, .int v2), (6, .int v3), (7, .int 1), (8, .ref (tr k)), (9, .int (nI a)), (10, .ref nw_25)]) (st' := []) (ws' := [(m0, .inr (4, [.int 0, .int (nI N), .ref tb, .ref md, .ref rw0, .int sz, .ref cs, .ref va, .int lk, .ref rn, .ref kp])), (tb, jaR g 10 (fun i => some (tr i))), (tr k, jaI g 253 (jrw n (upd (upd (upd (upd f (j * 28 + 4 + a * 4 + 0) v0) (j * 28 + 4 + a * 4 + 1) v1) (j * 28 + 4 + a * 4 + 2) v2) (j * 28 + 4 + a * 4 + 3) v3))), (nw_25, jaI g 4 (upd (upd (upd (upd (fun _ => 0) 0 v0) 1 v1) 2 v2) 3 v3))]) ?_ rfl rfl rfl (by rw [jsaid (y0 := j * 28 + 4 + a * 4 + 0) (y1 := j * 28 + 4 + a * 4 + 1) (y2 := j * 28 + 4 + a * 4 + 2) (y3 := j * 28 + 4 + a * 4 + 3) (by omega) (by omega) (by omega) (by omega)])
                      refine j_aload 8 C dX5_addStep_196 rfl ?_
                      refine j_iload_n 2 C dX5_addStep_198 rfl rfl ?_
                      refine j_callRi (v := nI (1 + 28 * j)) (j_runS (As := [.int (nI j)]) (rest := [.ref (tr k)]) [] C (c_X5_loopAt l g j) gX5_addStep_X5_loopAt rfl rfl rfl hd_X5_loopAt ⟨Nat.le_of_ble_eq_true rfl, Nat.le_of_ble_eq_true rfl⟩ rfl rfl dX5_addStep_199 rfl (Nat.le_of_ble_eq_true rfl) ⟨Nat.le_of_ble_eq_true rfl, Nat.le_of_ble_eq_true rfl⟩) ?_
                      refine j_iconst (v := 3) C dX5_addStep_202 rfl ?_
                      refine j_iadd (x := nI (1 + 28 * j)) (y := 3) (v := nI (1 + 28 * j + 3)) C dX5_addStep_203 (nI_add (1 + 28 * j) 3) ?_
                      refine j_dup2 C dX5_addStep_204 rfl rfl ?_
                      refine j_ialdR (x := 1 + 28 * j + 3) (y := j * 28 + 3) 2 C dX5_addStep_205 rfl rfl (by omega) (by omega) ?_
                      refine j_eq (pc' := 206) (L' := [(0, .ref m0), (1, .int (nI k)), (2, .int (nI j)), (3, .int v0), (4, .int v1), (5, .int v2), (6, .int v3), (7, .int 1), (8, .ref (tr k)), (9, .int (nI a)), (10, .ref nw_25)]) (st' := [.int (nI a), .int (nI (1 + 28 * j + 3)), .ref (tr k)]) (ws' := [(m0, .inr (4, [.int 0, .int (nI N), .ref tb, .ref md, .ref rw0, .int sz, .ref cs, .ref va, .int lk, .ref rn, .ref kp])), (tb, jaR g 10 (fun i => some (tr i))), (tr k, jaI g 253 (jrw n (upd (upd (upd (upd f (j * 28 + 4 + a * 4 + 0) v0) (j * 28 + 4 + a * 4 + 1) v1) (j * 28 + 4 + a * 4 + 2) v2) (j * 28 + 4 + a * 4 + 3) v3))), (nw_25, jaI g 4 (upd (upd (upd (upd (fun _ => 0) 0 v0) 1 v1) 2 v2) 3 v3))]) ?_ rfl rfl (by rw [pk_un (by omega), pk_un (by omega), pk_un (by omega), pk_un (by omega), ha]) rfl
                      refine j_iconst (v := 1) C dX5_addStep_206 rfl ?_
                      refine j_iadd (x := nI a) (y := 1) (v := nI (a + 1)) C dX5_addStep_207 (nI_add a 1) ?_
                      refine j_iastR (x := 1 + 28 * j + 3) (y := j * 28 + 3) (ws' := [(m0, .inr (4, [.int 0, .int (nI N), .ref tb, .ref md, .ref rw0, .int sz, .ref cs, .ref va, .int lk, .ref rn, .ref kp])), (tb, jaR g 10 (fun i => some (tr i))), (tr k, jaI g 253 (jrw n (upd (upd (upd (upd (upd f (j * 28 + 4 + a * 4 + 0) v0) (j * 28 + 4 + a * 4 + 1) v1) (j * 28 + 4 + a * 4 + 2) v2) (j * 28 + 4 + a * 4 + 3) v3) (j * 28 + 3) (nI (a + 1))))), (nw_25, jaI g 4 (upd (upd (upd (upd (fun _ => 0) 0 v0) 1 v1) 2 v2) 3 v3))]) 2 C dX5_addStep_208 rfl rfl (by omega) (by omega) rfl ?_
                      refine j_iload 9 C dX5_addStep_209 rfl ?_
                      refine j_wsub (ws' := [(m0, .inr (4, [.int 0, .int (nI N), .ref tb, .ref md, .ref rw0, .int sz, .ref cs, .ref va, .int lk, .ref rn, .ref kp])), (tb, jaR g 10 (fun i => some (tr i))), (tr k, jaI g 253 (jrw n (upd (upd (upd (upd (upd f (j * 28 + 4 + a * 4 + 0) v0) (j * 28 + 4 + a * 4 + 1) v1) (j * 28 + 4 + a * 4 + 2) v2) (j * 28 + 4 + a * 4 + 3) v3) (j * 28 + 3) (nI (a + 1)))))]) [0, 1, 2] rfl rfl ?_
                      exact j_iretW (v := nI a) C hr dX5_addStep_211 () rfl rfl
                    · skip
                      have c_24 : a = 6 := (nI_eq (a := a) (b := 6) (by omega) (by omega)).mp c_24
                      exact absurd c_24 (by omega)
                  · skip
                    have c_23 : (jBt v3 0 3) = false := jb_0 c_23
                    (first | exact absurd c_23 (by decide) | exact absurd c_23 (by omega) | simp_all)
                · skip
                  refine j_ldc2 (v := 100) C dX5_addStep_107 (List.mem_of_getElem? (i := 3) rfl) ?_
                  refine j_goto (tgt := 116) C dX5_addStep_110 (by decide) ?_
                  refine j_callRi (v := jb (jIn v3.toInt64 0 100)) (j_runS (As := [.long v3.toInt64, .long 0, .long 100]) (rest := []) [] C (c_X5_isIn l g v3.toInt64 0 100) gX5_addStep_X5_isIn rfl rfl rfl hd_X5_isIn ⟨Nat.le_of_ble_eq_true rfl, Nat.le_of_ble_eq_true rfl⟩ rfl rfl dX5_addStep_116 rfl (Nat.le_of_ble_eq_true rfl) ⟨Nat.le_of_ble_eq_true rfl, Nat.le_of_ble_eq_true rfl⟩) ?_
                  refine j_eq (pc' := 119) (L' := [(0, .ref m0), (1, .int (nI k)), (2, .int (nI j)), (3, .int v0), (4, .int v1), (5, .int v2), (6, .int v3), (7, .int 1)]) (st' := [.int (jb (jBt v3 0 100))]) (ws' := [(m0, .inr (4, [.int 0, .int (nI N), .ref tb, .ref md, .ref rw0, .int sz, .ref cs, .ref va, .int lk, .ref rn, .ref kp])), (tb, jaR g 10 (fun i => some (tr i))), (tr k, jaI g 253 (jrw n f))]) ?_ rfl rfl (by rw [jIn_b v3 0 100 _ _ (by decide) (by decide)]) rfl
                  refine j_if_ne (tgt := 128) C dX5_addStep_119 (by decide) (fun c_26 => ?_) (fun c_26 => ?_)
                  · skip
                    have c_26 : (jBt v3 0 100) = true := jb_1 c_26
                    refine j_aload_n 0 C dX5_addStep_128 rfl rfl ?_
                    refine j_get (Cn := RX5) (T := TX5) (N := 11) 0 2 C dX5_addStep_129 hin_X5_addStep_X5 rfl rfl (by decide) (List.mem_of_getElem? (i := 9) rfl) rfl ?_
                    refine j_iload_n 1 C dX5_addStep_132 rfl rfl ?_
                    refine j_aldR (x := k) 1 C dX5_addStep_133 rfl rfl (by omega) (by decide) ?_
                    refine j_eq (pc' := 134) (L' := [(0, .ref m0), (1, .int (nI k)), (2, .int (nI j)), (3, .int v0), (4, .int v1), (5, .int v2), (6, .int v3), (7, .int 1)]) (st' := [.ref (tr k)]) (ws' := [(m0, .inr (4, [.int 0, .int (nI N), .ref tb, .ref md, .ref rw0, .int sz, .ref cs, .ref va, .int lk, .ref rn, .ref kp])), (tb, jaR g 10 (fun i => some (tr i))), (tr k, jaI g 253 (jrw n f))]) ?_ rfl rfl rfl rfl
                    refine j_astore (L' := [(0, .ref m0), (1, .int (nI k)), (2, .int (nI j)), (3, .int v0), (4, .int v1), (5, .int v2), (6, .int v3), (7, .int 1), (8, .ref (tr k))]) C dX5_addStep_134 (Nat.le_of_ble_eq_true rfl) rfl rfl ?_
                    refine j_aload 8 C dX5_addStep_136 rfl ?_
                    refine j_iload_n 2 C dX5_addStep_138 rfl rfl ?_
                    refine j_callRi (v := f (j * 28 + 3)) (j_runS (As := [.ref (tr k), .int (nI j)]) (rest := []) [2] C (c_X5_steps l g (tr k) n f j (by omega)) gX5_addStep_X5_steps rfl rfl rfl hd_X5_steps ⟨Nat.le_of_ble_eq_true rfl, Nat.le_of_ble_eq_true rfl⟩ rfl rfl dX5_addStep_139 rfl (Nat.le_of_ble_eq_true rfl) ⟨Nat.le_of_ble_eq_true rfl, Nat.le_of_ble_eq_true rfl⟩) ?_
                    refine j_eq (pc' := 142) (L' := [(0, .ref m0), (1, .int (nI k)), (2, .int (nI j)), (3, .int v0), (4, .int v1), (5, .int v2), (6, .int v3), (7, .int 1), (8, .ref (tr k))]) (st' := [.int (nI a)]) (ws' := [(m0, .inr (4, [.int 0, .int (nI N), .ref tb, .ref md, .ref rw0, .int sz, .ref cs, .ref va, .int lk, .ref rn, .ref kp])), (tb, jaR g 10 (fun i => some (tr i))), (tr k, jaI g 253 (jrw n f))]) ?_ rfl rfl (by rw [ha]) rfl
                    refine j_istore (L' := [(0, .ref m0), (1, .int (nI k)), (2, .int (nI j)), (3, .int v0), (4, .int v1), (5, .int v2), (6, .int v3), (7, .int 1), (8, .ref (tr k)), (9, .int (nI a))]) C dX5_addStep_142 (Nat.le_of_ble_eq_true rfl) rfl rfl ?_
                    refine j_iload 9 C dX5_addStep_144 rfl ?_
                    refine j_bipush (v := 6) C dX5_addStep_146 rfl ?_
                    refine j_icmp_ne (tgt := 157) C dX5_addStep_148 (by decide) (fun c_27 => ?_) (fun c_27 => ?_)
                    · skip
                      have c_27 : ¬ a = 6 := fun z => c_27 ((nI_eq (a := a) (b := 6) (by omega) (by omega)).mpr z)
                      refine j_iconst (v := 4) C dX5_addStep_157 rfl ?_
                      refine j_newaI C dX5_addStep_158 (List.mem_of_getElem? (i := 10) rfl) rfl (by decide) (by constructor <;> exact Nat.le_of_ble_eq_true rfl) (fun nw_28 => ?_)
                      refine j_eq (pc' := 160) (L' := [(0, .ref m0), (1, .int (nI k)), (2, .int (nI j)), (3, .int v0), (4, .int v1), (5, .int v2), (6, .int v3), (7, .int 1), (8, .ref (tr k)), (9, .int (nI a))]) (st' := [.ref nw_28]) (ws' := [(m0, .inr (4, [.int 0, .int (nI N), .ref tb, .ref md, .ref rw0, .int sz, .ref cs, .ref va, .int lk, .ref rn, .ref kp])), (tb, jaR g 10 (fun i => some (tr i))), (tr k, jaI g 253 (jrw n f)), (nw_28, jaI g 4 (fun _ => 0))]) ?_ rfl rfl rfl rfl
                      refine j_dup C dX5_addStep_160 rfl ?_
                      refine j_iconst (v := 0) C dX5_addStep_161 rfl ?_
                      refine j_iload_n 3 C dX5_addStep_162 rfl rfl ?_
                      refine j_iastN (x := 0) (ws' := [(m0, .inr (4, [.int 0, .int (nI N), .ref tb, .ref md, .ref rw0, .int sz, .ref cs, .ref va, .int lk, .ref rn, .ref kp])), (tb, jaR g 10 (fun i => some (tr i))), (tr k, jaI g 253 (jrw n f)), (nw_28, jaI g 4 (upd (fun _ => 0) 0 v0))]) 3 C dX5_addStep_163 rfl rfl (by omega) (by decide) rfl ?_
                      refine j_dup C dX5_addStep_164 rfl ?_
                      refine j_iconst (v := 1) C dX5_addStep_165 rfl ?_
                      refine j_iload 4 C dX5_addStep_166 rfl ?_
                      refine j_iastN (x := 1) (ws' := [(m0, .inr (4, [.int 0, .int (nI N), .ref tb, .ref md, .ref rw0, .int sz, .ref cs, .ref va, .int lk, .ref rn, .ref kp])), (tb, jaR g 10 (fun i => some (tr i))), (tr k, jaI g 253 (jrw n f)), (nw_28, jaI g 4 (upd (upd (fun _ => 0) 0 v0) 1 v1))]) 3 C dX5_addStep_168 rfl rfl (by omega) (by decide) rfl ?_
                      refine j_dup C dX5_addStep_169 rfl ?_
                      refine j_iconst (v := 2) C dX5_addStep_170 rfl ?_
                      refine j_iload 5 C dX5_addStep_171 rfl ?_
                      refine j_iastN (x := 2) (ws' := [(m0, .inr (4, [.int 0, .int (nI N), .ref tb, .ref md, .ref rw0, .int sz, .ref cs, .ref va, .int lk, .ref rn, .ref kp])), (tb, jaR g 10 (fun i => some (tr i))), (tr k, jaI g 253 (jrw n f)), (nw_28, jaI g 4 (upd (upd (upd (fun _ => 0) 0 v0) 1 v1) 2 v2))]) 3 C dX5_addStep_173 rfl rfl (by omega) (by decide) rfl ?_
                      refine j_dup C dX5_addStep_174 rfl ?_
                      refine j_iconst (v := 3) C dX5_addStep_175 rfl ?_
                      refine j_iload 6 C dX5_addStep_176 rfl ?_
                      refine j_iastN (x := 3) (ws' := [(m0, .inr (4, [.int 0, .int (nI N), .ref tb, .ref md, .ref rw0, .int sz, .ref cs, .ref va, .int lk, .ref rn, .ref kp])), (tb, jaR g 10 (fun i => some (tr i))), (tr k, jaI g 253 (jrw n f)), (nw_28, jaI g 4 (upd (upd (upd (upd (fun _ => 0) 0 v0) 1 v1) 2 v2) 3 v3))]) 3 C dX5_addStep_178 rfl rfl (by omega) (by decide) rfl ?_
                      refine j_astore (L' := [(0, .ref m0), (1, .int (nI k)), (2, .int (nI j)), (3, .int v0), (4, .int v1), (5, .int v2), (6, .int v3), (7, .int 1), (8, .ref (tr k)), (9, .int (nI a)), (10, .ref nw_28)]) C dX5_addStep_179 (Nat.le_of_ble_eq_true rfl) rfl rfl ?_
                      refine j_aload 10 C dX5_addStep_181 rfl ?_
                      refine j_iconst (v := 0) C dX5_addStep_183 rfl ?_
                      refine j_aload 8 C dX5_addStep_184 rfl ?_
                      refine j_iload_n 2 C dX5_addStep_186 rfl rfl ?_
                      refine j_iload 9 C dX5_addStep_187 rfl ?_
                      refine j_callRi (v := nI (1 + 28 * j + 4 + 4 * a)) (j_runS (As := [.int (nI j), .int (nI a)]) (rest := [.ref (tr k), .int 0, .ref nw_28]) [] C (c_X5_stepAt l g j a) gX5_addStep_X5_stepAt rfl rfl rfl hd_X5_stepAt ⟨Nat.le_of_ble_eq_true rfl, Nat.le_of_ble_eq_true rfl⟩ rfl rfl dX5_addStep_189 rfl (Nat.le_of_ble_eq_true rfl) ⟨Nat.le_of_ble_eq_true rfl, Nat.le_of_ble_eq_true rfl⟩) ?_
                      refine j_iconst (v := 4) C dX5_addStep_192 rfl ?_
                      refine j_copyI (sp := 0) (dp := 1 + 28 * j + 4 + 4 * a) (n := 4) (rest := []) (ws' := [(m0, .inr (4, [.int 0, .int (nI N), .ref tb, .ref md, .ref rw0, .int sz, .ref cs, .ref va, .int lk, .ref rn, .ref kp])), (tb, jaR g 10 (fun i => some (tr i))), (tr k, jaI g 253 (va_cpy (upd (upd (upd (upd (fun _ => 0) 0 v0) 1 v1) 2 v2) 3 v3) (jrw n f) 0 (1 + 28 * j + 4 + 4 * a) 4)), (nw_28, jaI g 4 (upd (upd (upd (upd (fun _ => 0) 0 v0) 1 v1) 2 v2) 3 v3))]) 3 2 C dX5_addStep_193 (List.mem_of_getElem? (i := 11) rfl) (List.mem_of_getElem? (i := 12) rfl) (List.mem_of_getElem? (i := 13) rfl) (List.mem_of_getElem? (i := 14) rfl) rfl rfl rfl rfl rfl (by omega) (by omega) (by decide) (by decide) (Nat.le_of_ble_eq_true rfl) (Nat.le_of_ble_eq_true rfl) rfl ?_
                      refine j_eq (pc' := 196) (L' := [(0, .ref m0), (1, .int (nI k)), (2, .int (nI j)), (3, .int v0), (4, .int v1), (5, .int v2), (6, .int v3), (7, .int 1), (8, .ref (tr k)), (9, .int (nI a)), (10, .ref nw_28)]) (st' := []) (ws' := [(m0, .inr (4, [.int 0, .int (nI N), .ref tb, .ref md, .ref rw0, .int sz, .ref cs, .ref va, .int lk, .ref rn, .ref kp])), (tb, jaR g 10 (fun i => some (tr i))), (tr k, jaI g 253 (jrw n (upd (upd (upd (upd f (j * 28 + 4 + a * 4 + 0) v0) (j * 28 + 4 + a * 4 + 1) v1) (j * 28 + 4 + a * 4 + 2) v2) (j * 28 + 4 + a * 4 + 3) v3))), (nw_28, jaI g 4 (upd (upd (upd (upd (fun _ => 0) 0 v0) 1 v1) 2 v2) 3 v3))]) ?_ rfl rfl rfl (by rw [jsaid (y0 := j * 28 + 4 + a * 4 + 0) (y1 := j * 28 + 4 + a * 4 + 1) (y2 := j * 28 + 4 + a * 4 + 2) (y3 := j * 28 + 4 + a * 4 + 3) (by omega) (by omega) (by omega) (by omega)])
                      refine j_aload 8 C dX5_addStep_196 rfl ?_
                      refine j_iload_n 2 C dX5_addStep_198 rfl rfl ?_
                      refine j_callRi (v := nI (1 + 28 * j)) (j_runS (As := [.int (nI j)]) (rest := [.ref (tr k)]) [] C (c_X5_loopAt l g j) gX5_addStep_X5_loopAt rfl rfl rfl hd_X5_loopAt ⟨Nat.le_of_ble_eq_true rfl, Nat.le_of_ble_eq_true rfl⟩ rfl rfl dX5_addStep_199 rfl (Nat.le_of_ble_eq_true rfl) ⟨Nat.le_of_ble_eq_true rfl, Nat.le_of_ble_eq_true rfl⟩) ?_
                      refine j_iconst (v := 3) C dX5_addStep_202 rfl ?_
                      refine j_iadd (x := nI (1 + 28 * j)) (y := 3) (v := nI (1 + 28 * j + 3)) C dX5_addStep_203 (nI_add (1 + 28 * j) 3) ?_
                      refine j_dup2 C dX5_addStep_204 rfl rfl ?_
                      refine j_ialdR (x := 1 + 28 * j + 3) (y := j * 28 + 3) 2 C dX5_addStep_205 rfl rfl (by omega) (by omega) ?_
                      refine j_eq (pc' := 206) (L' := [(0, .ref m0), (1, .int (nI k)), (2, .int (nI j)), (3, .int v0), (4, .int v1), (5, .int v2), (6, .int v3), (7, .int 1), (8, .ref (tr k)), (9, .int (nI a)), (10, .ref nw_28)]) (st' := [.int (nI a), .int (nI (1 + 28 * j + 3)), .ref (tr k)]) (ws' := [(m0, .inr (4, [.int 0, .int (nI N), .ref tb, .ref md, .ref rw0, .int sz, .ref cs, .ref va, .int lk, .ref rn, .ref kp])), (tb, jaR g 10 (fun i => some (tr i))), (tr k, jaI g 253 (jrw n (upd (upd (upd (upd f (j * 28 + 4 + a * 4 + 0) v0) (j * 28 + 4 + a * 4 + 1) v1) (j * 28 + 4 + a * 4 + 2) v2) (j * 28 + 4 + a * 4 + 3) v3))), (nw_28, jaI g 4 (upd (upd (upd (upd (fun _ => 0) 0 v0) 1 v1) 2 v2) 3 v3))]) ?_ rfl rfl (by rw [pk_un (by omega), pk_un (by omega), pk_un (by omega), pk_un (by omega), ha]) rfl
                      refine j_iconst (v := 1) C dX5_addStep_206 rfl ?_
                      refine j_iadd (x := nI a) (y := 1) (v := nI (a + 1)) C dX5_addStep_207 (nI_add a 1) ?_
                      refine j_iastR (x := 1 + 28 * j + 3) (y := j * 28 + 3) (ws' := [(m0, .inr (4, [.int 0, .int (nI N), .ref tb, .ref md, .ref rw0, .int sz, .ref cs, .ref va, .int lk, .ref rn, .ref kp])), (tb, jaR g 10 (fun i => some (tr i))), (tr k, jaI g 253 (jrw n (upd (upd (upd (upd (upd f (j * 28 + 4 + a * 4 + 0) v0) (j * 28 + 4 + a * 4 + 1) v1) (j * 28 + 4 + a * 4 + 2) v2) (j * 28 + 4 + a * 4 + 3) v3) (j * 28 + 3) (nI (a + 1))))), (nw_28, jaI g 4 (upd (upd (upd (upd (fun _ => 0) 0 v0) 1 v1) 2 v2) 3 v3))]) 2 C dX5_addStep_208 rfl rfl (by omega) (by omega) rfl ?_
                      refine j_iload 9 C dX5_addStep_209 rfl ?_
                      refine j_wsub (ws' := [(m0, .inr (4, [.int 0, .int (nI N), .ref tb, .ref md, .ref rw0, .int sz, .ref cs, .ref va, .int lk, .ref rn, .ref kp])), (tb, jaR g 10 (fun i => some (tr i))), (tr k, jaI g 253 (jrw n (upd (upd (upd (upd (upd f (j * 28 + 4 + a * 4 + 0) v0) (j * 28 + 4 + a * 4 + 1) v1) (j * 28 + 4 + a * 4 + 2) v2) (j * 28 + 4 + a * 4 + 3) v3) (j * 28 + 3) (nI (a + 1)))))]) [0, 1, 2] rfl rfl ?_
                      exact j_iretW (v := nI a) C hr dX5_addStep_211 () rfl rfl
                    · skip
                      have c_27 : a = 6 := (nI_eq (a := a) (b := 6) (by omega) (by omega)).mp c_27
                      exact absurd c_27 (by omega)
                  · skip
                    have c_26 : (jBt v3 0 100) = false := jb_0 c_26
                    (first | exact absurd c_26 (by decide) | exact absurd c_26 (by omega) | simp_all)
              · skip
                refine j_lconst (v := 0) C dX5_addStep_97 rfl ?_
                refine j_goto (tgt := 116) C dX5_addStep_98 (by decide) ?_
                refine j_callRi (v := jb (jIn v3.toInt64 0 0)) (j_runS (As := [.long v3.toInt64, .long 0, .long 0]) (rest := []) [] C (c_X5_isIn l g v3.toInt64 0 0) gX5_addStep_X5_isIn rfl rfl rfl hd_X5_isIn ⟨Nat.le_of_ble_eq_true rfl, Nat.le_of_ble_eq_true rfl⟩ rfl rfl dX5_addStep_116 rfl (Nat.le_of_ble_eq_true rfl) ⟨Nat.le_of_ble_eq_true rfl, Nat.le_of_ble_eq_true rfl⟩) ?_
                refine j_eq (pc' := 119) (L' := [(0, .ref m0), (1, .int (nI k)), (2, .int (nI j)), (3, .int v0), (4, .int v1), (5, .int v2), (6, .int v3), (7, .int 1)]) (st' := [.int (jb (jBt v3 0 0))]) (ws' := [(m0, .inr (4, [.int 0, .int (nI N), .ref tb, .ref md, .ref rw0, .int sz, .ref cs, .ref va, .int lk, .ref rn, .ref kp])), (tb, jaR g 10 (fun i => some (tr i))), (tr k, jaI g 253 (jrw n f))]) ?_ rfl rfl (by rw [jIn_b v3 0 0 _ _ (by decide) (by decide)]) rfl
                refine j_if_ne (tgt := 128) C dX5_addStep_119 (by decide) (fun c_29 => ?_) (fun c_29 => ?_)
                · skip
                  have c_29 : (jBt v3 0 0) = true := jb_1 c_29
                  refine j_aload_n 0 C dX5_addStep_128 rfl rfl ?_
                  refine j_get (Cn := RX5) (T := TX5) (N := 11) 0 2 C dX5_addStep_129 hin_X5_addStep_X5 rfl rfl (by decide) (List.mem_of_getElem? (i := 9) rfl) rfl ?_
                  refine j_iload_n 1 C dX5_addStep_132 rfl rfl ?_
                  refine j_aldR (x := k) 1 C dX5_addStep_133 rfl rfl (by omega) (by decide) ?_
                  refine j_eq (pc' := 134) (L' := [(0, .ref m0), (1, .int (nI k)), (2, .int (nI j)), (3, .int v0), (4, .int v1), (5, .int v2), (6, .int v3), (7, .int 1)]) (st' := [.ref (tr k)]) (ws' := [(m0, .inr (4, [.int 0, .int (nI N), .ref tb, .ref md, .ref rw0, .int sz, .ref cs, .ref va, .int lk, .ref rn, .ref kp])), (tb, jaR g 10 (fun i => some (tr i))), (tr k, jaI g 253 (jrw n f))]) ?_ rfl rfl rfl rfl
                  refine j_astore (L' := [(0, .ref m0), (1, .int (nI k)), (2, .int (nI j)), (3, .int v0), (4, .int v1), (5, .int v2), (6, .int v3), (7, .int 1), (8, .ref (tr k))]) C dX5_addStep_134 (Nat.le_of_ble_eq_true rfl) rfl rfl ?_
                  refine j_aload 8 C dX5_addStep_136 rfl ?_
                  refine j_iload_n 2 C dX5_addStep_138 rfl rfl ?_
                  refine j_callRi (v := f (j * 28 + 3)) (j_runS (As := [.ref (tr k), .int (nI j)]) (rest := []) [2] C (c_X5_steps l g (tr k) n f j (by omega)) gX5_addStep_X5_steps rfl rfl rfl hd_X5_steps ⟨Nat.le_of_ble_eq_true rfl, Nat.le_of_ble_eq_true rfl⟩ rfl rfl dX5_addStep_139 rfl (Nat.le_of_ble_eq_true rfl) ⟨Nat.le_of_ble_eq_true rfl, Nat.le_of_ble_eq_true rfl⟩) ?_
                  refine j_eq (pc' := 142) (L' := [(0, .ref m0), (1, .int (nI k)), (2, .int (nI j)), (3, .int v0), (4, .int v1), (5, .int v2), (6, .int v3), (7, .int 1), (8, .ref (tr k))]) (st' := [.int (nI a)]) (ws' := [(m0, .inr (4, [.int 0, .int (nI N), .ref tb, .ref md, .ref rw0, .int sz, .ref cs, .ref va, .int lk, .ref rn, .ref kp])), (tb, jaR g 10 (fun i => some (tr i))), (tr k, jaI g 253 (jrw n f))]) ?_ rfl rfl (by rw [ha]) rfl
                  refine j_istore (L' := [(0, .ref m0), (1, .int (nI k)), (2, .int (nI j)), (3, .int v0), (4, .int v1), (5, .int v2), (6, .int v3), (7, .int 1), (8, .ref (tr k)), (9, .int (nI a))]) C dX5_addStep_142 (Nat.le_of_ble_eq_true rfl) rfl rfl ?_
                  refine j_iload 9 C dX5_addStep_144 rfl ?_
                  refine j_bipush (v := 6) C dX5_addStep_146 rfl ?_
                  refine j_icmp_ne (tgt := 157) C dX5_addStep_148 (by decide) (fun c_30 => ?_) (fun c_30 => ?_)
                  · skip
                    have c_30 : ¬ a = 6 := fun z => c_30 ((nI_eq (a := a) (b := 6) (by omega) (by omega)).mpr z)
                    refine j_iconst (v := 4) C dX5_addStep_157 rfl ?_
                    refine j_newaI C dX5_addStep_158 (List.mem_of_getElem? (i := 10) rfl) rfl (by decide) (by constructor <;> exact Nat.le_of_ble_eq_true rfl) (fun nw_31 => ?_)
                    refine j_eq (pc' := 160) (L' := [(0, .ref m0), (1, .int (nI k)), (2, .int (nI j)), (3, .int v0), (4, .int v1), (5, .int v2), (6, .int v3), (7, .int 1), (8, .ref (tr k)), (9, .int (nI a))]) (st' := [.ref nw_31]) (ws' := [(m0, .inr (4, [.int 0, .int (nI N), .ref tb, .ref md, .ref rw0, .int sz, .ref cs, .ref va, .int lk, .ref rn, .ref kp])), (tb, jaR g 10 (fun i => some (tr i))), (tr k, jaI g 253 (jrw n f)), (nw_31, jaI g 4 (fun _ => 0))]) ?_ rfl rfl rfl rfl
                    refine j_dup C dX5_addStep_160 rfl ?_
                    refine j_iconst (v := 0) C dX5_addStep_161 rfl ?_
                    refine j_iload_n 3 C dX5_addStep_162 rfl rfl ?_
                    refine j_iastN (x := 0) (ws' := [(m0, .inr (4, [.int 0, .int (nI N), .ref tb, .ref md, .ref rw0, .int sz, .ref cs, .ref va, .int lk, .ref rn, .ref kp])), (tb, jaR g 10 (fun i => some (tr i))), (tr k, jaI g 253 (jrw n f)), (nw_31, jaI g 4 (upd (fun _ => 0) 0 v0))]) 3 C dX5_addStep_163 rfl rfl (by omega) (by decide) rfl ?_
                    refine j_dup C dX5_addStep_164 rfl ?_
                    refine j_iconst (v := 1) C dX5_addStep_165 rfl ?_
                    refine j_iload 4 C dX5_addStep_166 rfl ?_
                    refine j_iastN (x := 1) (ws' := [(m0, .inr (4, [.int 0, .int (nI N), .ref tb, .ref md, .ref rw0, .int sz, .ref cs, .ref va, .int lk, .ref rn, .ref kp])), (tb, jaR g 10 (fun i => some (tr i))), (tr k, jaI g 253 (jrw n f)), (nw_31, jaI g 4 (upd (upd (fun _ => 0) 0 v0) 1 v1))]) 3 C dX5_addStep_168 rfl rfl (by omega) (by decide) rfl ?_
                    refine j_dup C dX5_addStep_169 rfl ?_
                    refine j_iconst (v := 2) C dX5_addStep_170 rfl ?_
                    refine j_iload 5 C dX5_addStep_171 rfl ?_
                    refine j_iastN (x := 2) (ws' := [(m0, .inr (4, [.int 0, .int (nI N), .ref tb, .ref md, .ref rw0, .int sz, .ref cs, .ref va, .int lk, .ref rn, .ref kp])), (tb, jaR g 10 (fun i => some (tr i))), (tr k, jaI g 253 (jrw n f)), (nw_31, jaI g 4 (upd (upd (upd (fun _ => 0) 0 v0) 1 v1) 2 v2))]) 3 C dX5_addStep_173 rfl rfl (by omega) (by decide) rfl ?_
                    refine j_dup C dX5_addStep_174 rfl ?_
                    refine j_iconst (v := 3) C dX5_addStep_175 rfl ?_
                    refine j_iload 6 C dX5_addStep_176 rfl ?_
                    refine j_iastN (x := 3) (ws' := [(m0, .inr (4, [.int 0, .int (nI N), .ref tb, .ref md, .ref rw0, .int sz, .ref cs, .ref va, .int lk, .ref rn, .ref kp])), (tb, jaR g 10 (fun i => some (tr i))), (tr k, jaI g 253 (jrw n f)), (nw_31, jaI g 4 (upd (upd (upd (upd (fun _ => 0) 0 v0) 1 v1) 2 v2) 3 v3))]) 3 C dX5_addStep_178 rfl rfl (by omega) (by decide) rfl ?_
                    refine j_astore (L' := [(0, .ref m0), (1, .int (nI k)), (2, .int (nI j)), (3, .int v0), (4, .int v1), (5, .int v2), (6, .int v3), (7, .int 1), (8, .ref (tr k)), (9, .int (nI a)), (10, .ref nw_31)]) C dX5_addStep_179 (Nat.le_of_ble_eq_true rfl) rfl rfl ?_
                    refine j_aload 10 C dX5_addStep_181 rfl ?_
                    refine j_iconst (v := 0) C dX5_addStep_183 rfl ?_
                    refine j_aload 8 C dX5_addStep_184 rfl ?_
                    refine j_iload_n 2 C dX5_addStep_186 rfl rfl ?_
                    refine j_iload 9 C dX5_addStep_187 rfl ?_
                    refine j_callRi (v := nI (1 + 28 * j + 4 + 4 * a)) (j_runS (As := [.int (nI j), .int (nI a)]) (rest := [.ref (tr k), .int 0, .ref nw_31]) [] C (c_X5_stepAt l g j a) gX5_addStep_X5_stepAt rfl rfl rfl hd_X5_stepAt ⟨Nat.le_of_ble_eq_true rfl, Nat.le_of_ble_eq_true rfl⟩ rfl rfl dX5_addStep_189 rfl (Nat.le_of_ble_eq_true rfl) ⟨Nat.le_of_ble_eq_true rfl, Nat.le_of_ble_eq_true rfl⟩) ?_
                    refine j_iconst (v := 4) C dX5_addStep_192 rfl ?_
                    refine j_copyI (sp := 0) (dp := 1 + 28 * j + 4 + 4 * a) (n := 4) (rest := []) (ws' := [(m0, .inr (4, [.int 0, .int (nI N), .ref tb, .ref md, .ref rw0, .int sz, .ref cs, .ref va, .int lk, .ref rn, .ref kp])), (tb, jaR g 10 (fun i => some (tr i))), (tr k, jaI g 253 (va_cpy (upd (upd (upd (upd (fun _ => 0) 0 v0) 1 v1) 2 v2) 3 v3) (jrw n f) 0 (1 + 28 * j + 4 + 4 * a) 4)), (nw_31, jaI g 4 (upd (upd (upd (upd (fun _ => 0) 0 v0) 1 v1) 2 v2) 3 v3))]) 3 2 C dX5_addStep_193 (List.mem_of_getElem? (i := 11) rfl) (List.mem_of_getElem? (i := 12) rfl) (List.mem_of_getElem? (i := 13) rfl) (List.mem_of_getElem? (i := 14) rfl) rfl rfl rfl rfl rfl (by omega) (by omega) (by decide) (by decide) (Nat.le_of_ble_eq_true rfl) (Nat.le_of_ble_eq_true rfl) rfl ?_
                    refine j_eq (pc' := 196) (L' := [(0, .ref m0), (1, .int (nI k)), (2, .int (nI j)), (3, .int v0), (4, .int v1), (5, .int v2), (6, .int v3), (7, .int 1), (8, .ref (tr k)), (9, .int (nI a)), (10, .ref nw_31)]) (st' := []) (ws' := [(m0, .inr (4, [.int 0, .int (nI N), .ref tb, .ref md, .ref rw0, .int sz, .ref cs, .ref va, .int lk, .ref rn, .ref kp])), (tb, jaR g 10 (fun i => some (tr i))), (tr k, jaI g 253 (jrw n (upd (upd (upd (upd f (j * 28 + 4 + a * 4 + 0) v0) (j * 28 + 4 + a * 4 + 1) v1) (j * 28 + 4 + a * 4 + 2) v2) (j * 28 + 4 + a * 4 + 3) v3))), (nw_31, jaI g 4 (upd (upd (upd (upd (fun _ => 0) 0 v0) 1 v1) 2 v2) 3 v3))]) ?_ rfl rfl rfl (by rw [jsaid (y0 := j * 28 + 4 + a * 4 + 0) (y1 := j * 28 + 4 + a * 4 + 1) (y2 := j * 28 + 4 + a * 4 + 2) (y3 := j * 28 + 4 + a * 4 + 3) (by omega) (by omega) (by omega) (by omega)])
                    refine j_aload 8 C dX5_addStep_196 rfl ?_
                    refine j_iload_n 2 C dX5_addStep_198 rfl rfl ?_
                    refine j_callRi (v := nI (1 + 28 * j)) (j_runS (As := [.int (nI j)]) (rest := [.ref (tr k)]) [] C (c_X5_loopAt l g j) gX5_addStep_X5_loopAt rfl rfl rfl hd_X5_loopAt ⟨Nat.le_of_ble_eq_true rfl, Nat.le_of_ble_eq_true rfl⟩ rfl rfl dX5_addStep_199 rfl (Nat.le_of_ble_eq_true rfl) ⟨Nat.le_of_ble_eq_true rfl, Nat.le_of_ble_eq_true rfl⟩) ?_
                    refine j_iconst (v := 3) C dX5_addStep_202 rfl ?_
                    refine j_iadd (x := nI (1 + 28 * j)) (y := 3) (v := nI (1 + 28 * j + 3)) C dX5_addStep_203 (nI_add (1 + 28 * j) 3) ?_
                    refine j_dup2 C dX5_addStep_204 rfl rfl ?_
                    refine j_ialdR (x := 1 + 28 * j + 3) (y := j * 28 + 3) 2 C dX5_addStep_205 rfl rfl (by omega) (by omega) ?_
                    refine j_eq (pc' := 206) (L' := [(0, .ref m0), (1, .int (nI k)), (2, .int (nI j)), (3, .int v0), (4, .int v1), (5, .int v2), (6, .int v3), (7, .int 1), (8, .ref (tr k)), (9, .int (nI a)), (10, .ref nw_31)]) (st' := [.int (nI a), .int (nI (1 + 28 * j + 3)), .ref (tr k)]) (ws' := [(m0, .inr (4, [.int 0, .int (nI N), .ref tb, .ref md, .ref rw0, .int sz, .ref cs, .ref va, .int lk, .ref rn, .ref kp])), (tb, jaR g 10 (fun i => some (tr i))), (tr k, jaI g 253 (jrw n (upd (upd (upd (upd f (j * 28 + 4 + a * 4 + 0) v0) (j * 28 + 4 + a * 4 + 1) v1) (j * 28 + 4 + a * 4 + 2) v2) (j * 28 + 4 + a * 4 + 3) v3))), (nw_31, jaI g 4 (upd (upd (upd (upd (fun _ => 0) 0 v0) 1 v1) 2 v2) 3 v3))]) ?_ rfl rfl (by rw [pk_un (by omega), pk_un (by omega), pk_un (by omega), pk_un (by omega), ha]) rfl
                    refine j_iconst (v := 1) C dX5_addStep_206 rfl ?_
                    refine j_iadd (x := nI a) (y := 1) (v := nI (a + 1)) C dX5_addStep_207 (nI_add a 1) ?_
                    refine j_iastR (x := 1 + 28 * j + 3) (y := j * 28 + 3) (ws' := [(m0, .inr (4, [.int 0, .int (nI N), .ref tb, .ref md, .ref rw0, .int sz, .ref cs, .ref va, .int lk, .ref rn, .ref kp])), (tb, jaR g 10 (fun i => some (tr i))), (tr k, jaI g 253 (jrw n (upd (upd (upd (upd (upd f (j * 28 + 4 + a * 4 + 0) v0) (j * 28 + 4 + a * 4 + 1) v1) (j * 28 + 4 + a * 4 + 2) v2) (j * 28 + 4 + a * 4 + 3) v3) (j * 28 + 3) (nI (a + 1))))), (nw_31, jaI g 4 (upd (upd (upd (upd (fun _ => 0) 0 v0) 1 v1) 2 v2) 3 v3))]) 2 C dX5_addStep_208 rfl rfl (by omega) (by omega) rfl ?_
                    refine j_iload 9 C dX5_addStep_209 rfl ?_
                    refine j_wsub (ws' := [(m0, .inr (4, [.int 0, .int (nI N), .ref tb, .ref md, .ref rw0, .int sz, .ref cs, .ref va, .int lk, .ref rn, .ref kp])), (tb, jaR g 10 (fun i => some (tr i))), (tr k, jaI g 253 (jrw n (upd (upd (upd (upd (upd f (j * 28 + 4 + a * 4 + 0) v0) (j * 28 + 4 + a * 4 + 1) v1) (j * 28 + 4 + a * 4 + 2) v2) (j * 28 + 4 + a * 4 + 3) v3) (j * 28 + 3) (nI (a + 1)))))]) [0, 1, 2] rfl rfl ?_
                    exact j_iretW (v := nI a) C hr dX5_addStep_211 () rfl rfl
                  · skip
                    have c_30 : a = 6 := (nI_eq (a := a) (b := 6) (by omega) (by omega)).mp c_30
                    exact absurd c_30 (by omega)
                · skip
                  have c_29 : (jBt v3 0 0) = false := jb_0 c_29
                  (first | exact absurd c_29 (by decide) | exact absurd c_29 (by omega) | simp_all)
  · skip
    have c_1 : true = false := jb_0 c_1
    (first | exact absurd c_1 (by decide) | exact absurd c_1 (by omega) | simp_all)
set_option maxHeartbeats 4000000 in
set_option maxRecDepth 100000 in
theorem c_X5_loop_p (l : Launch) (g : jG) (m0 : Nat) (th : Int32) (N tb md rw0 : Nat) (sz : Int32) (cs va : Nat) (lk : Int32) (rn kp : Nat) (x y w : Int32) (hx : jBt x 0 (nI N - 1) = false) : jWi l yX5_loop wsX5_loop ({ frames := 3, cells := 0, slots := 0, locals := 68 }) g [.ref m0, .int x, .int y, .int w] [(m0, .inr (4, [.int th, .int (nI N), .ref tb, .ref md, .ref rw0, .int sz, .ref cs, .ref va, .int lk, .ref rn, .ref kp]))] [(m0, .inr (4, [.int 1, .int (nI N), .ref tb, .ref md, .ref rw0, .int sz, .ref cs, .ref va, .int lk, .ref rn, .ref kp]))] 0 := by
  refine j_enterW (Qc := fun sz_ => va_Qi (fun r (_ : Unit) => r = 0) (fun _ t => va_P g.1 vwCl [(m0, .inr (4, [.int 1, .int (nI N), .ref tb, .ref md, .ref rw0, .int sz, .ref cs, .ref va, .int lk, .ref rn, .ref kp]))] t.heap) (va_A [(m0, .inr (4, [.int th, .int (nI N), .ref tb, .ref md, .ref rw0, .int sz, .ref cs, .ref va, .int lk, .ref rn, .ref kp]))] sz_)) (cc := cX5_loop) (maxL := 4) (ret := (some .int)) (own := RX5) (L := [(0, .ref m0), (1, .int x), (2, .int y), (3, .int w)]) (by decide) rfl rfl (Nat.le_of_ble_eq_true rfl) rfl (fun p e s m args below meth c C hr => ?_)
  refine j_aload_n 0 C dX5_loop_0 rfl rfl ?_
  refine j_iconst (v := 0) C dX5_loop_1 rfl ?_
  refine j_put (Cn := RX5) (T := TX5) (N := 11) (ws' := [(m0, .inr (4, [.int 0, .int (nI N), .ref tb, .ref md, .ref rw0, .int sz, .ref cs, .ref va, .int lk, .ref rn, .ref kp]))]) tyX5 0 0 C dX5_loop_2 hin_X5_loop_X5 tyX5_ok nmX5 rfl rfl (by decide) (List.mem_of_getElem? (i := 1) rfl) rfl (tyX5_ok 0 (by decide)) rfl rfl (Nat.le_of_ble_eq_true rfl) rfl ?_
  refine j_aload_n 0 C dX5_loop_5 rfl rfl ?_
  refine j_iload_n 1 C dX5_loop_6 rfl rfl ?_
  refine j_iload_n 2 C dX5_loop_7 rfl rfl ?_
  refine j_callRi (v := jb false) (j_runV (ci := 0) (As := [.int x, .int y]) (rest := []) [0] C (c_X5_isLoop_p l g m0 0 N tb md rw0 sz cs va lk rn kp x y (by omega)) gX5_loop_X5_isLoop rfl rfl rfl hd_X5_isLoop ⟨Nat.le_of_ble_eq_true rfl, Nat.le_of_ble_eq_true rfl⟩ rfl rfl rfl rfl dX5_loop_8 rfl (Nat.le_of_ble_eq_true rfl) ⟨Nat.le_of_ble_eq_true rfl, Nat.le_of_ble_eq_true rfl⟩) ?_
  refine j_if_eq (tgt := 42) C dX5_loop_11 (by decide) (fun c_1 => ?_) (fun c_1 => ?_)
  · skip
    have c_1 : false = false := jb_0 c_1
    refine j_aload_n 0 C dX5_loop_42 rfl rfl ?_
    refine j_iconst (v := 1) C dX5_loop_43 rfl ?_
    refine j_callWi [0] (fun _ => [(m0, .inr (4, [.int 1, .int (nI N), .ref tb, .ref md, .ref rw0, .int sz, .ref cs, .ref va, .int lk, .ref rn, .ref kp]))]) C (j_runV (ci := 0) (As := [.int 1]) (rest := []) [0] C (c_X5_fail l g m0 0 (nI N) tb md rw0 sz cs va lk rn kp 1) gX5_loop_X5_fail rfl rfl rfl hd_X5_fail ⟨Nat.le_of_ble_eq_true rfl, Nat.le_of_ble_eq_true rfl⟩ rfl rfl rfl rfl dX5_loop_44 rfl (Nat.le_of_ble_eq_true rfl) ⟨Nat.le_of_ble_eq_true rfl, Nat.le_of_ble_eq_true rfl⟩) rfl (fun _ => rfl) (fun _ => rfl) (fun z _ hz => ?_)
    subst hz
    exact j_iretW (v := 0) C hr dX5_loop_47 () rfl rfl
  · skip
    have c_1 : false = true := jb_1 c_1
    (first | exact absurd c_1 (by decide) | exact absurd c_1 (by omega) | simp_all)
set_option maxHeartbeats 4000000 in
set_option maxRecDepth 100000 in
theorem c_X5_loop_l (l : Launch) (g : jG) (m0 : Nat) (th : Int32) (N tb md rw0 : Nat) (sz : Int32) (cs va : Nat) (lk : Int32) (rn kp : Nat) (tr : Nat → Nat) (k n : Nat) (f : Nat → Int32) (y w : Int32) (hk : k < N) (hN : N ≤ 10) (hy : jBt y 0 (nI n - 1) = false) : jWi l yX5_loop wsX5_loop ({ frames := 3, cells := 0, slots := 0, locals := 68 }) g [.ref m0, .int (nI k), .int y, .int w] [(m0, .inr (4, [.int th, .int (nI N), .ref tb, .ref md, .ref rw0, .int sz, .ref cs, .ref va, .int lk, .ref rn, .ref kp])), (tb, jaR g 10 (fun i => some (tr i))), (tr k, jaI g 253 (jrw n f))] [(m0, .inr (4, [.int 1, .int (nI N), .ref tb, .ref md, .ref rw0, .int sz, .ref cs, .ref va, .int lk, .ref rn, .ref kp])), (tb, jaR g 10 (fun i => some (tr i))), (tr k, jaI g 253 (jrw n f))] 0 := by
  refine j_enterW (Qc := fun sz_ => va_Qi (fun r (_ : Unit) => r = 0) (fun _ t => va_P g.1 vwCl [(m0, .inr (4, [.int 1, .int (nI N), .ref tb, .ref md, .ref rw0, .int sz, .ref cs, .ref va, .int lk, .ref rn, .ref kp])), (tb, jaR g 10 (fun i => some (tr i))), (tr k, jaI g 253 (jrw n f))] t.heap) (va_A [(m0, .inr (4, [.int th, .int (nI N), .ref tb, .ref md, .ref rw0, .int sz, .ref cs, .ref va, .int lk, .ref rn, .ref kp])), (tb, jaR g 10 (fun i => some (tr i))), (tr k, jaI g 253 (jrw n f))] sz_)) (cc := cX5_loop) (maxL := 4) (ret := (some .int)) (own := RX5) (L := [(0, .ref m0), (1, .int (nI k)), (2, .int y), (3, .int w)]) (by decide) rfl rfl (Nat.le_of_ble_eq_true rfl) rfl (fun p e s m args below meth c C hr => ?_)
  refine j_aload_n 0 C dX5_loop_0 rfl rfl ?_
  refine j_iconst (v := 0) C dX5_loop_1 rfl ?_
  refine j_put (Cn := RX5) (T := TX5) (N := 11) (ws' := [(m0, .inr (4, [.int 0, .int (nI N), .ref tb, .ref md, .ref rw0, .int sz, .ref cs, .ref va, .int lk, .ref rn, .ref kp])), (tb, jaR g 10 (fun i => some (tr i))), (tr k, jaI g 253 (jrw n f))]) tyX5 0 0 C dX5_loop_2 hin_X5_loop_X5 tyX5_ok nmX5 rfl rfl (by decide) (List.mem_of_getElem? (i := 1) rfl) rfl (tyX5_ok 0 (by decide)) rfl rfl (Nat.le_of_ble_eq_true rfl) rfl ?_
  refine j_aload_n 0 C dX5_loop_5 rfl rfl ?_
  refine j_iload_n 1 C dX5_loop_6 rfl rfl ?_
  refine j_iload_n 2 C dX5_loop_7 rfl rfl ?_
  refine j_callRi (v := jb (jBt y 0 (nI n - 1))) (j_runV (ci := 0) (As := [.int (nI k), .int y]) (rest := []) [0, 1, 2] C (c_X5_isLoop l g m0 0 N tb md rw0 sz cs va lk rn kp tr k n f y (by omega) (by omega)) gX5_loop_X5_isLoop rfl rfl rfl hd_X5_isLoop ⟨Nat.le_of_ble_eq_true rfl, Nat.le_of_ble_eq_true rfl⟩ rfl rfl rfl rfl dX5_loop_8 rfl (Nat.le_of_ble_eq_true rfl) ⟨Nat.le_of_ble_eq_true rfl, Nat.le_of_ble_eq_true rfl⟩) ?_
  refine j_eq (pc' := 11) (L' := [(0, .ref m0), (1, .int (nI k)), (2, .int y), (3, .int w)]) (st' := [.int (jb false)]) (ws' := [(m0, .inr (4, [.int 0, .int (nI N), .ref tb, .ref md, .ref rw0, .int sz, .ref cs, .ref va, .int lk, .ref rn, .ref kp])), (tb, jaR g 10 (fun i => some (tr i))), (tr k, jaI g 253 (jrw n f))]) ?_ rfl rfl (by rw [hy]) rfl
  refine j_if_eq (tgt := 42) C dX5_loop_11 (by decide) (fun c_1 => ?_) (fun c_1 => ?_)
  · skip
    have c_1 : false = false := jb_0 c_1
    refine j_aload_n 0 C dX5_loop_42 rfl rfl ?_
    refine j_iconst (v := 1) C dX5_loop_43 rfl ?_
    refine j_callWi [0] (fun _ => [(m0, .inr (4, [.int 1, .int (nI N), .ref tb, .ref md, .ref rw0, .int sz, .ref cs, .ref va, .int lk, .ref rn, .ref kp])), (tb, jaR g 10 (fun i => some (tr i))), (tr k, jaI g 253 (jrw n f))]) C (j_runV (ci := 0) (As := [.int 1]) (rest := []) [0] C (c_X5_fail l g m0 0 (nI N) tb md rw0 sz cs va lk rn kp 1) gX5_loop_X5_fail rfl rfl rfl hd_X5_fail ⟨Nat.le_of_ble_eq_true rfl, Nat.le_of_ble_eq_true rfl⟩ rfl rfl rfl rfl dX5_loop_44 rfl (Nat.le_of_ble_eq_true rfl) ⟨Nat.le_of_ble_eq_true rfl, Nat.le_of_ble_eq_true rfl⟩) rfl (fun _ => rfl) (fun _ => rfl) (fun z _ hz => ?_)
    subst hz
    exact j_iretW (v := 0) C hr dX5_loop_47 () rfl rfl
  · skip
    have c_1 : false = true := jb_1 c_1
    (first | exact absurd c_1 (by decide) | exact absurd c_1 (by omega) | simp_all)
set_option maxHeartbeats 4000000 in
set_option maxRecDepth 100000 in
theorem c_X5_loop_w (l : Launch) (g : jG) (m0 : Nat) (th : Int32) (N tb md rw0 : Nat) (sz : Int32) (cs va : Nat) (lk : Int32) (rn kp : Nat) (tr : Nat → Nat) (k n : Nat) (f : Nat → Int32) (j : Nat) (w : Int32) (hk : k < N) (hN : N ≤ 10) (hj : j < n) (hn : n ≤ 8) (hw : jBt w 0 3 = false) : jWi l yX5_loop wsX5_loop ({ frames := 3, cells := 0, slots := 0, locals := 68 }) g [.ref m0, .int (nI k), .int (nI j), .int w] [(m0, .inr (4, [.int th, .int (nI N), .ref tb, .ref md, .ref rw0, .int sz, .ref cs, .ref va, .int lk, .ref rn, .ref kp])), (tb, jaR g 10 (fun i => some (tr i))), (tr k, jaI g 253 (jrw n f))] [(m0, .inr (4, [.int 1, .int (nI N), .ref tb, .ref md, .ref rw0, .int sz, .ref cs, .ref va, .int lk, .ref rn, .ref kp])), (tb, jaR g 10 (fun i => some (tr i))), (tr k, jaI g 253 (jrw n f))] 0 := by
  refine j_enterW (Qc := fun sz_ => va_Qi (fun r (_ : Unit) => r = 0) (fun _ t => va_P g.1 vwCl [(m0, .inr (4, [.int 1, .int (nI N), .ref tb, .ref md, .ref rw0, .int sz, .ref cs, .ref va, .int lk, .ref rn, .ref kp])), (tb, jaR g 10 (fun i => some (tr i))), (tr k, jaI g 253 (jrw n f))] t.heap) (va_A [(m0, .inr (4, [.int th, .int (nI N), .ref tb, .ref md, .ref rw0, .int sz, .ref cs, .ref va, .int lk, .ref rn, .ref kp])), (tb, jaR g 10 (fun i => some (tr i))), (tr k, jaI g 253 (jrw n f))] sz_)) (cc := cX5_loop) (maxL := 4) (ret := (some .int)) (own := RX5) (L := [(0, .ref m0), (1, .int (nI k)), (2, .int (nI j)), (3, .int w)]) (by decide) rfl rfl (Nat.le_of_ble_eq_true rfl) rfl (fun p e s m args below meth c C hr => ?_)
  refine j_aload_n 0 C dX5_loop_0 rfl rfl ?_
  refine j_iconst (v := 0) C dX5_loop_1 rfl ?_
  refine j_put (Cn := RX5) (T := TX5) (N := 11) (ws' := [(m0, .inr (4, [.int 0, .int (nI N), .ref tb, .ref md, .ref rw0, .int sz, .ref cs, .ref va, .int lk, .ref rn, .ref kp])), (tb, jaR g 10 (fun i => some (tr i))), (tr k, jaI g 253 (jrw n f))]) tyX5 0 0 C dX5_loop_2 hin_X5_loop_X5 tyX5_ok nmX5 rfl rfl (by decide) (List.mem_of_getElem? (i := 1) rfl) rfl (tyX5_ok 0 (by decide)) rfl rfl (Nat.le_of_ble_eq_true rfl) rfl ?_
  refine j_aload_n 0 C dX5_loop_5 rfl rfl ?_
  refine j_iload_n 1 C dX5_loop_6 rfl rfl ?_
  refine j_iload_n 2 C dX5_loop_7 rfl rfl ?_
  refine j_callRi (v := jb (jBt (nI j) 0 (nI n - 1))) (j_runV (ci := 0) (As := [.int (nI k), .int (nI j)]) (rest := []) [0, 1, 2] C (c_X5_isLoop l g m0 0 N tb md rw0 sz cs va lk rn kp tr k n f (nI j) (by omega) (by omega)) gX5_loop_X5_isLoop rfl rfl rfl hd_X5_isLoop ⟨Nat.le_of_ble_eq_true rfl, Nat.le_of_ble_eq_true rfl⟩ rfl rfl rfl rfl dX5_loop_8 rfl (Nat.le_of_ble_eq_true rfl) ⟨Nat.le_of_ble_eq_true rfl, Nat.le_of_ble_eq_true rfl⟩) ?_
  refine j_eq (pc' := 11) (L' := [(0, .ref m0), (1, .int (nI k)), (2, .int (nI j)), (3, .int w)]) (st' := [.int (jb true)]) (ws' := [(m0, .inr (4, [.int 0, .int (nI N), .ref tb, .ref md, .ref rw0, .int sz, .ref cs, .ref va, .int lk, .ref rn, .ref kp])), (tb, jaR g 10 (fun i => some (tr i))), (tr k, jaI g 253 (jrw n f))]) ?_ rfl rfl (by rw [jBt_n hj (by omega)]) rfl
  refine j_if_eq (tgt := 42) C dX5_loop_11 (by decide) (fun c_1 => ?_) (fun c_1 => ?_)
  · skip
    have c_1 : true = false := jb_0 c_1
    (first | exact absurd c_1 (by decide) | exact absurd c_1 (by omega) | simp_all)
  · skip
    have c_1 : true = true := jb_1 c_1
    refine j_iload_n 3 C dX5_loop_14 rfl rfl ?_
    refine j_i2l (v := w.toInt64) C dX5_loop_15 rfl ?_
    refine j_lconst (v := 0) C dX5_loop_16 rfl ?_
    refine j_ldc2 (v := 3) C dX5_loop_17 (List.mem_of_getElem? (i := 2) rfl) ?_
    refine j_callRi (v := jb (jIn w.toInt64 0 3)) (j_runS (As := [.long w.toInt64, .long 0, .long 3]) (rest := []) [] C (c_X5_isIn l g w.toInt64 0 3) gX5_loop_X5_isIn rfl rfl rfl hd_X5_isIn ⟨Nat.le_of_ble_eq_true rfl, Nat.le_of_ble_eq_true rfl⟩ rfl rfl dX5_loop_20 rfl (Nat.le_of_ble_eq_true rfl) ⟨Nat.le_of_ble_eq_true rfl, Nat.le_of_ble_eq_true rfl⟩) ?_
    refine j_eq (pc' := 23) (L' := [(0, .ref m0), (1, .int (nI k)), (2, .int (nI j)), (3, .int w)]) (st' := [.int (jb (jBt w 0 3))]) (ws' := [(m0, .inr (4, [.int 0, .int (nI N), .ref tb, .ref md, .ref rw0, .int sz, .ref cs, .ref va, .int lk, .ref rn, .ref kp])), (tb, jaR g 10 (fun i => some (tr i))), (tr k, jaI g 253 (jrw n f))]) ?_ rfl rfl (by rw [jIn_b w 0 3 _ _ (by decide) (by decide)]) rfl
    refine j_eq (pc' := 23) (L' := [(0, .ref m0), (1, .int (nI k)), (2, .int (nI j)), (3, .int w)]) (st' := [.int (jb false)]) (ws' := [(m0, .inr (4, [.int 0, .int (nI N), .ref tb, .ref md, .ref rw0, .int sz, .ref cs, .ref va, .int lk, .ref rn, .ref kp])), (tb, jaR g 10 (fun i => some (tr i))), (tr k, jaI g 253 (jrw n f))]) ?_ rfl rfl (by rw [hw]) rfl
    refine j_if_eq (tgt := 42) C dX5_loop_23 (by decide) (fun c_2 => ?_) (fun c_2 => ?_)
    · skip
      have c_2 : false = false := jb_0 c_2
      refine j_aload_n 0 C dX5_loop_42 rfl rfl ?_
      refine j_iconst (v := 1) C dX5_loop_43 rfl ?_
      refine j_callWi [0] (fun _ => [(m0, .inr (4, [.int 1, .int (nI N), .ref tb, .ref md, .ref rw0, .int sz, .ref cs, .ref va, .int lk, .ref rn, .ref kp])), (tb, jaR g 10 (fun i => some (tr i))), (tr k, jaI g 253 (jrw n f))]) C (j_runV (ci := 0) (As := [.int 1]) (rest := []) [0] C (c_X5_fail l g m0 0 (nI N) tb md rw0 sz cs va lk rn kp 1) gX5_loop_X5_fail rfl rfl rfl hd_X5_fail ⟨Nat.le_of_ble_eq_true rfl, Nat.le_of_ble_eq_true rfl⟩ rfl rfl rfl rfl dX5_loop_44 rfl (Nat.le_of_ble_eq_true rfl) ⟨Nat.le_of_ble_eq_true rfl, Nat.le_of_ble_eq_true rfl⟩) rfl (fun _ => rfl) (fun _ => rfl) (fun z _ hz => ?_)
      subst hz
      exact j_iretW (v := 0) C hr dX5_loop_47 () rfl rfl
    · skip
      have c_2 : false = true := jb_1 c_2
      (first | exact absurd c_2 (by decide) | exact absurd c_2 (by omega) | simp_all)
set_option maxHeartbeats 4000000 in
set_option maxRecDepth 100000 in
theorem c_X5_loop (l : Launch) (g : jG) (m0 : Nat) (th : Int32) (N tb md rw0 : Nat) (sz : Int32) (cs va : Nat) (lk : Int32) (rn kp : Nat) (tr : Nat → Nat) (k n : Nat) (f : Nat → Int32) (j w : Nat) (hk : k < N) (hN : N ≤ 10) (hj : j < n) (hn : n ≤ 8) (hw : w < 4) : jWi l yX5_loop wsX5_loop ({ frames := 3, cells := 0, slots := 0, locals := 68 }) g [.ref m0, .int (nI k), .int (nI j), .int (nI w)] [(m0, .inr (4, [.int th, .int (nI N), .ref tb, .ref md, .ref rw0, .int sz, .ref cs, .ref va, .int lk, .ref rn, .ref kp])), (tb, jaR g 10 (fun i => some (tr i))), (tr k, jaI g 253 (jrw n f))] [(m0, .inr (4, [.int 0, .int (nI N), .ref tb, .ref md, .ref rw0, .int sz, .ref cs, .ref va, .int lk, .ref rn, .ref kp])), (tb, jaR g 10 (fun i => some (tr i))), (tr k, jaI g 253 (jrw n f))] (f (j * 28 + w)) := by
  refine j_enterW (Qc := fun sz_ => va_Qi (fun r (_ : Unit) => r = f (j * 28 + w)) (fun _ t => va_P g.1 vwCl [(m0, .inr (4, [.int 0, .int (nI N), .ref tb, .ref md, .ref rw0, .int sz, .ref cs, .ref va, .int lk, .ref rn, .ref kp])), (tb, jaR g 10 (fun i => some (tr i))), (tr k, jaI g 253 (jrw n f))] t.heap) (va_A [(m0, .inr (4, [.int th, .int (nI N), .ref tb, .ref md, .ref rw0, .int sz, .ref cs, .ref va, .int lk, .ref rn, .ref kp])), (tb, jaR g 10 (fun i => some (tr i))), (tr k, jaI g 253 (jrw n f))] sz_)) (cc := cX5_loop) (maxL := 4) (ret := (some .int)) (own := RX5) (L := [(0, .ref m0), (1, .int (nI k)), (2, .int (nI j)), (3, .int (nI w))]) (by decide) rfl rfl (Nat.le_of_ble_eq_true rfl) rfl (fun p e s m args below meth c C hr => ?_)
  refine j_aload_n 0 C dX5_loop_0 rfl rfl ?_
  refine j_iconst (v := 0) C dX5_loop_1 rfl ?_
  refine j_put (Cn := RX5) (T := TX5) (N := 11) (ws' := [(m0, .inr (4, [.int 0, .int (nI N), .ref tb, .ref md, .ref rw0, .int sz, .ref cs, .ref va, .int lk, .ref rn, .ref kp])), (tb, jaR g 10 (fun i => some (tr i))), (tr k, jaI g 253 (jrw n f))]) tyX5 0 0 C dX5_loop_2 hin_X5_loop_X5 tyX5_ok nmX5 rfl rfl (by decide) (List.mem_of_getElem? (i := 1) rfl) rfl (tyX5_ok 0 (by decide)) rfl rfl (Nat.le_of_ble_eq_true rfl) rfl ?_
  refine j_aload_n 0 C dX5_loop_5 rfl rfl ?_
  refine j_iload_n 1 C dX5_loop_6 rfl rfl ?_
  refine j_iload_n 2 C dX5_loop_7 rfl rfl ?_
  refine j_callRi (v := jb (jBt (nI j) 0 (nI n - 1))) (j_runV (ci := 0) (As := [.int (nI k), .int (nI j)]) (rest := []) [0, 1, 2] C (c_X5_isLoop l g m0 0 N tb md rw0 sz cs va lk rn kp tr k n f (nI j) (by omega) (by omega)) gX5_loop_X5_isLoop rfl rfl rfl hd_X5_isLoop ⟨Nat.le_of_ble_eq_true rfl, Nat.le_of_ble_eq_true rfl⟩ rfl rfl rfl rfl dX5_loop_8 rfl (Nat.le_of_ble_eq_true rfl) ⟨Nat.le_of_ble_eq_true rfl, Nat.le_of_ble_eq_true rfl⟩) ?_
  refine j_eq (pc' := 11) (L' := [(0, .ref m0), (1, .int (nI k)), (2, .int (nI j)), (3, .int (nI w))]) (st' := [.int (jb true)]) (ws' := [(m0, .inr (4, [.int 0, .int (nI N), .ref tb, .ref md, .ref rw0, .int sz, .ref cs, .ref va, .int lk, .ref rn, .ref kp])), (tb, jaR g 10 (fun i => some (tr i))), (tr k, jaI g 253 (jrw n f))]) ?_ rfl rfl (by rw [jBt_n hj (by omega)]) rfl
  refine j_if_eq (tgt := 42) C dX5_loop_11 (by decide) (fun c_1 => ?_) (fun c_1 => ?_)
  · skip
    have c_1 : true = false := jb_0 c_1
    (first | exact absurd c_1 (by decide) | exact absurd c_1 (by omega) | simp_all)
  · skip
    have c_1 : true = true := jb_1 c_1
    refine j_iload_n 3 C dX5_loop_14 rfl rfl ?_
    refine j_i2l (v := (nI w).toInt64) C dX5_loop_15 rfl ?_
    refine j_lconst (v := 0) C dX5_loop_16 rfl ?_
    refine j_ldc2 (v := 3) C dX5_loop_17 (List.mem_of_getElem? (i := 2) rfl) ?_
    refine j_callRi (v := jb (jIn ((nI w).toInt64) 0 3)) (j_runS (As := [.long ((nI w).toInt64), .long 0, .long 3]) (rest := []) [] C (c_X5_isIn l g ((nI w).toInt64) 0 3) gX5_loop_X5_isIn rfl rfl rfl hd_X5_isIn ⟨Nat.le_of_ble_eq_true rfl, Nat.le_of_ble_eq_true rfl⟩ rfl rfl dX5_loop_20 rfl (Nat.le_of_ble_eq_true rfl) ⟨Nat.le_of_ble_eq_true rfl, Nat.le_of_ble_eq_true rfl⟩) ?_
    refine j_eq (pc' := 23) (L' := [(0, .ref m0), (1, .int (nI k)), (2, .int (nI j)), (3, .int (nI w))]) (st' := [.int (jb (jBt (nI w) 0 3))]) (ws' := [(m0, .inr (4, [.int 0, .int (nI N), .ref tb, .ref md, .ref rw0, .int sz, .ref cs, .ref va, .int lk, .ref rn, .ref kp])), (tb, jaR g 10 (fun i => some (tr i))), (tr k, jaI g 253 (jrw n f))]) ?_ rfl rfl (by rw [jIn_b (nI w) 0 3 _ _ (by decide) (by decide)]) rfl
    refine j_eq (pc' := 23) (L' := [(0, .ref m0), (1, .int (nI k)), (2, .int (nI j)), (3, .int (nI w))]) (st' := [.int (jb true)]) (ws' := [(m0, .inr (4, [.int 0, .int (nI N), .ref tb, .ref md, .ref rw0, .int sz, .ref cs, .ref va, .int lk, .ref rn, .ref kp])), (tb, jaR g 10 (fun i => some (tr i))), (tr k, jaI g 253 (jrw n f))]) ?_ rfl rfl (by rw [(show jBt (nI w) 0 3 = true from jBt_m (N := 3) (by omega) (by omega))]) rfl
    refine j_if_eq (tgt := 42) C dX5_loop_23 (by decide) (fun c_2 => ?_) (fun c_2 => ?_)
    · skip
      have c_2 : true = false := jb_0 c_2
      (first | exact absurd c_2 (by decide) | exact absurd c_2 (by omega) | simp_all)
    · skip
      have c_2 : true = true := jb_1 c_2
      refine j_aload_n 0 C dX5_loop_26 rfl rfl ?_
      refine j_get (Cn := RX5) (T := TX5) (N := 11) 0 2 C dX5_loop_27 hin_X5_loop_X5 rfl rfl (by decide) (List.mem_of_getElem? (i := 3) rfl) rfl ?_
      refine j_iload_n 1 C dX5_loop_30 rfl rfl ?_
      refine j_aldR (x := k) 1 C dX5_loop_31 rfl rfl (by omega) (by decide) ?_
      refine j_eq (pc' := 32) (L' := [(0, .ref m0), (1, .int (nI k)), (2, .int (nI j)), (3, .int (nI w))]) (st' := [.ref (tr k)]) (ws' := [(m0, .inr (4, [.int 0, .int (nI N), .ref tb, .ref md, .ref rw0, .int sz, .ref cs, .ref va, .int lk, .ref rn, .ref kp])), (tb, jaR g 10 (fun i => some (tr i))), (tr k, jaI g 253 (jrw n f))]) ?_ rfl rfl rfl rfl
      refine j_iload_n 2 C dX5_loop_32 rfl rfl ?_
      refine j_callRi (v := nI (1 + 28 * j)) (j_runS (As := [.int (nI j)]) (rest := [.ref (tr k)]) [] C (c_X5_loopAt l g j) gX5_loop_X5_loopAt rfl rfl rfl hd_X5_loopAt ⟨Nat.le_of_ble_eq_true rfl, Nat.le_of_ble_eq_true rfl⟩ rfl rfl dX5_loop_33 rfl (Nat.le_of_ble_eq_true rfl) ⟨Nat.le_of_ble_eq_true rfl, Nat.le_of_ble_eq_true rfl⟩) ?_
      refine j_iload_n 3 C dX5_loop_36 rfl rfl ?_
      refine j_iadd (x := nI (1 + 28 * j)) (y := nI w) (v := nI (1 + 28 * j + w)) C dX5_loop_37 (nI_add (1 + 28 * j) w) ?_
      refine j_ialdR (x := 1 + 28 * j + w) (y := j * 28 + w) 2 C dX5_loop_38 rfl rfl (by omega) (by omega) ?_
      refine j_goto (tgt := 47) C dX5_loop_39 (by decide) ?_
      exact j_iretW (v := f (j * 28 + w)) C hr dX5_loop_47 () rfl rfl
set_option maxHeartbeats 4000000 in
set_option maxRecDepth 100000 in
theorem c_X5_step_p (l : Launch) (g : jG) (m0 : Nat) (th : Int32) (N tb md rw0 : Nat) (sz : Int32) (cs va : Nat) (lk : Int32) (rn kp : Nat) (x y t w : Int32) (hx : jBt x 0 (nI N - 1) = false) : jWi l yX5_step wsX5_step ({ frames := 3, cells := 0, slots := 0, locals := 68 }) g [.ref m0, .int x, .int y, .int t, .int w] [(m0, .inr (4, [.int th, .int (nI N), .ref tb, .ref md, .ref rw0, .int sz, .ref cs, .ref va, .int lk, .ref rn, .ref kp]))] [(m0, .inr (4, [.int 1, .int (nI N), .ref tb, .ref md, .ref rw0, .int sz, .ref cs, .ref va, .int lk, .ref rn, .ref kp]))] 0 := by
  refine j_enterW (Qc := fun sz_ => va_Qi (fun r (_ : Unit) => r = 0) (fun _ t => va_P g.1 vwCl [(m0, .inr (4, [.int 1, .int (nI N), .ref tb, .ref md, .ref rw0, .int sz, .ref cs, .ref va, .int lk, .ref rn, .ref kp]))] t.heap) (va_A [(m0, .inr (4, [.int th, .int (nI N), .ref tb, .ref md, .ref rw0, .int sz, .ref cs, .ref va, .int lk, .ref rn, .ref kp]))] sz_)) (cc := cX5_step) (maxL := 5) (ret := (some .int)) (own := RX5) (L := [(0, .ref m0), (1, .int x), (2, .int y), (3, .int t), (4, .int w)]) (by decide) rfl rfl (Nat.le_of_ble_eq_true rfl) rfl (fun p e s m args below meth c C hr => ?_)
  refine j_aload_n 0 C dX5_step_0 rfl rfl ?_
  refine j_iconst (v := 0) C dX5_step_1 rfl ?_
  refine j_put (Cn := RX5) (T := TX5) (N := 11) (ws' := [(m0, .inr (4, [.int 0, .int (nI N), .ref tb, .ref md, .ref rw0, .int sz, .ref cs, .ref va, .int lk, .ref rn, .ref kp]))]) tyX5 0 0 C dX5_step_2 hin_X5_step_X5 tyX5_ok nmX5 rfl rfl (by decide) (List.mem_of_getElem? (i := 1) rfl) rfl (tyX5_ok 0 (by decide)) rfl rfl (Nat.le_of_ble_eq_true rfl) rfl ?_
  refine j_aload_n 0 C dX5_step_5 rfl rfl ?_
  refine j_iload_n 1 C dX5_step_6 rfl rfl ?_
  refine j_iload_n 2 C dX5_step_7 rfl rfl ?_
  refine j_callRi (v := jb false) (j_runV (ci := 0) (As := [.int x, .int y]) (rest := []) [0] C (c_X5_isLoop_p l g m0 0 N tb md rw0 sz cs va lk rn kp x y (by omega)) gX5_step_X5_isLoop rfl rfl rfl hd_X5_isLoop ⟨Nat.le_of_ble_eq_true rfl, Nat.le_of_ble_eq_true rfl⟩ rfl rfl rfl rfl dX5_step_8 rfl (Nat.le_of_ble_eq_true rfl) ⟨Nat.le_of_ble_eq_true rfl, Nat.le_of_ble_eq_true rfl⟩) ?_
  refine j_if_eq (tgt := 65) C dX5_step_11 (by decide) (fun c_1 => ?_) (fun c_1 => ?_)
  · skip
    have c_1 : false = false := jb_0 c_1
    refine j_aload_n 0 C dX5_step_65 rfl rfl ?_
    refine j_iconst (v := 1) C dX5_step_66 rfl ?_
    refine j_callWi [0] (fun _ => [(m0, .inr (4, [.int 1, .int (nI N), .ref tb, .ref md, .ref rw0, .int sz, .ref cs, .ref va, .int lk, .ref rn, .ref kp]))]) C (j_runV (ci := 0) (As := [.int 1]) (rest := []) [0] C (c_X5_fail l g m0 0 (nI N) tb md rw0 sz cs va lk rn kp 1) gX5_step_X5_fail rfl rfl rfl hd_X5_fail ⟨Nat.le_of_ble_eq_true rfl, Nat.le_of_ble_eq_true rfl⟩ rfl rfl rfl rfl dX5_step_67 rfl (Nat.le_of_ble_eq_true rfl) ⟨Nat.le_of_ble_eq_true rfl, Nat.le_of_ble_eq_true rfl⟩) rfl (fun _ => rfl) (fun _ => rfl) (fun z _ hz => ?_)
    subst hz
    exact j_iretW (v := 0) C hr dX5_step_70 () rfl rfl
  · skip
    have c_1 : false = true := jb_1 c_1
    (first | exact absurd c_1 (by decide) | exact absurd c_1 (by omega) | simp_all)
set_option maxHeartbeats 4000000 in
set_option maxRecDepth 100000 in
theorem c_X5_step_l (l : Launch) (g : jG) (m0 : Nat) (th : Int32) (N tb md rw0 : Nat) (sz : Int32) (cs va : Nat) (lk : Int32) (rn kp : Nat) (tr : Nat → Nat) (k n : Nat) (f : Nat → Int32) (y t w : Int32) (hk : k < N) (hN : N ≤ 10) (hy : jBt y 0 (nI n - 1) = false) : jWi l yX5_step wsX5_step ({ frames := 3, cells := 0, slots := 0, locals := 68 }) g [.ref m0, .int (nI k), .int y, .int t, .int w] [(m0, .inr (4, [.int th, .int (nI N), .ref tb, .ref md, .ref rw0, .int sz, .ref cs, .ref va, .int lk, .ref rn, .ref kp])), (tb, jaR g 10 (fun i => some (tr i))), (tr k, jaI g 253 (jrw n f))] [(m0, .inr (4, [.int 1, .int (nI N), .ref tb, .ref md, .ref rw0, .int sz, .ref cs, .ref va, .int lk, .ref rn, .ref kp])), (tb, jaR g 10 (fun i => some (tr i))), (tr k, jaI g 253 (jrw n f))] 0 := by
  refine j_enterW (Qc := fun sz_ => va_Qi (fun r (_ : Unit) => r = 0) (fun _ t => va_P g.1 vwCl [(m0, .inr (4, [.int 1, .int (nI N), .ref tb, .ref md, .ref rw0, .int sz, .ref cs, .ref va, .int lk, .ref rn, .ref kp])), (tb, jaR g 10 (fun i => some (tr i))), (tr k, jaI g 253 (jrw n f))] t.heap) (va_A [(m0, .inr (4, [.int th, .int (nI N), .ref tb, .ref md, .ref rw0, .int sz, .ref cs, .ref va, .int lk, .ref rn, .ref kp])), (tb, jaR g 10 (fun i => some (tr i))), (tr k, jaI g 253 (jrw n f))] sz_)) (cc := cX5_step) (maxL := 5) (ret := (some .int)) (own := RX5) (L := [(0, .ref m0), (1, .int (nI k)), (2, .int y), (3, .int t), (4, .int w)]) (by decide) rfl rfl (Nat.le_of_ble_eq_true rfl) rfl (fun p e s m args below meth c C hr => ?_)
  refine j_aload_n 0 C dX5_step_0 rfl rfl ?_
  refine j_iconst (v := 0) C dX5_step_1 rfl ?_
  refine j_put (Cn := RX5) (T := TX5) (N := 11) (ws' := [(m0, .inr (4, [.int 0, .int (nI N), .ref tb, .ref md, .ref rw0, .int sz, .ref cs, .ref va, .int lk, .ref rn, .ref kp])), (tb, jaR g 10 (fun i => some (tr i))), (tr k, jaI g 253 (jrw n f))]) tyX5 0 0 C dX5_step_2 hin_X5_step_X5 tyX5_ok nmX5 rfl rfl (by decide) (List.mem_of_getElem? (i := 1) rfl) rfl (tyX5_ok 0 (by decide)) rfl rfl (Nat.le_of_ble_eq_true rfl) rfl ?_
  refine j_aload_n 0 C dX5_step_5 rfl rfl ?_
  refine j_iload_n 1 C dX5_step_6 rfl rfl ?_
  refine j_iload_n 2 C dX5_step_7 rfl rfl ?_
  refine j_callRi (v := jb (jBt y 0 (nI n - 1))) (j_runV (ci := 0) (As := [.int (nI k), .int y]) (rest := []) [0, 1, 2] C (c_X5_isLoop l g m0 0 N tb md rw0 sz cs va lk rn kp tr k n f y (by omega) (by omega)) gX5_step_X5_isLoop rfl rfl rfl hd_X5_isLoop ⟨Nat.le_of_ble_eq_true rfl, Nat.le_of_ble_eq_true rfl⟩ rfl rfl rfl rfl dX5_step_8 rfl (Nat.le_of_ble_eq_true rfl) ⟨Nat.le_of_ble_eq_true rfl, Nat.le_of_ble_eq_true rfl⟩) ?_
  refine j_eq (pc' := 11) (L' := [(0, .ref m0), (1, .int (nI k)), (2, .int y), (3, .int t), (4, .int w)]) (st' := [.int (jb false)]) (ws' := [(m0, .inr (4, [.int 0, .int (nI N), .ref tb, .ref md, .ref rw0, .int sz, .ref cs, .ref va, .int lk, .ref rn, .ref kp])), (tb, jaR g 10 (fun i => some (tr i))), (tr k, jaI g 253 (jrw n f))]) ?_ rfl rfl (by rw [hy]) rfl
  refine j_if_eq (tgt := 65) C dX5_step_11 (by decide) (fun c_1 => ?_) (fun c_1 => ?_)
  · skip
    have c_1 : false = false := jb_0 c_1
    refine j_aload_n 0 C dX5_step_65 rfl rfl ?_
    refine j_iconst (v := 1) C dX5_step_66 rfl ?_
    refine j_callWi [0] (fun _ => [(m0, .inr (4, [.int 1, .int (nI N), .ref tb, .ref md, .ref rw0, .int sz, .ref cs, .ref va, .int lk, .ref rn, .ref kp])), (tb, jaR g 10 (fun i => some (tr i))), (tr k, jaI g 253 (jrw n f))]) C (j_runV (ci := 0) (As := [.int 1]) (rest := []) [0] C (c_X5_fail l g m0 0 (nI N) tb md rw0 sz cs va lk rn kp 1) gX5_step_X5_fail rfl rfl rfl hd_X5_fail ⟨Nat.le_of_ble_eq_true rfl, Nat.le_of_ble_eq_true rfl⟩ rfl rfl rfl rfl dX5_step_67 rfl (Nat.le_of_ble_eq_true rfl) ⟨Nat.le_of_ble_eq_true rfl, Nat.le_of_ble_eq_true rfl⟩) rfl (fun _ => rfl) (fun _ => rfl) (fun z _ hz => ?_)
    subst hz
    exact j_iretW (v := 0) C hr dX5_step_70 () rfl rfl
  · skip
    have c_1 : false = true := jb_1 c_1
    (first | exact absurd c_1 (by decide) | exact absurd c_1 (by omega) | simp_all)
set_option maxHeartbeats 4000000 in
set_option maxRecDepth 100000 in
theorem c_X5_step_t (l : Launch) (g : jG) (m0 : Nat) (th : Int32) (N tb md rw0 : Nat) (sz : Int32) (cs va : Nat) (lk : Int32) (rn kp : Nat) (tr : Nat → Nat) (k n : Nat) (f : Nat → Int32) (j a : Nat) (t w : Int32) (hk : k < N) (hN : N ≤ 10) (hj : j < n) (hn : n ≤ 8) (ha : f (j * 28 + 3) = nI a) (ha6 : a ≤ 6) (ht : jBt t 0 (nI a - 1) = false) : jWi l yX5_step wsX5_step ({ frames := 3, cells := 0, slots := 0, locals := 68 }) g [.ref m0, .int (nI k), .int (nI j), .int t, .int w] [(m0, .inr (4, [.int th, .int (nI N), .ref tb, .ref md, .ref rw0, .int sz, .ref cs, .ref va, .int lk, .ref rn, .ref kp])), (tb, jaR g 10 (fun i => some (tr i))), (tr k, jaI g 253 (jrw n f))] [(m0, .inr (4, [.int 1, .int (nI N), .ref tb, .ref md, .ref rw0, .int sz, .ref cs, .ref va, .int lk, .ref rn, .ref kp])), (tb, jaR g 10 (fun i => some (tr i))), (tr k, jaI g 253 (jrw n f))] 0 := by
  refine j_enterW (Qc := fun sz_ => va_Qi (fun r (_ : Unit) => r = 0) (fun _ t => va_P g.1 vwCl [(m0, .inr (4, [.int 1, .int (nI N), .ref tb, .ref md, .ref rw0, .int sz, .ref cs, .ref va, .int lk, .ref rn, .ref kp])), (tb, jaR g 10 (fun i => some (tr i))), (tr k, jaI g 253 (jrw n f))] t.heap) (va_A [(m0, .inr (4, [.int th, .int (nI N), .ref tb, .ref md, .ref rw0, .int sz, .ref cs, .ref va, .int lk, .ref rn, .ref kp])), (tb, jaR g 10 (fun i => some (tr i))), (tr k, jaI g 253 (jrw n f))] sz_)) (cc := cX5_step) (maxL := 5) (ret := (some .int)) (own := RX5) (L := [(0, .ref m0), (1, .int (nI k)), (2, .int (nI j)), (3, .int t), (4, .int w)]) (by decide) rfl rfl (Nat.le_of_ble_eq_true rfl) rfl (fun p e s m args below meth c C hr => ?_)
  refine j_aload_n 0 C dX5_step_0 rfl rfl ?_
  refine j_iconst (v := 0) C dX5_step_1 rfl ?_
  refine j_put (Cn := RX5) (T := TX5) (N := 11) (ws' := [(m0, .inr (4, [.int 0, .int (nI N), .ref tb, .ref md, .ref rw0, .int sz, .ref cs, .ref va, .int lk, .ref rn, .ref kp])), (tb, jaR g 10 (fun i => some (tr i))), (tr k, jaI g 253 (jrw n f))]) tyX5 0 0 C dX5_step_2 hin_X5_step_X5 tyX5_ok nmX5 rfl rfl (by decide) (List.mem_of_getElem? (i := 1) rfl) rfl (tyX5_ok 0 (by decide)) rfl rfl (Nat.le_of_ble_eq_true rfl) rfl ?_
  refine j_aload_n 0 C dX5_step_5 rfl rfl ?_
  refine j_iload_n 1 C dX5_step_6 rfl rfl ?_
  refine j_iload_n 2 C dX5_step_7 rfl rfl ?_
  refine j_callRi (v := jb (jBt (nI j) 0 (nI n - 1))) (j_runV (ci := 0) (As := [.int (nI k), .int (nI j)]) (rest := []) [0, 1, 2] C (c_X5_isLoop l g m0 0 N tb md rw0 sz cs va lk rn kp tr k n f (nI j) (by omega) (by omega)) gX5_step_X5_isLoop rfl rfl rfl hd_X5_isLoop ⟨Nat.le_of_ble_eq_true rfl, Nat.le_of_ble_eq_true rfl⟩ rfl rfl rfl rfl dX5_step_8 rfl (Nat.le_of_ble_eq_true rfl) ⟨Nat.le_of_ble_eq_true rfl, Nat.le_of_ble_eq_true rfl⟩) ?_
  refine j_eq (pc' := 11) (L' := [(0, .ref m0), (1, .int (nI k)), (2, .int (nI j)), (3, .int t), (4, .int w)]) (st' := [.int (jb true)]) (ws' := [(m0, .inr (4, [.int 0, .int (nI N), .ref tb, .ref md, .ref rw0, .int sz, .ref cs, .ref va, .int lk, .ref rn, .ref kp])), (tb, jaR g 10 (fun i => some (tr i))), (tr k, jaI g 253 (jrw n f))]) ?_ rfl rfl (by rw [jBt_n hj (by omega)]) rfl
  refine j_if_eq (tgt := 65) C dX5_step_11 (by decide) (fun c_1 => ?_) (fun c_1 => ?_)
  · skip
    have c_1 : true = false := jb_0 c_1
    (first | exact absurd c_1 (by decide) | exact absurd c_1 (by omega) | simp_all)
  · skip
    have c_1 : true = true := jb_1 c_1
    refine j_iload_n 3 C dX5_step_14 rfl rfl ?_
    refine j_i2l (v := t.toInt64) C dX5_step_15 rfl ?_
    refine j_lconst (v := 0) C dX5_step_16 rfl ?_
    refine j_aload_n 0 C dX5_step_17 rfl rfl ?_
    refine j_get (Cn := RX5) (T := TX5) (N := 11) 0 2 C dX5_step_18 hin_X5_step_X5 rfl rfl (by decide) (List.mem_of_getElem? (i := 2) rfl) rfl ?_
    refine j_iload_n 1 C dX5_step_21 rfl rfl ?_
    refine j_aldR (x := k) 1 C dX5_step_22 rfl rfl (by omega) (by decide) ?_
    refine j_eq (pc' := 23) (L' := [(0, .ref m0), (1, .int (nI k)), (2, .int (nI j)), (3, .int t), (4, .int w)]) (st' := [.ref (tr k), .long 0, .long t.toInt64]) (ws' := [(m0, .inr (4, [.int 0, .int (nI N), .ref tb, .ref md, .ref rw0, .int sz, .ref cs, .ref va, .int lk, .ref rn, .ref kp])), (tb, jaR g 10 (fun i => some (tr i))), (tr k, jaI g 253 (jrw n f))]) ?_ rfl rfl rfl rfl
    refine j_iload_n 2 C dX5_step_23 rfl rfl ?_
    refine j_callRi (v := f (j * 28 + 3)) (j_runS (As := [.ref (tr k), .int (nI j)]) (rest := [.long 0, .long t.toInt64]) [2] C (c_X5_steps l g (tr k) n f j (by omega)) gX5_step_X5_steps rfl rfl rfl hd_X5_steps ⟨Nat.le_of_ble_eq_true rfl, Nat.le_of_ble_eq_true rfl⟩ rfl rfl dX5_step_24 rfl (Nat.le_of_ble_eq_true rfl) ⟨Nat.le_of_ble_eq_true rfl, Nat.le_of_ble_eq_true rfl⟩) ?_
    refine j_eq (pc' := 27) (L' := [(0, .ref m0), (1, .int (nI k)), (2, .int (nI j)), (3, .int t), (4, .int w)]) (st' := [.int (nI a), .long 0, .long t.toInt64]) (ws' := [(m0, .inr (4, [.int 0, .int (nI N), .ref tb, .ref md, .ref rw0, .int sz, .ref cs, .ref va, .int lk, .ref rn, .ref kp])), (tb, jaR g 10 (fun i => some (tr i))), (tr k, jaI g 253 (jrw n f))]) ?_ rfl rfl (by rw [ha]) rfl
    refine j_iconst (v := 1) C dX5_step_27 rfl ?_
    refine j_isub (x := nI a) (y := 1) (v := nI a - 1) C dX5_step_28 rfl ?_
    refine j_i2l (v := (nI a - 1).toInt64) C dX5_step_29 rfl ?_
    refine j_callRi (v := jb (jIn t.toInt64 0 ((nI a - 1).toInt64))) (j_runS (As := [.long t.toInt64, .long 0, .long ((nI a - 1).toInt64)]) (rest := []) [] C (c_X5_isIn l g t.toInt64 0 ((nI a - 1).toInt64)) gX5_step_X5_isIn rfl rfl rfl hd_X5_isIn ⟨Nat.le_of_ble_eq_true rfl, Nat.le_of_ble_eq_true rfl⟩ rfl rfl dX5_step_30 rfl (Nat.le_of_ble_eq_true rfl) ⟨Nat.le_of_ble_eq_true rfl, Nat.le_of_ble_eq_true rfl⟩) ?_
    refine j_eq (pc' := 33) (L' := [(0, .ref m0), (1, .int (nI k)), (2, .int (nI j)), (3, .int t), (4, .int w)]) (st' := [.int (jb (jBt t 0 (nI a - 1)))]) (ws' := [(m0, .inr (4, [.int 0, .int (nI N), .ref tb, .ref md, .ref rw0, .int sz, .ref cs, .ref va, .int lk, .ref rn, .ref kp])), (tb, jaR g 10 (fun i => some (tr i))), (tr k, jaI g 253 (jrw n f))]) ?_ rfl rfl (by rw [jIn_b t 0 (nI a - 1) _ _ (by decide) rfl]) rfl
    refine j_eq (pc' := 33) (L' := [(0, .ref m0), (1, .int (nI k)), (2, .int (nI j)), (3, .int t), (4, .int w)]) (st' := [.int (jb false)]) (ws' := [(m0, .inr (4, [.int 0, .int (nI N), .ref tb, .ref md, .ref rw0, .int sz, .ref cs, .ref va, .int lk, .ref rn, .ref kp])), (tb, jaR g 10 (fun i => some (tr i))), (tr k, jaI g 253 (jrw n f))]) ?_ rfl rfl (by rw [ht]) rfl
    refine j_if_eq (tgt := 65) C dX5_step_33 (by decide) (fun c_2 => ?_) (fun c_2 => ?_)
    · skip
      have c_2 : false = false := jb_0 c_2
      refine j_aload_n 0 C dX5_step_65 rfl rfl ?_
      refine j_iconst (v := 1) C dX5_step_66 rfl ?_
      refine j_callWi [0] (fun _ => [(m0, .inr (4, [.int 1, .int (nI N), .ref tb, .ref md, .ref rw0, .int sz, .ref cs, .ref va, .int lk, .ref rn, .ref kp])), (tb, jaR g 10 (fun i => some (tr i))), (tr k, jaI g 253 (jrw n f))]) C (j_runV (ci := 0) (As := [.int 1]) (rest := []) [0] C (c_X5_fail l g m0 0 (nI N) tb md rw0 sz cs va lk rn kp 1) gX5_step_X5_fail rfl rfl rfl hd_X5_fail ⟨Nat.le_of_ble_eq_true rfl, Nat.le_of_ble_eq_true rfl⟩ rfl rfl rfl rfl dX5_step_67 rfl (Nat.le_of_ble_eq_true rfl) ⟨Nat.le_of_ble_eq_true rfl, Nat.le_of_ble_eq_true rfl⟩) rfl (fun _ => rfl) (fun _ => rfl) (fun z _ hz => ?_)
      subst hz
      exact j_iretW (v := 0) C hr dX5_step_70 () rfl rfl
    · skip
      have c_2 : false = true := jb_1 c_2
      (first | exact absurd c_2 (by decide) | exact absurd c_2 (by omega) | simp_all)
set_option maxHeartbeats 4000000 in
set_option maxRecDepth 100000 in
theorem c_X5_step_w (l : Launch) (g : jG) (m0 : Nat) (th : Int32) (N tb md rw0 : Nat) (sz : Int32) (cs va : Nat) (lk : Int32) (rn kp : Nat) (tr : Nat → Nat) (k n : Nat) (f : Nat → Int32) (j a t : Nat) (w : Int32) (hk : k < N) (hN : N ≤ 10) (hj : j < n) (hn : n ≤ 8) (ha : f (j * 28 + 3) = nI a) (ha6 : a ≤ 6) (ht : t < a) (hw : jBt w 0 3 = false) : jWi l yX5_step wsX5_step ({ frames := 3, cells := 0, slots := 0, locals := 68 }) g [.ref m0, .int (nI k), .int (nI j), .int (nI t), .int w] [(m0, .inr (4, [.int th, .int (nI N), .ref tb, .ref md, .ref rw0, .int sz, .ref cs, .ref va, .int lk, .ref rn, .ref kp])), (tb, jaR g 10 (fun i => some (tr i))), (tr k, jaI g 253 (jrw n f))] [(m0, .inr (4, [.int 1, .int (nI N), .ref tb, .ref md, .ref rw0, .int sz, .ref cs, .ref va, .int lk, .ref rn, .ref kp])), (tb, jaR g 10 (fun i => some (tr i))), (tr k, jaI g 253 (jrw n f))] 0 := by
  refine j_enterW (Qc := fun sz_ => va_Qi (fun r (_ : Unit) => r = 0) (fun _ t => va_P g.1 vwCl [(m0, .inr (4, [.int 1, .int (nI N), .ref tb, .ref md, .ref rw0, .int sz, .ref cs, .ref va, .int lk, .ref rn, .ref kp])), (tb, jaR g 10 (fun i => some (tr i))), (tr k, jaI g 253 (jrw n f))] t.heap) (va_A [(m0, .inr (4, [.int th, .int (nI N), .ref tb, .ref md, .ref rw0, .int sz, .ref cs, .ref va, .int lk, .ref rn, .ref kp])), (tb, jaR g 10 (fun i => some (tr i))), (tr k, jaI g 253 (jrw n f))] sz_)) (cc := cX5_step) (maxL := 5) (ret := (some .int)) (own := RX5) (L := [(0, .ref m0), (1, .int (nI k)), (2, .int (nI j)), (3, .int (nI t)), (4, .int w)]) (by decide) rfl rfl (Nat.le_of_ble_eq_true rfl) rfl (fun p e s m args below meth c C hr => ?_)
  refine j_aload_n 0 C dX5_step_0 rfl rfl ?_
  refine j_iconst (v := 0) C dX5_step_1 rfl ?_
  refine j_put (Cn := RX5) (T := TX5) (N := 11) (ws' := [(m0, .inr (4, [.int 0, .int (nI N), .ref tb, .ref md, .ref rw0, .int sz, .ref cs, .ref va, .int lk, .ref rn, .ref kp])), (tb, jaR g 10 (fun i => some (tr i))), (tr k, jaI g 253 (jrw n f))]) tyX5 0 0 C dX5_step_2 hin_X5_step_X5 tyX5_ok nmX5 rfl rfl (by decide) (List.mem_of_getElem? (i := 1) rfl) rfl (tyX5_ok 0 (by decide)) rfl rfl (Nat.le_of_ble_eq_true rfl) rfl ?_
  refine j_aload_n 0 C dX5_step_5 rfl rfl ?_
  refine j_iload_n 1 C dX5_step_6 rfl rfl ?_
  refine j_iload_n 2 C dX5_step_7 rfl rfl ?_
  refine j_callRi (v := jb (jBt (nI j) 0 (nI n - 1))) (j_runV (ci := 0) (As := [.int (nI k), .int (nI j)]) (rest := []) [0, 1, 2] C (c_X5_isLoop l g m0 0 N tb md rw0 sz cs va lk rn kp tr k n f (nI j) (by omega) (by omega)) gX5_step_X5_isLoop rfl rfl rfl hd_X5_isLoop ⟨Nat.le_of_ble_eq_true rfl, Nat.le_of_ble_eq_true rfl⟩ rfl rfl rfl rfl dX5_step_8 rfl (Nat.le_of_ble_eq_true rfl) ⟨Nat.le_of_ble_eq_true rfl, Nat.le_of_ble_eq_true rfl⟩) ?_
  refine j_eq (pc' := 11) (L' := [(0, .ref m0), (1, .int (nI k)), (2, .int (nI j)), (3, .int (nI t)), (4, .int w)]) (st' := [.int (jb true)]) (ws' := [(m0, .inr (4, [.int 0, .int (nI N), .ref tb, .ref md, .ref rw0, .int sz, .ref cs, .ref va, .int lk, .ref rn, .ref kp])), (tb, jaR g 10 (fun i => some (tr i))), (tr k, jaI g 253 (jrw n f))]) ?_ rfl rfl (by rw [jBt_n hj (by omega)]) rfl
  refine j_if_eq (tgt := 65) C dX5_step_11 (by decide) (fun c_1 => ?_) (fun c_1 => ?_)
  · skip
    have c_1 : true = false := jb_0 c_1
    (first | exact absurd c_1 (by decide) | exact absurd c_1 (by omega) | simp_all)
  · skip
    have c_1 : true = true := jb_1 c_1
    refine j_iload_n 3 C dX5_step_14 rfl rfl ?_
    refine j_i2l (v := (nI t).toInt64) C dX5_step_15 rfl ?_
    refine j_lconst (v := 0) C dX5_step_16 rfl ?_
    refine j_aload_n 0 C dX5_step_17 rfl rfl ?_
    refine j_get (Cn := RX5) (T := TX5) (N := 11) 0 2 C dX5_step_18 hin_X5_step_X5 rfl rfl (by decide) (List.mem_of_getElem? (i := 2) rfl) rfl ?_
    refine j_iload_n 1 C dX5_step_21 rfl rfl ?_
    refine j_aldR (x := k) 1 C dX5_step_22 rfl rfl (by omega) (by decide) ?_
    refine j_eq (pc' := 23) (L' := [(0, .ref m0), (1, .int (nI k)), (2, .int (nI j)), (3, .int (nI t)), (4, .int w)]) (st' := [.ref (tr k), .long 0, .long ((nI t).toInt64)]) (ws' := [(m0, .inr (4, [.int 0, .int (nI N), .ref tb, .ref md, .ref rw0, .int sz, .ref cs, .ref va, .int lk, .ref rn, .ref kp])), (tb, jaR g 10 (fun i => some (tr i))), (tr k, jaI g 253 (jrw n f))]) ?_ rfl rfl rfl rfl
    refine j_iload_n 2 C dX5_step_23 rfl rfl ?_
    refine j_callRi (v := f (j * 28 + 3)) (j_runS (As := [.ref (tr k), .int (nI j)]) (rest := [.long 0, .long ((nI t).toInt64)]) [2] C (c_X5_steps l g (tr k) n f j (by omega)) gX5_step_X5_steps rfl rfl rfl hd_X5_steps ⟨Nat.le_of_ble_eq_true rfl, Nat.le_of_ble_eq_true rfl⟩ rfl rfl dX5_step_24 rfl (Nat.le_of_ble_eq_true rfl) ⟨Nat.le_of_ble_eq_true rfl, Nat.le_of_ble_eq_true rfl⟩) ?_
    refine j_eq (pc' := 27) (L' := [(0, .ref m0), (1, .int (nI k)), (2, .int (nI j)), (3, .int (nI t)), (4, .int w)]) (st' := [.int (nI a), .long 0, .long ((nI t).toInt64)]) (ws' := [(m0, .inr (4, [.int 0, .int (nI N), .ref tb, .ref md, .ref rw0, .int sz, .ref cs, .ref va, .int lk, .ref rn, .ref kp])), (tb, jaR g 10 (fun i => some (tr i))), (tr k, jaI g 253 (jrw n f))]) ?_ rfl rfl (by rw [ha]) rfl
    refine j_iconst (v := 1) C dX5_step_27 rfl ?_
    refine j_isub (x := nI a) (y := 1) (v := nI a - 1) C dX5_step_28 rfl ?_
    refine j_i2l (v := (nI a - 1).toInt64) C dX5_step_29 rfl ?_
    refine j_callRi (v := jb (jIn ((nI t).toInt64) 0 ((nI a - 1).toInt64))) (j_runS (As := [.long ((nI t).toInt64), .long 0, .long ((nI a - 1).toInt64)]) (rest := []) [] C (c_X5_isIn l g ((nI t).toInt64) 0 ((nI a - 1).toInt64)) gX5_step_X5_isIn rfl rfl rfl hd_X5_isIn ⟨Nat.le_of_ble_eq_true rfl, Nat.le_of_ble_eq_true rfl⟩ rfl rfl dX5_step_30 rfl (Nat.le_of_ble_eq_true rfl) ⟨Nat.le_of_ble_eq_true rfl, Nat.le_of_ble_eq_true rfl⟩) ?_
    refine j_eq (pc' := 33) (L' := [(0, .ref m0), (1, .int (nI k)), (2, .int (nI j)), (3, .int (nI t)), (4, .int w)]) (st' := [.int (jb (jBt (nI t) 0 (nI a - 1)))]) (ws' := [(m0, .inr (4, [.int 0, .int (nI N), .ref tb, .ref md, .ref rw0, .int sz, .ref cs, .ref va, .int lk, .ref rn, .ref kp])), (tb, jaR g 10 (fun i => some (tr i))), (tr k, jaI g 253 (jrw n f))]) ?_ rfl rfl (by rw [jIn_b (nI t) 0 (nI a - 1) _ _ (by decide) rfl]) rfl
    refine j_eq (pc' := 33) (L' := [(0, .ref m0), (1, .int (nI k)), (2, .int (nI j)), (3, .int (nI t)), (4, .int w)]) (st' := [.int (jb true)]) (ws' := [(m0, .inr (4, [.int 0, .int (nI N), .ref tb, .ref md, .ref rw0, .int sz, .ref cs, .ref va, .int lk, .ref rn, .ref kp])), (tb, jaR g 10 (fun i => some (tr i))), (tr k, jaI g 253 (jrw n f))]) ?_ rfl rfl (by rw [jBt_n ht (by omega)]) rfl
    refine j_if_eq (tgt := 65) C dX5_step_33 (by decide) (fun c_2 => ?_) (fun c_2 => ?_)
    · skip
      have c_2 : true = false := jb_0 c_2
      (first | exact absurd c_2 (by decide) | exact absurd c_2 (by omega) | simp_all)
    · skip
      have c_2 : true = true := jb_1 c_2
      refine j_iload 4 C dX5_step_36 rfl ?_
      refine j_i2l (v := w.toInt64) C dX5_step_38 rfl ?_
      refine j_lconst (v := 0) C dX5_step_39 rfl ?_
      refine j_ldc2 (v := 3) C dX5_step_40 (List.mem_of_getElem? (i := 3) rfl) ?_
      refine j_callRi (v := jb (jIn w.toInt64 0 3)) (j_runS (As := [.long w.toInt64, .long 0, .long 3]) (rest := []) [] C (c_X5_isIn l g w.toInt64 0 3) gX5_step_X5_isIn rfl rfl rfl hd_X5_isIn ⟨Nat.le_of_ble_eq_true rfl, Nat.le_of_ble_eq_true rfl⟩ rfl rfl dX5_step_43 rfl (Nat.le_of_ble_eq_true rfl) ⟨Nat.le_of_ble_eq_true rfl, Nat.le_of_ble_eq_true rfl⟩) ?_
      refine j_eq (pc' := 46) (L' := [(0, .ref m0), (1, .int (nI k)), (2, .int (nI j)), (3, .int (nI t)), (4, .int w)]) (st' := [.int (jb (jBt w 0 3))]) (ws' := [(m0, .inr (4, [.int 0, .int (nI N), .ref tb, .ref md, .ref rw0, .int sz, .ref cs, .ref va, .int lk, .ref rn, .ref kp])), (tb, jaR g 10 (fun i => some (tr i))), (tr k, jaI g 253 (jrw n f))]) ?_ rfl rfl (by rw [jIn_b w 0 3 _ _ (by decide) (by decide)]) rfl
      refine j_eq (pc' := 46) (L' := [(0, .ref m0), (1, .int (nI k)), (2, .int (nI j)), (3, .int (nI t)), (4, .int w)]) (st' := [.int (jb false)]) (ws' := [(m0, .inr (4, [.int 0, .int (nI N), .ref tb, .ref md, .ref rw0, .int sz, .ref cs, .ref va, .int lk, .ref rn, .ref kp])), (tb, jaR g 10 (fun i => some (tr i))), (tr k, jaI g 253 (jrw n f))]) ?_ rfl rfl (by rw [hw]) rfl
      refine j_if_eq (tgt := 65) C dX5_step_46 (by decide) (fun c_3 => ?_) (fun c_3 => ?_)
      · skip
        have c_3 : false = false := jb_0 c_3
        refine j_aload_n 0 C dX5_step_65 rfl rfl ?_
        refine j_iconst (v := 1) C dX5_step_66 rfl ?_
        refine j_callWi [0] (fun _ => [(m0, .inr (4, [.int 1, .int (nI N), .ref tb, .ref md, .ref rw0, .int sz, .ref cs, .ref va, .int lk, .ref rn, .ref kp])), (tb, jaR g 10 (fun i => some (tr i))), (tr k, jaI g 253 (jrw n f))]) C (j_runV (ci := 0) (As := [.int 1]) (rest := []) [0] C (c_X5_fail l g m0 0 (nI N) tb md rw0 sz cs va lk rn kp 1) gX5_step_X5_fail rfl rfl rfl hd_X5_fail ⟨Nat.le_of_ble_eq_true rfl, Nat.le_of_ble_eq_true rfl⟩ rfl rfl rfl rfl dX5_step_67 rfl (Nat.le_of_ble_eq_true rfl) ⟨Nat.le_of_ble_eq_true rfl, Nat.le_of_ble_eq_true rfl⟩) rfl (fun _ => rfl) (fun _ => rfl) (fun z _ hz => ?_)
        subst hz
        exact j_iretW (v := 0) C hr dX5_step_70 () rfl rfl
      · skip
        have c_3 : false = true := jb_1 c_3
        (first | exact absurd c_3 (by decide) | exact absurd c_3 (by omega) | simp_all)
set_option maxHeartbeats 4000000 in
set_option maxRecDepth 100000 in
theorem c_X5_step (l : Launch) (g : jG) (m0 : Nat) (th : Int32) (N tb md rw0 : Nat) (sz : Int32) (cs va : Nat) (lk : Int32) (rn kp : Nat) (tr : Nat → Nat) (k n : Nat) (f : Nat → Int32) (j a t w : Nat) (hk : k < N) (hN : N ≤ 10) (hj : j < n) (hn : n ≤ 8) (ha : f (j * 28 + 3) = nI a) (ha6 : a ≤ 6) (ht : t < a) (hw : w < 4) : jWi l yX5_step wsX5_step ({ frames := 3, cells := 0, slots := 0, locals := 68 }) g [.ref m0, .int (nI k), .int (nI j), .int (nI t), .int (nI w)] [(m0, .inr (4, [.int th, .int (nI N), .ref tb, .ref md, .ref rw0, .int sz, .ref cs, .ref va, .int lk, .ref rn, .ref kp])), (tb, jaR g 10 (fun i => some (tr i))), (tr k, jaI g 253 (jrw n f))] [(m0, .inr (4, [.int 0, .int (nI N), .ref tb, .ref md, .ref rw0, .int sz, .ref cs, .ref va, .int lk, .ref rn, .ref kp])), (tb, jaR g 10 (fun i => some (tr i))), (tr k, jaI g 253 (jrw n f))] (f (j * 28 + 4 + t * 4 + w)) := by
  refine j_enterW (Qc := fun sz_ => va_Qi (fun r (_ : Unit) => r = f (j * 28 + 4 + t * 4 + w)) (fun _ t => va_P g.1 vwCl [(m0, .inr (4, [.int 0, .int (nI N), .ref tb, .ref md, .ref rw0, .int sz, .ref cs, .ref va, .int lk, .ref rn, .ref kp])), (tb, jaR g 10 (fun i => some (tr i))), (tr k, jaI g 253 (jrw n f))] t.heap) (va_A [(m0, .inr (4, [.int th, .int (nI N), .ref tb, .ref md, .ref rw0, .int sz, .ref cs, .ref va, .int lk, .ref rn, .ref kp])), (tb, jaR g 10 (fun i => some (tr i))), (tr k, jaI g 253 (jrw n f))] sz_)) (cc := cX5_step) (maxL := 5) (ret := (some .int)) (own := RX5) (L := [(0, .ref m0), (1, .int (nI k)), (2, .int (nI j)), (3, .int (nI t)), (4, .int (nI w))]) (by decide) rfl rfl (Nat.le_of_ble_eq_true rfl) rfl (fun p e s m args below meth c C hr => ?_)
  refine j_aload_n 0 C dX5_step_0 rfl rfl ?_
  refine j_iconst (v := 0) C dX5_step_1 rfl ?_
  refine j_put (Cn := RX5) (T := TX5) (N := 11) (ws' := [(m0, .inr (4, [.int 0, .int (nI N), .ref tb, .ref md, .ref rw0, .int sz, .ref cs, .ref va, .int lk, .ref rn, .ref kp])), (tb, jaR g 10 (fun i => some (tr i))), (tr k, jaI g 253 (jrw n f))]) tyX5 0 0 C dX5_step_2 hin_X5_step_X5 tyX5_ok nmX5 rfl rfl (by decide) (List.mem_of_getElem? (i := 1) rfl) rfl (tyX5_ok 0 (by decide)) rfl rfl (Nat.le_of_ble_eq_true rfl) rfl ?_
  refine j_aload_n 0 C dX5_step_5 rfl rfl ?_
  refine j_iload_n 1 C dX5_step_6 rfl rfl ?_
  refine j_iload_n 2 C dX5_step_7 rfl rfl ?_
  refine j_callRi (v := jb (jBt (nI j) 0 (nI n - 1))) (j_runV (ci := 0) (As := [.int (nI k), .int (nI j)]) (rest := []) [0, 1, 2] C (c_X5_isLoop l g m0 0 N tb md rw0 sz cs va lk rn kp tr k n f (nI j) (by omega) (by omega)) gX5_step_X5_isLoop rfl rfl rfl hd_X5_isLoop ⟨Nat.le_of_ble_eq_true rfl, Nat.le_of_ble_eq_true rfl⟩ rfl rfl rfl rfl dX5_step_8 rfl (Nat.le_of_ble_eq_true rfl) ⟨Nat.le_of_ble_eq_true rfl, Nat.le_of_ble_eq_true rfl⟩) ?_
  refine j_eq (pc' := 11) (L' := [(0, .ref m0), (1, .int (nI k)), (2, .int (nI j)), (3, .int (nI t)), (4, .int (nI w))]) (st' := [.int (jb true)]) (ws' := [(m0, .inr (4, [.int 0, .int (nI N), .ref tb, .ref md, .ref rw0, .int sz, .ref cs, .ref va, .int lk, .ref rn, .ref kp])), (tb, jaR g 10 (fun i => some (tr i))), (tr k, jaI g 253 (jrw n f))]) ?_ rfl rfl (by rw [jBt_n hj (by omega)]) rfl
  refine j_if_eq (tgt := 65) C dX5_step_11 (by decide) (fun c_1 => ?_) (fun c_1 => ?_)
  · skip
    have c_1 : true = false := jb_0 c_1
    (first | exact absurd c_1 (by decide) | exact absurd c_1 (by omega) | simp_all)
  · skip
    have c_1 : true = true := jb_1 c_1
    refine j_iload_n 3 C dX5_step_14 rfl rfl ?_
    refine j_i2l (v := (nI t).toInt64) C dX5_step_15 rfl ?_
    refine j_lconst (v := 0) C dX5_step_16 rfl ?_
    refine j_aload_n 0 C dX5_step_17 rfl rfl ?_
    refine j_get (Cn := RX5) (T := TX5) (N := 11) 0 2 C dX5_step_18 hin_X5_step_X5 rfl rfl (by decide) (List.mem_of_getElem? (i := 2) rfl) rfl ?_
    refine j_iload_n 1 C dX5_step_21 rfl rfl ?_
    refine j_aldR (x := k) 1 C dX5_step_22 rfl rfl (by omega) (by decide) ?_
    refine j_eq (pc' := 23) (L' := [(0, .ref m0), (1, .int (nI k)), (2, .int (nI j)), (3, .int (nI t)), (4, .int (nI w))]) (st' := [.ref (tr k), .long 0, .long ((nI t).toInt64)]) (ws' := [(m0, .inr (4, [.int 0, .int (nI N), .ref tb, .ref md, .ref rw0, .int sz, .ref cs, .ref va, .int lk, .ref rn, .ref kp])), (tb, jaR g 10 (fun i => some (tr i))), (tr k, jaI g 253 (jrw n f))]) ?_ rfl rfl rfl rfl
    refine j_iload_n 2 C dX5_step_23 rfl rfl ?_
    refine j_callRi (v := f (j * 28 + 3)) (j_runS (As := [.ref (tr k), .int (nI j)]) (rest := [.long 0, .long ((nI t).toInt64)]) [2] C (c_X5_steps l g (tr k) n f j (by omega)) gX5_step_X5_steps rfl rfl rfl hd_X5_steps ⟨Nat.le_of_ble_eq_true rfl, Nat.le_of_ble_eq_true rfl⟩ rfl rfl dX5_step_24 rfl (Nat.le_of_ble_eq_true rfl) ⟨Nat.le_of_ble_eq_true rfl, Nat.le_of_ble_eq_true rfl⟩) ?_
    refine j_eq (pc' := 27) (L' := [(0, .ref m0), (1, .int (nI k)), (2, .int (nI j)), (3, .int (nI t)), (4, .int (nI w))]) (st' := [.int (nI a), .long 0, .long ((nI t).toInt64)]) (ws' := [(m0, .inr (4, [.int 0, .int (nI N), .ref tb, .ref md, .ref rw0, .int sz, .ref cs, .ref va, .int lk, .ref rn, .ref kp])), (tb, jaR g 10 (fun i => some (tr i))), (tr k, jaI g 253 (jrw n f))]) ?_ rfl rfl (by rw [ha]) rfl
    refine j_iconst (v := 1) C dX5_step_27 rfl ?_
    refine j_isub (x := nI a) (y := 1) (v := nI a - 1) C dX5_step_28 rfl ?_
    refine j_i2l (v := (nI a - 1).toInt64) C dX5_step_29 rfl ?_
    refine j_callRi (v := jb (jIn ((nI t).toInt64) 0 ((nI a - 1).toInt64))) (j_runS (As := [.long ((nI t).toInt64), .long 0, .long ((nI a - 1).toInt64)]) (rest := []) [] C (c_X5_isIn l g ((nI t).toInt64) 0 ((nI a - 1).toInt64)) gX5_step_X5_isIn rfl rfl rfl hd_X5_isIn ⟨Nat.le_of_ble_eq_true rfl, Nat.le_of_ble_eq_true rfl⟩ rfl rfl dX5_step_30 rfl (Nat.le_of_ble_eq_true rfl) ⟨Nat.le_of_ble_eq_true rfl, Nat.le_of_ble_eq_true rfl⟩) ?_
    refine j_eq (pc' := 33) (L' := [(0, .ref m0), (1, .int (nI k)), (2, .int (nI j)), (3, .int (nI t)), (4, .int (nI w))]) (st' := [.int (jb (jBt (nI t) 0 (nI a - 1)))]) (ws' := [(m0, .inr (4, [.int 0, .int (nI N), .ref tb, .ref md, .ref rw0, .int sz, .ref cs, .ref va, .int lk, .ref rn, .ref kp])), (tb, jaR g 10 (fun i => some (tr i))), (tr k, jaI g 253 (jrw n f))]) ?_ rfl rfl (by rw [jIn_b (nI t) 0 (nI a - 1) _ _ (by decide) rfl]) rfl
    refine j_eq (pc' := 33) (L' := [(0, .ref m0), (1, .int (nI k)), (2, .int (nI j)), (3, .int (nI t)), (4, .int (nI w))]) (st' := [.int (jb true)]) (ws' := [(m0, .inr (4, [.int 0, .int (nI N), .ref tb, .ref md, .ref rw0, .int sz, .ref cs, .ref va, .int lk, .ref rn, .ref kp])), (tb, jaR g 10 (fun i => some (tr i))), (tr k, jaI g 253 (jrw n f))]) ?_ rfl rfl (by rw [jBt_n ht (by omega)]) rfl
    refine j_if_eq (tgt := 65) C dX5_step_33 (by decide) (fun c_2 => ?_) (fun c_2 => ?_)
    · skip
      have c_2 : true = false := jb_0 c_2
      (first | exact absurd c_2 (by decide) | exact absurd c_2 (by omega) | simp_all)
    · skip
      have c_2 : true = true := jb_1 c_2
      refine j_iload 4 C dX5_step_36 rfl ?_
      refine j_i2l (v := (nI w).toInt64) C dX5_step_38 rfl ?_
      refine j_lconst (v := 0) C dX5_step_39 rfl ?_
      refine j_ldc2 (v := 3) C dX5_step_40 (List.mem_of_getElem? (i := 3) rfl) ?_
      refine j_callRi (v := jb (jIn ((nI w).toInt64) 0 3)) (j_runS (As := [.long ((nI w).toInt64), .long 0, .long 3]) (rest := []) [] C (c_X5_isIn l g ((nI w).toInt64) 0 3) gX5_step_X5_isIn rfl rfl rfl hd_X5_isIn ⟨Nat.le_of_ble_eq_true rfl, Nat.le_of_ble_eq_true rfl⟩ rfl rfl dX5_step_43 rfl (Nat.le_of_ble_eq_true rfl) ⟨Nat.le_of_ble_eq_true rfl, Nat.le_of_ble_eq_true rfl⟩) ?_
      refine j_eq (pc' := 46) (L' := [(0, .ref m0), (1, .int (nI k)), (2, .int (nI j)), (3, .int (nI t)), (4, .int (nI w))]) (st' := [.int (jb (jBt (nI w) 0 3))]) (ws' := [(m0, .inr (4, [.int 0, .int (nI N), .ref tb, .ref md, .ref rw0, .int sz, .ref cs, .ref va, .int lk, .ref rn, .ref kp])), (tb, jaR g 10 (fun i => some (tr i))), (tr k, jaI g 253 (jrw n f))]) ?_ rfl rfl (by rw [jIn_b (nI w) 0 3 _ _ (by decide) (by decide)]) rfl
      refine j_eq (pc' := 46) (L' := [(0, .ref m0), (1, .int (nI k)), (2, .int (nI j)), (3, .int (nI t)), (4, .int (nI w))]) (st' := [.int (jb true)]) (ws' := [(m0, .inr (4, [.int 0, .int (nI N), .ref tb, .ref md, .ref rw0, .int sz, .ref cs, .ref va, .int lk, .ref rn, .ref kp])), (tb, jaR g 10 (fun i => some (tr i))), (tr k, jaI g 253 (jrw n f))]) ?_ rfl rfl (by rw [(show jBt (nI w) 0 3 = true from jBt_m (N := 3) (by omega) (by omega))]) rfl
      refine j_if_eq (tgt := 65) C dX5_step_46 (by decide) (fun c_3 => ?_) (fun c_3 => ?_)
      · skip
        have c_3 : true = false := jb_0 c_3
        (first | exact absurd c_3 (by decide) | exact absurd c_3 (by omega) | simp_all)
      · skip
        have c_3 : true = true := jb_1 c_3
        refine j_aload_n 0 C dX5_step_49 rfl rfl ?_
        refine j_get (Cn := RX5) (T := TX5) (N := 11) 0 2 C dX5_step_50 hin_X5_step_X5 rfl rfl (by decide) (List.mem_of_getElem? (i := 2) rfl) rfl ?_
        refine j_iload_n 1 C dX5_step_53 rfl rfl ?_
        refine j_aldR (x := k) 1 C dX5_step_54 rfl rfl (by omega) (by decide) ?_
        refine j_eq (pc' := 55) (L' := [(0, .ref m0), (1, .int (nI k)), (2, .int (nI j)), (3, .int (nI t)), (4, .int (nI w))]) (st' := [.ref (tr k)]) (ws' := [(m0, .inr (4, [.int 0, .int (nI N), .ref tb, .ref md, .ref rw0, .int sz, .ref cs, .ref va, .int lk, .ref rn, .ref kp])), (tb, jaR g 10 (fun i => some (tr i))), (tr k, jaI g 253 (jrw n f))]) ?_ rfl rfl rfl rfl
        refine j_iload_n 2 C dX5_step_55 rfl rfl ?_
        refine j_iload_n 3 C dX5_step_56 rfl rfl ?_
        refine j_iload 4 C dX5_step_57 rfl ?_
        refine j_callRi (v := f (j * 28 + 4 + t * 4 + w)) (j_runS (As := [.ref (tr k), .int (nI j), .int (nI t), .int (nI w)]) (rest := []) [2] C (c_X5_get l g (tr k) n f j t w (by omega)) gX5_step_X5_get rfl rfl rfl hd_X5_get ⟨Nat.le_of_ble_eq_true rfl, Nat.le_of_ble_eq_true rfl⟩ rfl rfl dX5_step_59 rfl (Nat.le_of_ble_eq_true rfl) ⟨Nat.le_of_ble_eq_true rfl, Nat.le_of_ble_eq_true rfl⟩) ?_
        refine j_goto (tgt := 70) C dX5_step_62 (by decide) ?_
        exact j_iretW (v := f (j * 28 + 4 + t * 4 + w)) C hr dX5_step_70 () rfl rfl
set_option maxHeartbeats 4000000 in
set_option maxRecDepth 100000 in
theorem c_X5_programs (l : Launch) (g : jG) (m0 : Nat) (th np : Int32) (tb md rw0 : Nat) (sz : Int32) (cs va : Nat) (lk : Int32) (rn kp : Nat)  : jWi l yX5_programs wsX5_programs ({ frames := 0, cells := 0, slots := 0, locals := 0 }) g [.ref m0] [(m0, .inr (4, [.int th, .int np, .ref tb, .ref md, .ref rw0, .int sz, .ref cs, .ref va, .int lk, .ref rn, .ref kp]))] [(m0, .inr (4, [.int 0, .int np, .ref tb, .ref md, .ref rw0, .int sz, .ref cs, .ref va, .int lk, .ref rn, .ref kp]))] np := by
  refine j_enterW (Qc := fun sz_ => va_Qi (fun r (_ : Unit) => r = np) (fun _ t => va_P g.1 vwCl [(m0, .inr (4, [.int 0, .int np, .ref tb, .ref md, .ref rw0, .int sz, .ref cs, .ref va, .int lk, .ref rn, .ref kp]))] t.heap) (va_A [(m0, .inr (4, [.int th, .int np, .ref tb, .ref md, .ref rw0, .int sz, .ref cs, .ref va, .int lk, .ref rn, .ref kp]))] sz_)) (cc := cX5_programs) (maxL := 1) (ret := (some .int)) (own := RX5) (L := [(0, .ref m0)]) (by decide) rfl rfl (Nat.le_of_ble_eq_true rfl) rfl (fun p e s m args below meth c C hr => ?_)
  refine j_aload_n 0 C dX5_programs_0 rfl rfl ?_
  refine j_iconst (v := 0) C dX5_programs_1 rfl ?_
  refine j_put (Cn := RX5) (T := TX5) (N := 11) (ws' := [(m0, .inr (4, [.int 0, .int np, .ref tb, .ref md, .ref rw0, .int sz, .ref cs, .ref va, .int lk, .ref rn, .ref kp]))]) tyX5 0 0 C dX5_programs_2 hin_X5_programs_X5 tyX5_ok nmX5 rfl rfl (by decide) (List.mem_of_getElem? (i := 1) rfl) rfl (tyX5_ok 0 (by decide)) rfl rfl (Nat.le_of_ble_eq_true rfl) rfl ?_
  refine j_aload_n 0 C dX5_programs_5 rfl rfl ?_
  refine j_get (Cn := RX5) (T := TX5) (N := 11) 0 1 C dX5_programs_6 hin_X5_programs_X5 rfl rfl (by decide) (List.mem_of_getElem? (i := 2) rfl) rfl ?_
  exact j_iretW (v := np) C hr dX5_programs_9 () rfl rfl
set_option maxHeartbeats 4000000 in
set_option maxRecDepth 100000 in
theorem c_X5_loops_p (l : Launch) (g : jG) (m0 : Nat) (th : Int32) (N tb md rw0 : Nat) (sz : Int32) (cs va : Nat) (lk : Int32) (rn kp : Nat) (x : Int32) (hx : jBt x 0 (nI N - 1) = false) : jWi l yX5_loops wsX5_loops ({ frames := 2, cells := 0, slots := 0, locals := 46 }) g [.ref m0, .int x] [(m0, .inr (4, [.int th, .int (nI N), .ref tb, .ref md, .ref rw0, .int sz, .ref cs, .ref va, .int lk, .ref rn, .ref kp]))] [(m0, .inr (4, [.int 1, .int (nI N), .ref tb, .ref md, .ref rw0, .int sz, .ref cs, .ref va, .int lk, .ref rn, .ref kp]))] 0 := by
  refine j_enterW (Qc := fun sz_ => va_Qi (fun r (_ : Unit) => r = 0) (fun _ t => va_P g.1 vwCl [(m0, .inr (4, [.int 1, .int (nI N), .ref tb, .ref md, .ref rw0, .int sz, .ref cs, .ref va, .int lk, .ref rn, .ref kp]))] t.heap) (va_A [(m0, .inr (4, [.int th, .int (nI N), .ref tb, .ref md, .ref rw0, .int sz, .ref cs, .ref va, .int lk, .ref rn, .ref kp]))] sz_)) (cc := cX5_loops) (maxL := 2) (ret := (some .int)) (own := RX5) (L := [(0, .ref m0), (1, .int x)]) (by decide) rfl rfl (Nat.le_of_ble_eq_true rfl) rfl (fun p e s m args below meth c C hr => ?_)
  refine j_aload_n 0 C dX5_loops_0 rfl rfl ?_
  refine j_iconst (v := 0) C dX5_loops_1 rfl ?_
  refine j_put (Cn := RX5) (T := TX5) (N := 11) (ws' := [(m0, .inr (4, [.int 0, .int (nI N), .ref tb, .ref md, .ref rw0, .int sz, .ref cs, .ref va, .int lk, .ref rn, .ref kp]))]) tyX5 0 0 C dX5_loops_2 hin_X5_loops_X5 tyX5_ok nmX5 rfl rfl (by decide) (List.mem_of_getElem? (i := 1) rfl) rfl (tyX5_ok 0 (by decide)) rfl rfl (Nat.le_of_ble_eq_true rfl) rfl ?_
  refine j_aload_n 0 C dX5_loops_5 rfl rfl ?_
  refine j_iload_n 1 C dX5_loops_6 rfl rfl ?_
  refine j_callRi (v := jb (jBt x 0 ((nI N) - 1))) (j_runV (ci := 0) (As := [.int x]) (rest := []) [0] C (c_X5_isProgram l g m0 0 (nI N) tb md rw0 sz cs va lk rn kp x) gX5_loops_X5_isProgram rfl rfl rfl hd_X5_isProgram ⟨Nat.le_of_ble_eq_true rfl, Nat.le_of_ble_eq_true rfl⟩ rfl rfl rfl rfl dX5_loops_7 rfl (Nat.le_of_ble_eq_true rfl) ⟨Nat.le_of_ble_eq_true rfl, Nat.le_of_ble_eq_true rfl⟩) ?_
  refine j_eq (pc' := 10) (L' := [(0, .ref m0), (1, .int x)]) (st' := [.int (jb false)]) (ws' := [(m0, .inr (4, [.int 0, .int (nI N), .ref tb, .ref md, .ref rw0, .int sz, .ref cs, .ref va, .int lk, .ref rn, .ref kp]))]) ?_ rfl rfl (by rw [hx]) rfl
  refine j_if_eq (tgt := 24) C dX5_loops_10 (by decide) (fun c_1 => ?_) (fun c_1 => ?_)
  · skip
    have c_1 : false = false := jb_0 c_1
    refine j_aload_n 0 C dX5_loops_24 rfl rfl ?_
    refine j_iconst (v := 1) C dX5_loops_25 rfl ?_
    refine j_callWi [0] (fun _ => [(m0, .inr (4, [.int 1, .int (nI N), .ref tb, .ref md, .ref rw0, .int sz, .ref cs, .ref va, .int lk, .ref rn, .ref kp]))]) C (j_runV (ci := 0) (As := [.int 1]) (rest := []) [0] C (c_X5_fail l g m0 0 (nI N) tb md rw0 sz cs va lk rn kp 1) gX5_loops_X5_fail rfl rfl rfl hd_X5_fail ⟨Nat.le_of_ble_eq_true rfl, Nat.le_of_ble_eq_true rfl⟩ rfl rfl rfl rfl dX5_loops_26 rfl (Nat.le_of_ble_eq_true rfl) ⟨Nat.le_of_ble_eq_true rfl, Nat.le_of_ble_eq_true rfl⟩) rfl (fun _ => rfl) (fun _ => rfl) (fun z _ hz => ?_)
    subst hz
    exact j_iretW (v := 0) C hr dX5_loops_29 () rfl rfl
  · skip
    have c_1 : false = true := jb_1 c_1
    (first | exact absurd c_1 (by decide) | exact absurd c_1 (by omega) | simp_all)
set_option maxHeartbeats 4000000 in
set_option maxRecDepth 100000 in
theorem c_X5_loops (l : Launch) (g : jG) (m0 : Nat) (th : Int32) (N tb md rw0 : Nat) (sz : Int32) (cs va : Nat) (lk : Int32) (rn kp : Nat) (tr : Nat → Nat) (k n : Nat) (f : Nat → Int32) (hk : k < N) (hN : N ≤ 10) : jWi l yX5_loops wsX5_loops ({ frames := 2, cells := 0, slots := 0, locals := 46 }) g [.ref m0, .int (nI k)] [(m0, .inr (4, [.int th, .int (nI N), .ref tb, .ref md, .ref rw0, .int sz, .ref cs, .ref va, .int lk, .ref rn, .ref kp])), (tb, jaR g 10 (fun i => some (tr i))), (tr k, jaI g 253 (jrw n f))] [(m0, .inr (4, [.int 0, .int (nI N), .ref tb, .ref md, .ref rw0, .int sz, .ref cs, .ref va, .int lk, .ref rn, .ref kp])), (tb, jaR g 10 (fun i => some (tr i))), (tr k, jaI g 253 (jrw n f))] (nI n) := by
  refine j_enterW (Qc := fun sz_ => va_Qi (fun r (_ : Unit) => r = nI n) (fun _ t => va_P g.1 vwCl [(m0, .inr (4, [.int 0, .int (nI N), .ref tb, .ref md, .ref rw0, .int sz, .ref cs, .ref va, .int lk, .ref rn, .ref kp])), (tb, jaR g 10 (fun i => some (tr i))), (tr k, jaI g 253 (jrw n f))] t.heap) (va_A [(m0, .inr (4, [.int th, .int (nI N), .ref tb, .ref md, .ref rw0, .int sz, .ref cs, .ref va, .int lk, .ref rn, .ref kp])), (tb, jaR g 10 (fun i => some (tr i))), (tr k, jaI g 253 (jrw n f))] sz_)) (cc := cX5_loops) (maxL := 2) (ret := (some .int)) (own := RX5) (L := [(0, .ref m0), (1, .int (nI k))]) (by decide) rfl rfl (Nat.le_of_ble_eq_true rfl) rfl (fun p e s m args below meth c C hr => ?_)
  refine j_aload_n 0 C dX5_loops_0 rfl rfl ?_
  refine j_iconst (v := 0) C dX5_loops_1 rfl ?_
  refine j_put (Cn := RX5) (T := TX5) (N := 11) (ws' := [(m0, .inr (4, [.int 0, .int (nI N), .ref tb, .ref md, .ref rw0, .int sz, .ref cs, .ref va, .int lk, .ref rn, .ref kp])), (tb, jaR g 10 (fun i => some (tr i))), (tr k, jaI g 253 (jrw n f))]) tyX5 0 0 C dX5_loops_2 hin_X5_loops_X5 tyX5_ok nmX5 rfl rfl (by decide) (List.mem_of_getElem? (i := 1) rfl) rfl (tyX5_ok 0 (by decide)) rfl rfl (Nat.le_of_ble_eq_true rfl) rfl ?_
  refine j_aload_n 0 C dX5_loops_5 rfl rfl ?_
  refine j_iload_n 1 C dX5_loops_6 rfl rfl ?_
  refine j_callRi (v := jb (jBt (nI k) 0 ((nI N) - 1))) (j_runV (ci := 0) (As := [.int (nI k)]) (rest := []) [0] C (c_X5_isProgram l g m0 0 (nI N) tb md rw0 sz cs va lk rn kp (nI k)) gX5_loops_X5_isProgram rfl rfl rfl hd_X5_isProgram ⟨Nat.le_of_ble_eq_true rfl, Nat.le_of_ble_eq_true rfl⟩ rfl rfl rfl rfl dX5_loops_7 rfl (Nat.le_of_ble_eq_true rfl) ⟨Nat.le_of_ble_eq_true rfl, Nat.le_of_ble_eq_true rfl⟩) ?_
  refine j_eq (pc' := 10) (L' := [(0, .ref m0), (1, .int (nI k))]) (st' := [.int (jb true)]) (ws' := [(m0, .inr (4, [.int 0, .int (nI N), .ref tb, .ref md, .ref rw0, .int sz, .ref cs, .ref va, .int lk, .ref rn, .ref kp])), (tb, jaR g 10 (fun i => some (tr i))), (tr k, jaI g 253 (jrw n f))]) ?_ rfl rfl (by rw [jBt_n hk (by omega)]) rfl
  refine j_if_eq (tgt := 24) C dX5_loops_10 (by decide) (fun c_1 => ?_) (fun c_1 => ?_)
  · skip
    have c_1 : true = false := jb_0 c_1
    (first | exact absurd c_1 (by decide) | exact absurd c_1 (by omega) | simp_all)
  · skip
    have c_1 : true = true := jb_1 c_1
    refine j_aload_n 0 C dX5_loops_13 rfl rfl ?_
    refine j_get (Cn := RX5) (T := TX5) (N := 11) 0 2 C dX5_loops_14 hin_X5_loops_X5 rfl rfl (by decide) (List.mem_of_getElem? (i := 2) rfl) rfl ?_
    refine j_iload_n 1 C dX5_loops_17 rfl rfl ?_
    refine j_aldR (x := k) 1 C dX5_loops_18 rfl rfl (by omega) (by decide) ?_
    refine j_eq (pc' := 19) (L' := [(0, .ref m0), (1, .int (nI k))]) (st' := [.ref (tr k)]) (ws' := [(m0, .inr (4, [.int 0, .int (nI N), .ref tb, .ref md, .ref rw0, .int sz, .ref cs, .ref va, .int lk, .ref rn, .ref kp])), (tb, jaR g 10 (fun i => some (tr i))), (tr k, jaI g 253 (jrw n f))]) ?_ rfl rfl rfl rfl
    refine j_iconst (v := 0) C dX5_loops_19 rfl ?_
    refine j_ialdR0 2 C dX5_loops_20 rfl rfl ?_
    refine j_goto (tgt := 29) C dX5_loops_21 (by decide) ?_
    exact j_iretW (v := nI n) C hr dX5_loops_29 () rfl rfl
set_option maxHeartbeats 4000000 in
set_option maxRecDepth 100000 in
theorem c_X5_put_s (l : Launch) (g : jG) (m0 : Nat) (th np : Int32) (tb md rw0 : Nat) (cs va : Nat) (lk : Int32) (rn kp : Nat) (z : Int64)  : jWi l yX5_put wsX5_put ({ frames := 1, cells := 0, slots := 0, locals := 21 }) g [.ref m0, .long z] [(m0, .inr (4, [.int th, .int np, .ref tb, .ref md, .ref rw0, .int 40, .ref cs, .ref va, .int lk, .ref rn, .ref kp]))] [(m0, .inr (4, [.int 1, .int np, .ref tb, .ref md, .ref rw0, .int 40, .ref cs, .ref va, .int lk, .ref rn, .ref kp]))] 0 := by
  refine j_enterW (Qc := fun sz_ => va_Qi (fun r (_ : Unit) => r = 0) (fun _ t => va_P g.1 vwCl [(m0, .inr (4, [.int 1, .int np, .ref tb, .ref md, .ref rw0, .int 40, .ref cs, .ref va, .int lk, .ref rn, .ref kp]))] t.heap) (va_A [(m0, .inr (4, [.int th, .int np, .ref tb, .ref md, .ref rw0, .int 40, .ref cs, .ref va, .int lk, .ref rn, .ref kp]))] sz_)) (cc := cX5_put) (maxL := 3) (ret := (some .int)) (own := RX5) (L := [(0, .ref m0), (1, .long z)]) (by decide) rfl rfl (Nat.le_of_ble_eq_true rfl) rfl (fun p e s m args below meth c C hr => ?_)
  refine j_aload_n 0 C dX5_put_0 rfl rfl ?_
  refine j_iconst (v := 0) C dX5_put_1 rfl ?_
  refine j_put (Cn := RX5) (T := TX5) (N := 11) (ws' := [(m0, .inr (4, [.int 0, .int np, .ref tb, .ref md, .ref rw0, .int 40, .ref cs, .ref va, .int lk, .ref rn, .ref kp]))]) tyX5 0 0 C dX5_put_2 hin_X5_put_X5 tyX5_ok nmX5 rfl rfl (by decide) (List.mem_of_getElem? (i := 1) rfl) rfl (tyX5_ok 0 (by decide)) rfl rfl (Nat.le_of_ble_eq_true rfl) rfl ?_
  refine j_aload_n 0 C dX5_put_5 rfl rfl ?_
  refine j_get (Cn := RX5) (T := TX5) (N := 11) 0 5 C dX5_put_6 hin_X5_put_X5 rfl rfl (by decide) (List.mem_of_getElem? (i := 2) rfl) rfl ?_
  refine j_bipush (v := 40) C dX5_put_9 rfl ?_
  refine j_icmp_ne (tgt := 20) C dX5_put_11 (by decide) (fun c_1 => ?_) (fun c_1 => ?_)
  · skip
    exact absurd c_1 (by decide)
  · skip
    refine j_aload_n 0 C dX5_put_14 rfl rfl ?_
    refine j_iconst (v := 1) C dX5_put_15 rfl ?_
    refine j_callWi [0] (fun _ => [(m0, .inr (4, [.int 1, .int np, .ref tb, .ref md, .ref rw0, .int 40, .ref cs, .ref va, .int lk, .ref rn, .ref kp]))]) C (j_runV (ci := 0) (As := [.int 1]) (rest := []) [0] C (c_X5_fail l g m0 0 np tb md rw0 40 cs va lk rn kp 1) gX5_put_X5_fail rfl rfl rfl hd_X5_fail ⟨Nat.le_of_ble_eq_true rfl, Nat.le_of_ble_eq_true rfl⟩ rfl rfl rfl rfl dX5_put_16 rfl (Nat.le_of_ble_eq_true rfl) ⟨Nat.le_of_ble_eq_true rfl, Nat.le_of_ble_eq_true rfl⟩) rfl (fun _ => rfl) (fun _ => rfl) (fun z _ hz => ?_)
    subst hz
    exact j_iretW (v := 0) C hr dX5_put_19 () rfl rfl
set_option maxHeartbeats 4000000 in
set_option maxRecDepth 100000 in
theorem c_X5_put (l : Launch) (g : jG) (m0 : Nat) (th np : Int32) (tb md rw0 : Nat) (len : Nat) (cs va : Nat) (lk : Int32) (rn kp : Nat) (row : Nat → Int64) (z : Int64) (hl : len < 40) : jWi l yX5_put wsX5_put ({ frames := 0, cells := 0, slots := 0, locals := 0 }) g [.ref m0, .long z] [(m0, .inr (4, [.int th, .int np, .ref tb, .ref md, .ref rw0, .int (nI len), .ref cs, .ref va, .int lk, .ref rn, .ref kp])), (rw0, jaL g 40 row)] [(m0, .inr (4, [.int 0, .int np, .ref tb, .ref md, .ref rw0, .int (nI (len + 1)), .ref cs, .ref va, .int lk, .ref rn, .ref kp])), (rw0, jaL g 40 (vp_updL row len z))] (nI (len + 1)) := by
  refine j_enterW (Qc := fun sz_ => va_Qi (fun r (_ : Unit) => r = nI (len + 1)) (fun _ t => va_P g.1 vwCl [(m0, .inr (4, [.int 0, .int np, .ref tb, .ref md, .ref rw0, .int (nI (len + 1)), .ref cs, .ref va, .int lk, .ref rn, .ref kp])), (rw0, jaL g 40 (vp_updL row len z))] t.heap) (va_A [(m0, .inr (4, [.int th, .int np, .ref tb, .ref md, .ref rw0, .int (nI len), .ref cs, .ref va, .int lk, .ref rn, .ref kp])), (rw0, jaL g 40 row)] sz_)) (cc := cX5_put) (maxL := 3) (ret := (some .int)) (own := RX5) (L := [(0, .ref m0), (1, .long z)]) (by decide) rfl rfl (Nat.le_of_ble_eq_true rfl) rfl (fun p e s m args below meth c C hr => ?_)
  refine j_aload_n 0 C dX5_put_0 rfl rfl ?_
  refine j_iconst (v := 0) C dX5_put_1 rfl ?_
  refine j_put (Cn := RX5) (T := TX5) (N := 11) (ws' := [(m0, .inr (4, [.int 0, .int np, .ref tb, .ref md, .ref rw0, .int (nI len), .ref cs, .ref va, .int lk, .ref rn, .ref kp])), (rw0, jaL g 40 row)]) tyX5 0 0 C dX5_put_2 hin_X5_put_X5 tyX5_ok nmX5 rfl rfl (by decide) (List.mem_of_getElem? (i := 1) rfl) rfl (tyX5_ok 0 (by decide)) rfl rfl (Nat.le_of_ble_eq_true rfl) rfl ?_
  refine j_aload_n 0 C dX5_put_5 rfl rfl ?_
  refine j_get (Cn := RX5) (T := TX5) (N := 11) 0 5 C dX5_put_6 hin_X5_put_X5 rfl rfl (by decide) (List.mem_of_getElem? (i := 2) rfl) rfl ?_
  refine j_bipush (v := 40) C dX5_put_9 rfl ?_
  refine j_icmp_ne (tgt := 20) C dX5_put_11 (by decide) (fun c_1 => ?_) (fun c_1 => ?_)
  · skip
    have c_1 : ¬ len = 40 := fun z => c_1 ((nI_eq (a := len) (b := 40) (by omega) (by omega)).mpr z)
    refine j_aload_n 0 C dX5_put_20 rfl rfl ?_
    refine j_get (Cn := RX5) (T := TX5) (N := 11) 0 4 C dX5_put_21 hin_X5_put_X5 rfl rfl (by decide) (List.mem_of_getElem? (i := 3) rfl) rfl ?_
    refine j_aload_n 0 C dX5_put_24 rfl rfl ?_
    refine j_get (Cn := RX5) (T := TX5) (N := 11) 0 5 C dX5_put_25 hin_X5_put_X5 rfl rfl (by decide) (List.mem_of_getElem? (i := 2) rfl) rfl ?_
    refine j_lload_n 1 C dX5_put_28 rfl rfl ?_
    refine j_lastN (x := len) (ws' := [(m0, .inr (4, [.int 0, .int np, .ref tb, .ref md, .ref rw0, .int (nI len), .ref cs, .ref va, .int lk, .ref rn, .ref kp])), (rw0, jaL g 40 (vp_updL row len z))]) 1 C dX5_put_29 rfl rfl (by omega) (by decide) rfl ?_
    refine j_aload_n 0 C dX5_put_30 rfl rfl ?_
    refine j_dup C dX5_put_31 rfl ?_
    refine j_get (Cn := RX5) (T := TX5) (N := 11) 0 5 C dX5_put_32 hin_X5_put_X5 rfl rfl (by decide) (List.mem_of_getElem? (i := 2) rfl) rfl ?_
    refine j_iconst (v := 1) C dX5_put_35 rfl ?_
    refine j_iadd (x := nI len) (y := 1) (v := nI (len + 1)) C dX5_put_36 (nI_add len 1) ?_
    refine j_put (Cn := RX5) (T := TX5) (N := 11) (ws' := [(m0, .inr (4, [.int 0, .int np, .ref tb, .ref md, .ref rw0, .int (nI (len + 1)), .ref cs, .ref va, .int lk, .ref rn, .ref kp])), (rw0, jaL g 40 (vp_updL row len z))]) tyX5 0 5 C dX5_put_37 hin_X5_put_X5 tyX5_ok nmX5 rfl rfl (by decide) (List.mem_of_getElem? (i := 2) rfl) rfl (tyX5_ok 5 (by decide)) rfl rfl (Nat.le_of_ble_eq_true rfl) rfl ?_
    refine j_aload_n 0 C dX5_put_40 rfl rfl ?_
    refine j_get (Cn := RX5) (T := TX5) (N := 11) 0 5 C dX5_put_41 hin_X5_put_X5 rfl rfl (by decide) (List.mem_of_getElem? (i := 2) rfl) rfl ?_
    exact j_iretW (v := nI (len + 1)) C hr dX5_put_44 () rfl rfl
  · skip
    have c_1 : len = 40 := (nI_eq (a := len) (b := 40) (by omega) (by omega)).mp c_1
    exact absurd c_1 (by omega)
set_option maxHeartbeats 4000000 in
set_option maxRecDepth 100000 in
theorem c_X5_empty (l : Launch) (g : jG) (m0 : Nat) (th np : Int32) (tb md rw0 : Nat) (sz : Int32) (cs va : Nat) (lk : Int32) (rn kp : Nat)  : jWi l yX5_empty wsX5_empty ({ frames := 0, cells := 0, slots := 0, locals := 0 }) g [.ref m0] [(m0, .inr (4, [.int th, .int np, .ref tb, .ref md, .ref rw0, .int sz, .ref cs, .ref va, .int lk, .ref rn, .ref kp]))] [(m0, .inr (4, [.int 0, .int np, .ref tb, .ref md, .ref rw0, .int 0, .ref cs, .ref va, .int lk, .ref rn, .ref kp]))] sz := by
  refine j_enterW (Qc := fun sz_ => va_Qi (fun r (_ : Unit) => r = sz) (fun _ t => va_P g.1 vwCl [(m0, .inr (4, [.int 0, .int np, .ref tb, .ref md, .ref rw0, .int 0, .ref cs, .ref va, .int lk, .ref rn, .ref kp]))] t.heap) (va_A [(m0, .inr (4, [.int th, .int np, .ref tb, .ref md, .ref rw0, .int sz, .ref cs, .ref va, .int lk, .ref rn, .ref kp]))] sz_)) (cc := cX5_empty) (maxL := 2) (ret := (some .int)) (own := RX5) (L := [(0, .ref m0)]) (by decide) rfl rfl (Nat.le_of_ble_eq_true rfl) rfl (fun p e s m args below meth c C hr => ?_)
  refine j_aload_n 0 C dX5_empty_0 rfl rfl ?_
  refine j_iconst (v := 0) C dX5_empty_1 rfl ?_
  refine j_put (Cn := RX5) (T := TX5) (N := 11) (ws' := [(m0, .inr (4, [.int 0, .int np, .ref tb, .ref md, .ref rw0, .int sz, .ref cs, .ref va, .int lk, .ref rn, .ref kp]))]) tyX5 0 0 C dX5_empty_2 hin_X5_empty_X5 tyX5_ok nmX5 rfl rfl (by decide) (List.mem_of_getElem? (i := 1) rfl) rfl (tyX5_ok 0 (by decide)) rfl rfl (Nat.le_of_ble_eq_true rfl) rfl ?_
  refine j_aload_n 0 C dX5_empty_5 rfl rfl ?_
  refine j_get (Cn := RX5) (T := TX5) (N := 11) 0 5 C dX5_empty_6 hin_X5_empty_X5 rfl rfl (by decide) (List.mem_of_getElem? (i := 2) rfl) rfl ?_
  refine j_istore_n (L' := [(0, .ref m0), (1, .int sz)]) C dX5_empty_9 rfl (Nat.le_of_ble_eq_true rfl) rfl rfl ?_
  refine j_aload_n 0 C dX5_empty_10 rfl rfl ?_
  refine j_iconst (v := 0) C dX5_empty_11 rfl ?_
  refine j_put (Cn := RX5) (T := TX5) (N := 11) (ws' := [(m0, .inr (4, [.int 0, .int np, .ref tb, .ref md, .ref rw0, .int 0, .ref cs, .ref va, .int lk, .ref rn, .ref kp]))]) tyX5 0 5 C dX5_empty_12 hin_X5_empty_X5 tyX5_ok nmX5 rfl rfl (by decide) (List.mem_of_getElem? (i := 2) rfl) rfl (tyX5_ok 5 (by decide)) rfl rfl (Nat.le_of_ble_eq_true rfl) rfl ?_
  refine j_iload_n 1 C dX5_empty_15 rfl rfl ?_
  exact j_iretW (v := sz) C hr dX5_empty_16 () rfl rfl
set_option maxHeartbeats 4000000 in
set_option maxRecDepth 100000 in
theorem c_X5_run_p (l : Launch) (g : jG) (m0 : Nat) (th : Int32) (N tb md rw0 : Nat) (sz : Int32) (cs va : Nat) (lk : Int32) (rn kp : Nat) (x : Int32) (hx : jBt x 0 (nI N - 1) = false) : jWi l yX5_run wsX5_run ({ frames := 2, cells := 0, slots := 0, locals := 46 }) g [.ref m0, .int x] [(m0, .inr (4, [.int th, .int (nI N), .ref tb, .ref md, .ref rw0, .int sz, .ref cs, .ref va, .int lk, .ref rn, .ref kp]))] [(m0, .inr (4, [.int 1, .int (nI N), .ref tb, .ref md, .ref rw0, .int sz, .ref cs, .ref va, .int lk, .ref rn, .ref kp]))] 0 := by
  refine j_enterW (Qc := fun sz_ => va_Qi (fun r (_ : Unit) => r = 0) (fun _ t => va_P g.1 vwCl [(m0, .inr (4, [.int 1, .int (nI N), .ref tb, .ref md, .ref rw0, .int sz, .ref cs, .ref va, .int lk, .ref rn, .ref kp]))] t.heap) (va_A [(m0, .inr (4, [.int th, .int (nI N), .ref tb, .ref md, .ref rw0, .int sz, .ref cs, .ref va, .int lk, .ref rn, .ref kp]))] sz_)) (cc := cX5_run) (maxL := 3) (ret := (some .int)) (own := RX5) (L := [(0, .ref m0), (1, .int x)]) (by decide) rfl rfl (Nat.le_of_ble_eq_true rfl) rfl (fun p e s m args below meth c C hr => ?_)
  refine j_aload_n 0 C dX5_run_0 rfl rfl ?_
  refine j_iconst (v := 0) C dX5_run_1 rfl ?_
  refine j_put (Cn := RX5) (T := TX5) (N := 11) (ws' := [(m0, .inr (4, [.int 0, .int (nI N), .ref tb, .ref md, .ref rw0, .int sz, .ref cs, .ref va, .int lk, .ref rn, .ref kp]))]) tyX5 0 0 C dX5_run_2 hin_X5_run_X5 tyX5_ok nmX5 rfl rfl (by decide) (List.mem_of_getElem? (i := 1) rfl) rfl (tyX5_ok 0 (by decide)) rfl rfl (Nat.le_of_ble_eq_true rfl) rfl ?_
  refine j_aload_n 0 C dX5_run_5 rfl rfl ?_
  refine j_iload_n 1 C dX5_run_6 rfl rfl ?_
  refine j_callRi (v := jb (jBt x 0 ((nI N) - 1))) (j_runV (ci := 0) (As := [.int x]) (rest := []) [0] C (c_X5_isProgram l g m0 0 (nI N) tb md rw0 sz cs va lk rn kp x) gX5_run_X5_isProgram rfl rfl rfl hd_X5_isProgram ⟨Nat.le_of_ble_eq_true rfl, Nat.le_of_ble_eq_true rfl⟩ rfl rfl rfl rfl dX5_run_7 rfl (Nat.le_of_ble_eq_true rfl) ⟨Nat.le_of_ble_eq_true rfl, Nat.le_of_ble_eq_true rfl⟩) ?_
  refine j_eq (pc' := 10) (L' := [(0, .ref m0), (1, .int x)]) (st' := [.int (jb false)]) (ws' := [(m0, .inr (4, [.int 0, .int (nI N), .ref tb, .ref md, .ref rw0, .int sz, .ref cs, .ref va, .int lk, .ref rn, .ref kp]))]) ?_ rfl rfl (by rw [hx]) rfl
  refine j_if_ne (tgt := 19) C dX5_run_10 (by decide) (fun c_1 => ?_) (fun c_1 => ?_)
  · skip
    have c_1 : false = true := jb_1 c_1
    (first | exact absurd c_1 (by decide) | exact absurd c_1 (by omega) | simp_all)
  · skip
    have c_1 : false = false := jb_0 c_1
    refine j_aload_n 0 C dX5_run_13 rfl rfl ?_
    refine j_iconst (v := 1) C dX5_run_14 rfl ?_
    refine j_callWi [0] (fun _ => [(m0, .inr (4, [.int 1, .int (nI N), .ref tb, .ref md, .ref rw0, .int sz, .ref cs, .ref va, .int lk, .ref rn, .ref kp]))]) C (j_runV (ci := 0) (As := [.int 1]) (rest := []) [0] C (c_X5_fail l g m0 0 (nI N) tb md rw0 sz cs va lk rn kp 1) gX5_run_X5_fail rfl rfl rfl hd_X5_fail ⟨Nat.le_of_ble_eq_true rfl, Nat.le_of_ble_eq_true rfl⟩ rfl rfl rfl rfl dX5_run_15 rfl (Nat.le_of_ble_eq_true rfl) ⟨Nat.le_of_ble_eq_true rfl, Nat.le_of_ble_eq_true rfl⟩) rfl (fun _ => rfl) (fun _ => rfl) (fun z _ hz => ?_)
    subst hz
    exact j_iretW (v := 0) C hr dX5_run_18 () rfl rfl
set_option maxHeartbeats 4000000 in
set_option maxRecDepth 100000 in
theorem c_X5_run (l : Launch) (g : jG) (m0 : Nat) (th : Int32) (N tb md rw0 : Nat) (len : Nat) (cs va : Nat) (lk : Int32) (rn kp : Nat) (tr : Nat → Nat) (k n : Nat) (f : Nat → Int32) (vv row rf : Nat → Int64) (hk : k < N) (hN : N ≤ 10) (hok : jOk n f) (hl : len ≤ 40) : jWi l yX5_run wsX5_run ({ frames := 5, cells := 0, slots := 0, locals := 126 }) g [.ref m0, .int (nI k)] [(m0, .inr (4, [.int th, .int (nI N), .ref tb, .ref md, .ref rw0, .int (nI len), .ref cs, .ref va, .int lk, .ref rn, .ref kp])), (tb, jaR g 10 (fun i => some (tr i))), (tr k, jaI g 253 (jrw n f)), (rw0, jaL g 40 row), (va, jaL g 4 vv), (rn, jaL g 5 rf)] [(m0, .inr (4, [.int 0, .int (nI N), .ref tb, .ref md, .ref rw0, .int (nI len), .ref cs, .ref va, .int ((jRn n f row len).2.1), .ref rn, .ref kp])), (tb, jaR g 10 (fun i => some (tr i))), (tr k, jaI g 253 (jrw n f)), (rw0, jaL g 40 row), (va, jaL g 4 ((jRn n f row len).1)), (rn, jaL g 5 (jRan (jRn n f row len).1 (jRn n f row len).2.1))] ((jRn n f row len).2.2) := by
  refine j_enterW (Qc := fun sz_ => va_Qi (fun r (_ : Unit) => r = (jRn n f row len).2.2) (fun _ t => va_P g.1 vwCl [(m0, .inr (4, [.int 0, .int (nI N), .ref tb, .ref md, .ref rw0, .int (nI len), .ref cs, .ref va, .int ((jRn n f row len).2.1), .ref rn, .ref kp])), (tb, jaR g 10 (fun i => some (tr i))), (tr k, jaI g 253 (jrw n f)), (rw0, jaL g 40 row), (va, jaL g 4 ((jRn n f row len).1)), (rn, jaL g 5 (jRan (jRn n f row len).1 (jRn n f row len).2.1))] t.heap) (va_A [(m0, .inr (4, [.int th, .int (nI N), .ref tb, .ref md, .ref rw0, .int (nI len), .ref cs, .ref va, .int lk, .ref rn, .ref kp])), (tb, jaR g 10 (fun i => some (tr i))), (tr k, jaI g 253 (jrw n f)), (rw0, jaL g 40 row), (va, jaL g 4 vv), (rn, jaL g 5 rf)] sz_)) (cc := cX5_run) (maxL := 3) (ret := (some .int)) (own := RX5) (L := [(0, .ref m0), (1, .int (nI k))]) (by decide) rfl rfl (Nat.le_of_ble_eq_true rfl) rfl (fun p e s m args below meth c C hr => ?_)
  refine j_aload_n 0 C dX5_run_0 rfl rfl ?_
  refine j_iconst (v := 0) C dX5_run_1 rfl ?_
  refine j_put (Cn := RX5) (T := TX5) (N := 11) (ws' := [(m0, .inr (4, [.int 0, .int (nI N), .ref tb, .ref md, .ref rw0, .int (nI len), .ref cs, .ref va, .int lk, .ref rn, .ref kp])), (tb, jaR g 10 (fun i => some (tr i))), (tr k, jaI g 253 (jrw n f)), (rw0, jaL g 40 row), (va, jaL g 4 vv), (rn, jaL g 5 rf)]) tyX5 0 0 C dX5_run_2 hin_X5_run_X5 tyX5_ok nmX5 rfl rfl (by decide) (List.mem_of_getElem? (i := 1) rfl) rfl (tyX5_ok 0 (by decide)) rfl rfl (Nat.le_of_ble_eq_true rfl) rfl ?_
  refine j_aload_n 0 C dX5_run_5 rfl rfl ?_
  refine j_iload_n 1 C dX5_run_6 rfl rfl ?_
  refine j_callRi (v := jb (jBt (nI k) 0 ((nI N) - 1))) (j_runV (ci := 0) (As := [.int (nI k)]) (rest := []) [0] C (c_X5_isProgram l g m0 0 (nI N) tb md rw0 (nI len) cs va lk rn kp (nI k)) gX5_run_X5_isProgram rfl rfl rfl hd_X5_isProgram ⟨Nat.le_of_ble_eq_true rfl, Nat.le_of_ble_eq_true rfl⟩ rfl rfl rfl rfl dX5_run_7 rfl (Nat.le_of_ble_eq_true rfl) ⟨Nat.le_of_ble_eq_true rfl, Nat.le_of_ble_eq_true rfl⟩) ?_
  refine j_eq (pc' := 10) (L' := [(0, .ref m0), (1, .int (nI k))]) (st' := [.int (jb true)]) (ws' := [(m0, .inr (4, [.int 0, .int (nI N), .ref tb, .ref md, .ref rw0, .int (nI len), .ref cs, .ref va, .int lk, .ref rn, .ref kp])), (tb, jaR g 10 (fun i => some (tr i))), (tr k, jaI g 253 (jrw n f)), (rw0, jaL g 40 row), (va, jaL g 4 vv), (rn, jaL g 5 rf)]) ?_ rfl rfl (by rw [jBt_n hk (by omega)]) rfl
  refine j_if_ne (tgt := 19) C dX5_run_10 (by decide) (fun c_1 => ?_) (fun c_1 => ?_)
  · skip
    have c_1 : true = true := jb_1 c_1
    refine j_aload_n 0 C dX5_run_19 rfl rfl ?_
    refine j_aload_n 0 C dX5_run_20 rfl rfl ?_
    refine j_get (Cn := RX5) (T := TX5) (N := 11) 0 2 C dX5_run_21 hin_X5_run_X5 rfl rfl (by decide) (List.mem_of_getElem? (i := 2) rfl) rfl ?_
    refine j_iload_n 1 C dX5_run_24 rfl rfl ?_
    refine j_aldR (x := k) 1 C dX5_run_25 rfl rfl (by omega) (by decide) ?_
    refine j_eq (pc' := 26) (L' := [(0, .ref m0), (1, .int (nI k))]) (st' := [.ref (tr k), .ref m0]) (ws' := [(m0, .inr (4, [.int 0, .int (nI N), .ref tb, .ref md, .ref rw0, .int (nI len), .ref cs, .ref va, .int lk, .ref rn, .ref kp])), (tb, jaR g 10 (fun i => some (tr i))), (tr k, jaI g 253 (jrw n f)), (rw0, jaL g 40 row), (va, jaL g 4 vv), (rn, jaL g 5 rf)]) ?_ rfl rfl rfl rfl
    refine j_aload_n 0 C dX5_run_26 rfl rfl ?_
    refine j_get (Cn := RX5) (T := TX5) (N := 11) 0 4 C dX5_run_27 hin_X5_run_X5 rfl rfl (by decide) (List.mem_of_getElem? (i := 3) rfl) rfl ?_
    refine j_aload_n 0 C dX5_run_30 rfl rfl ?_
    refine j_get (Cn := RX5) (T := TX5) (N := 11) 0 5 C dX5_run_31 hin_X5_run_X5 rfl rfl (by decide) (List.mem_of_getElem? (i := 4) rfl) rfl ?_
    refine j_callWi [0, 4, 2, 3] (fun _ => [(m0, .inr (4, [.int 0, .int (nI N), .ref tb, .ref md, .ref rw0, .int (nI len), .ref cs, .ref va, .int ((jRn n f row len).2.1), .ref rn, .ref kp])), (tb, jaR g 10 (fun i => some (tr i))), (tr k, jaI g 253 (jrw n f)), (rw0, jaL g 40 row), (va, jaL g 4 ((jRn n f row len).1)), (rn, jaL g 5 rf)]) C (j_runV (ci := 0) (As := [.ref (tr k), .ref rw0, .int (nI len)]) (rest := []) [0, 4, 2, 3] C (c_X5_runOver l g m0 0 (nI N) tb md rw0 (nI len) cs va lk rn kp vv (tr k) n f rw0 len 40 row (by omega) (by omega) (by omega)) gX5_run_X5_runOver rfl rfl rfl hd_X5_runOver ⟨Nat.le_of_ble_eq_true rfl, Nat.le_of_ble_eq_true rfl⟩ rfl rfl rfl rfl dX5_run_34 rfl (Nat.le_of_ble_eq_true rfl) ⟨Nat.le_of_ble_eq_true rfl, Nat.le_of_ble_eq_true rfl⟩) rfl (fun _ => rfl) (fun _ => rfl) (fun z _ hz => ?_)
    subst hz
    refine j_istore_n (L' := [(0, .ref m0), (1, .int (nI k)), (2, .int ((jRn n f row len).2.2))]) C dX5_run_37 rfl (Nat.le_of_ble_eq_true rfl) rfl rfl ?_
    refine j_aload_n 0 C dX5_run_38 rfl rfl ?_
    refine j_get (Cn := RX5) (T := TX5) (N := 11) 0 7 C dX5_run_39 hin_X5_run_X5 rfl rfl (by decide) (List.mem_of_getElem? (i := 5) rfl) rfl ?_
    refine j_iconst (v := 0) C dX5_run_42 rfl ?_
    refine j_aload_n 0 C dX5_run_43 rfl rfl ?_
    refine j_get (Cn := RX5) (T := TX5) (N := 11) 0 9 C dX5_run_44 hin_X5_run_X5 rfl rfl (by decide) (List.mem_of_getElem? (i := 6) rfl) rfl ?_
    refine j_iconst (v := 0) C dX5_run_47 rfl ?_
    refine j_iconst (v := 4) C dX5_run_48 rfl ?_
    refine j_copyL (sp := 0) (dp := 0) (n := 4) (rest := []) (ws' := [(m0, .inr (4, [.int 0, .int (nI N), .ref tb, .ref md, .ref rw0, .int (nI len), .ref cs, .ref va, .int ((jRn n f row len).2.1), .ref rn, .ref kp])), (tb, jaR g 10 (fun i => some (tr i))), (tr k, jaI g 253 (jrw n f)), (rw0, jaL g 40 row), (va, jaL g 4 ((jRn n f row len).1)), (rn, jaL g 5 (va_cpy ((jRn n f row len).1) rf 0 0 4))]) 4 5 C dX5_run_49 (List.mem_of_getElem? (i := 7) rfl) (List.mem_of_getElem? (i := 8) rfl) (List.mem_of_getElem? (i := 9) rfl) (List.mem_of_getElem? (i := 10) rfl) rfl rfl rfl rfl rfl (by omega) (by omega) (by decide) (by decide) (Nat.le_of_ble_eq_true rfl) (Nat.le_of_ble_eq_true rfl) rfl ?_
    refine j_aload_n 0 C dX5_run_52 rfl rfl ?_
    refine j_get (Cn := RX5) (T := TX5) (N := 11) 0 9 C dX5_run_53 hin_X5_run_X5 rfl rfl (by decide) (List.mem_of_getElem? (i := 6) rfl) rfl ?_
    refine j_iconst (v := 4) C dX5_run_56 rfl ?_
    refine j_aload_n 0 C dX5_run_57 rfl rfl ?_
    refine j_get (Cn := RX5) (T := TX5) (N := 11) 0 8 C dX5_run_58 hin_X5_run_X5 rfl rfl (by decide) (List.mem_of_getElem? (i := 11) rfl) rfl ?_
    refine j_i2l (v := ((jRn n f row len).2.1).toInt64) C dX5_run_61 rfl ?_
    refine j_lastN (x := 4) (ws' := [(m0, .inr (4, [.int 0, .int (nI N), .ref tb, .ref md, .ref rw0, .int (nI len), .ref cs, .ref va, .int ((jRn n f row len).2.1), .ref rn, .ref kp])), (tb, jaR g 10 (fun i => some (tr i))), (tr k, jaI g 253 (jrw n f)), (rw0, jaL g 40 row), (va, jaL g 4 ((jRn n f row len).1)), (rn, jaL g 5 (vp_updL (va_cpy ((jRn n f row len).1) rf 0 0 4) 4 (((jRn n f row len).2.1).toInt64)))]) 5 C dX5_run_62 rfl rfl (by omega) (by decide) rfl ?_
    refine j_arrL (f' := jRan (jRn n f row len).1 (jRn n f row len).2.1) (ws' := [(m0, .inr (4, [.int 0, .int (nI N), .ref tb, .ref md, .ref rw0, .int (nI len), .ref cs, .ref va, .int ((jRn n f row len).2.1), .ref rn, .ref kp])), (tb, jaR g 10 (fun i => some (tr i))), (tr k, jaI g 253 (jrw n f)), (rw0, jaL g 40 row), (va, jaL g 4 ((jRn n f row len).1)), (rn, jaL g 5 (jRan (jRn n f row len).1 (jRn n f row len).2.1))]) 5 rfl (fun i hi => jRan_u hi) rfl ?_
    refine j_iload_n 2 C dX5_run_63 rfl rfl ?_
    exact j_iretW (v := (jRn n f row len).2.2) C hr dX5_run_64 () rfl rfl
  · skip
    have c_1 : true = false := jb_0 c_1
    (first | exact absurd c_1 (by decide) | exact absurd c_1 (by omega) | simp_all)
set_option maxHeartbeats 4000000 in
set_option maxRecDepth 100000 in
theorem c_X5_ran_w (l : Launch) (g : jG) (m0 : Nat) (th np : Int32) (tb md rw0 : Nat) (sz : Int32) (cs va : Nat) (lk : Int32) (rn kp : Nat) (w : Int32) (hw : jBt w 0 4 = false) : jWl l yX5_ran wsX5_ran ({ frames := 1, cells := 0, slots := 0, locals := 25 }) g [.ref m0, .int w] [(m0, .inr (4, [.int th, .int np, .ref tb, .ref md, .ref rw0, .int sz, .ref cs, .ref va, .int lk, .ref rn, .ref kp]))] [(m0, .inr (4, [.int 1, .int np, .ref tb, .ref md, .ref rw0, .int sz, .ref cs, .ref va, .int lk, .ref rn, .ref kp]))] 0 := by
  refine j_enterW (Qc := fun sz_ => va_Ql (fun r (_ : Unit) => r = 0) (fun _ t => va_P g.1 vwCl [(m0, .inr (4, [.int 1, .int np, .ref tb, .ref md, .ref rw0, .int sz, .ref cs, .ref va, .int lk, .ref rn, .ref kp]))] t.heap) (va_A [(m0, .inr (4, [.int th, .int np, .ref tb, .ref md, .ref rw0, .int sz, .ref cs, .ref va, .int lk, .ref rn, .ref kp]))] sz_)) (cc := cX5_ran) (maxL := 2) (ret := (some .long)) (own := RX5) (L := [(0, .ref m0), (1, .int w)]) (by decide) rfl rfl (Nat.le_of_ble_eq_true rfl) rfl (fun p e s m args below meth c C hr => ?_)
  refine j_aload_n 0 C dX5_ran_0 rfl rfl ?_
  refine j_iload_n 1 C dX5_ran_1 rfl rfl ?_
  refine j_i2l (v := w.toInt64) C dX5_ran_2 rfl ?_
  refine j_lconst (v := 0) C dX5_ran_3 rfl ?_
  refine j_ldc2 (v := 4) C dX5_ran_4 (List.mem_of_getElem? (i := 1) rfl) ?_
  refine j_callRi (v := jb (jIn w.toInt64 0 4)) (j_runS (As := [.long w.toInt64, .long 0, .long 4]) (rest := [.ref m0]) [] C (c_X5_isIn l g w.toInt64 0 4) gX5_ran_X5_isIn rfl rfl rfl hd_X5_isIn ⟨Nat.le_of_ble_eq_true rfl, Nat.le_of_ble_eq_true rfl⟩ rfl rfl dX5_ran_7 rfl (Nat.le_of_ble_eq_true rfl) ⟨Nat.le_of_ble_eq_true rfl, Nat.le_of_ble_eq_true rfl⟩) ?_
  refine j_eq (pc' := 10) (L' := [(0, .ref m0), (1, .int w)]) (st' := [.int (jb (jBt w 0 4)), .ref m0]) (ws' := [(m0, .inr (4, [.int th, .int np, .ref tb, .ref md, .ref rw0, .int sz, .ref cs, .ref va, .int lk, .ref rn, .ref kp]))]) ?_ rfl rfl (by rw [jIn_b w 0 4 _ _ (by decide) (by decide)]) rfl
  refine j_eq (pc' := 10) (L' := [(0, .ref m0), (1, .int w)]) (st' := [.int (jb false), .ref m0]) (ws' := [(m0, .inr (4, [.int th, .int np, .ref tb, .ref md, .ref rw0, .int sz, .ref cs, .ref va, .int lk, .ref rn, .ref kp]))]) ?_ rfl rfl (by rw [hw]) rfl
  refine j_if_eq (tgt := 17) C dX5_ran_10 (by decide) (fun c_1 => ?_) (fun c_1 => ?_)
  · skip
    have c_1 : false = false := jb_0 c_1
    refine j_iconst (v := 1) C dX5_ran_17 rfl ?_
    refine j_put (Cn := RX5) (T := TX5) (N := 11) (ws' := [(m0, .inr (4, [.int 1, .int np, .ref tb, .ref md, .ref rw0, .int sz, .ref cs, .ref va, .int lk, .ref rn, .ref kp]))]) tyX5 0 0 C dX5_ran_18 hin_X5_ran_X5 tyX5_ok nmX5 rfl rfl (by decide) (List.mem_of_getElem? (i := 2) rfl) rfl (tyX5_ok 0 (by decide)) rfl rfl (Nat.le_of_ble_eq_true rfl) rfl ?_
    refine j_aload_n 0 C dX5_ran_21 rfl rfl ?_
    refine j_get (Cn := RX5) (T := TX5) (N := 11) 0 0 C dX5_ran_22 hin_X5_ran_X5 rfl rfl (by decide) (List.mem_of_getElem? (i := 2) rfl) rfl ?_
    refine j_if_ne (tgt := 37) C dX5_ran_25 (by decide) (fun c_2 => ?_) (fun c_2 => ?_)
    · skip
      refine j_lconst (v := 0) C dX5_ran_37 rfl ?_
      exact j_lretW (v := 0) C hr dX5_ran_38 () rfl rfl
    · skip
      exact absurd c_2 (by decide)
  · skip
    have c_1 : false = true := jb_1 c_1
    (first | exact absurd c_1 (by decide) | exact absurd c_1 (by omega) | simp_all)
set_option maxHeartbeats 4000000 in
set_option maxRecDepth 100000 in
theorem c_X5_ran (l : Launch) (g : jG) (m0 : Nat) (th np : Int32) (tb md rw0 : Nat) (sz : Int32) (cs va : Nat) (lk : Int32) (rn kp : Nat) (w : Nat) (rf : Nat → Int64) (hw : w < 5) : jWl l yX5_ran wsX5_ran ({ frames := 1, cells := 0, slots := 0, locals := 25 }) g [.ref m0, .int (nI w)] [(m0, .inr (4, [.int th, .int np, .ref tb, .ref md, .ref rw0, .int sz, .ref cs, .ref va, .int lk, .ref rn, .ref kp])), (rn, jaL g 5 rf)] [(m0, .inr (4, [.int 0, .int np, .ref tb, .ref md, .ref rw0, .int sz, .ref cs, .ref va, .int lk, .ref rn, .ref kp])), (rn, jaL g 5 rf)] (rf w) := by
  refine j_enterW (Qc := fun sz_ => va_Ql (fun r (_ : Unit) => r = rf w) (fun _ t => va_P g.1 vwCl [(m0, .inr (4, [.int 0, .int np, .ref tb, .ref md, .ref rw0, .int sz, .ref cs, .ref va, .int lk, .ref rn, .ref kp])), (rn, jaL g 5 rf)] t.heap) (va_A [(m0, .inr (4, [.int th, .int np, .ref tb, .ref md, .ref rw0, .int sz, .ref cs, .ref va, .int lk, .ref rn, .ref kp])), (rn, jaL g 5 rf)] sz_)) (cc := cX5_ran) (maxL := 2) (ret := (some .long)) (own := RX5) (L := [(0, .ref m0), (1, .int (nI w))]) (by decide) rfl rfl (Nat.le_of_ble_eq_true rfl) rfl (fun p e s m args below meth c C hr => ?_)
  refine j_aload_n 0 C dX5_ran_0 rfl rfl ?_
  refine j_iload_n 1 C dX5_ran_1 rfl rfl ?_
  refine j_i2l (v := (nI w).toInt64) C dX5_ran_2 rfl ?_
  refine j_lconst (v := 0) C dX5_ran_3 rfl ?_
  refine j_ldc2 (v := 4) C dX5_ran_4 (List.mem_of_getElem? (i := 1) rfl) ?_
  refine j_callRi (v := jb (jIn ((nI w).toInt64) 0 4)) (j_runS (As := [.long ((nI w).toInt64), .long 0, .long 4]) (rest := [.ref m0]) [] C (c_X5_isIn l g ((nI w).toInt64) 0 4) gX5_ran_X5_isIn rfl rfl rfl hd_X5_isIn ⟨Nat.le_of_ble_eq_true rfl, Nat.le_of_ble_eq_true rfl⟩ rfl rfl dX5_ran_7 rfl (Nat.le_of_ble_eq_true rfl) ⟨Nat.le_of_ble_eq_true rfl, Nat.le_of_ble_eq_true rfl⟩) ?_
  refine j_eq (pc' := 10) (L' := [(0, .ref m0), (1, .int (nI w))]) (st' := [.int (jb (jBt (nI w) 0 4)), .ref m0]) (ws' := [(m0, .inr (4, [.int th, .int np, .ref tb, .ref md, .ref rw0, .int sz, .ref cs, .ref va, .int lk, .ref rn, .ref kp])), (rn, jaL g 5 rf)]) ?_ rfl rfl (by rw [jIn_b (nI w) 0 4 _ _ (by decide) (by decide)]) rfl
  refine j_eq (pc' := 10) (L' := [(0, .ref m0), (1, .int (nI w))]) (st' := [.int (jb true), .ref m0]) (ws' := [(m0, .inr (4, [.int th, .int np, .ref tb, .ref md, .ref rw0, .int sz, .ref cs, .ref va, .int lk, .ref rn, .ref kp])), (rn, jaL g 5 rf)]) ?_ rfl rfl (by rw [(show jBt (nI w) 0 4 = true from jBt_m (N := 4) (by omega) (by omega))]) rfl
  refine j_if_eq (tgt := 17) C dX5_ran_10 (by decide) (fun c_1 => ?_) (fun c_1 => ?_)
  · skip
    have c_1 : true = false := jb_0 c_1
    (first | exact absurd c_1 (by decide) | exact absurd c_1 (by omega) | simp_all)
  · skip
    have c_1 : true = true := jb_1 c_1
    refine j_iconst (v := 0) C dX5_ran_13 rfl ?_
    refine j_goto (tgt := 18) C dX5_ran_14 (by decide) ?_
    refine j_put (Cn := RX5) (T := TX5) (N := 11) (ws' := [(m0, .inr (4, [.int 0, .int np, .ref tb, .ref md, .ref rw0, .int sz, .ref cs, .ref va, .int lk, .ref rn, .ref kp])), (rn, jaL g 5 rf)]) tyX5 0 0 C dX5_ran_18 hin_X5_ran_X5 tyX5_ok nmX5 rfl rfl (by decide) (List.mem_of_getElem? (i := 2) rfl) rfl (tyX5_ok 0 (by decide)) rfl rfl (Nat.le_of_ble_eq_true rfl) rfl ?_
    refine j_aload_n 0 C dX5_ran_21 rfl rfl ?_
    refine j_get (Cn := RX5) (T := TX5) (N := 11) 0 0 C dX5_ran_22 hin_X5_ran_X5 rfl rfl (by decide) (List.mem_of_getElem? (i := 2) rfl) rfl ?_
    refine j_if_ne (tgt := 37) C dX5_ran_25 (by decide) (fun c_2 => ?_) (fun c_2 => ?_)
    · skip
      exact absurd c_2 (by decide)
    · skip
      refine j_aload_n 0 C dX5_ran_28 rfl rfl ?_
      refine j_get (Cn := RX5) (T := TX5) (N := 11) 0 9 C dX5_ran_29 hin_X5_ran_X5 rfl rfl (by decide) (List.mem_of_getElem? (i := 3) rfl) rfl ?_
      refine j_iload_n 1 C dX5_ran_32 rfl rfl ?_
      refine j_laldN (x := w) 1 C dX5_ran_33 rfl rfl (by omega) (by decide) ?_
      refine j_goto (tgt := 38) C dX5_ran_34 (by decide) ?_
      exact j_lretW (v := rf w) C hr dX5_ran_38 () rfl rfl
