set_option maxRecDepth 100000 in
theorem hin_X5_twice_X5 : ∀ w ∈ u_ws RX5 TX5 11, w ∈ wsX5_twice := fun w h => List.mem_cons_of_mem _ (by exact List.mem_append_right _ h)
set_option maxRecDepth 100000 in
theorem hin_X5_takeOut_X5 : ∀ w ∈ u_ws RX5 TX5 11, w ∈ wsX5_takeOut := fun w h => List.mem_cons_of_mem _ (by exact List.mem_append_right _ h)
set_option maxRecDepth 100000 in
theorem hin_X5_takeSteps_X5 : ∀ w ∈ u_ws RX5 TX5 11, w ∈ wsX5_takeSteps := fun w h => List.mem_cons_of_mem _ (by exact List.mem_append_right _ h)
set_option maxRecDepth 100000 in
theorem hin_X5_join_X5 : ∀ w ∈ u_ws RX5 TX5 11, w ∈ wsX5_join := fun w h => List.mem_cons_of_mem _ (by exact List.mem_append_right _ h)
theorem hd_X5_takeOut : yX5_takeOut.cls = RX5 ∧ yX5_takeOut.cls ≠ "java/lang/invoke/MethodHandle" ∧ yX5_takeOut.cls ≠ "java/lang/invoke/VarHandle" ∧ (parseMethodDescriptor yX5_takeOut.desc).map (fun d => d.parameters.length) = some 1 := by decide +kernel
set_option maxRecDepth 100000 in
theorem hin_X5_divide_X5 : ∀ w ∈ u_ws RX5 TX5 11, w ∈ wsX5_divide := fun w h => List.mem_cons_of_mem _ (by exact List.mem_append_right _ h)
theorem hd_X5_twice : yX5_twice.cls = RX5 ∧ yX5_twice.cls ≠ "java/lang/invoke/MethodHandle" ∧ yX5_twice.cls ≠ "java/lang/invoke/VarHandle" ∧ (parseMethodDescriptor yX5_twice.desc).map (fun d => d.parameters.length) = some 1 := by decide +kernel
theorem hd_X5_takeSteps : yX5_takeSteps.cls = RX5 ∧ yX5_takeSteps.cls ≠ "java/lang/invoke/MethodHandle" ∧ yX5_takeSteps.cls ≠ "java/lang/invoke/VarHandle" ∧ (parseMethodDescriptor yX5_takeSteps.desc).map (fun d => d.parameters.length) = some 3 := by decide +kernel
set_option maxRecDepth 100000 in
theorem hin_X5_peel_X5 : ∀ w ∈ u_ws RX5 TX5 11, w ∈ wsX5_peel := fun w h => List.mem_cons_of_mem _ (by exact List.mem_append_right _ h)
set_option maxRecDepth 100000 in
theorem hin_X5_swap_X5 : ∀ w ∈ u_ws RX5 TX5 11, w ∈ wsX5_swap := fun w h => List.mem_cons_of_mem _ (by exact List.mem_append_right _ h)
set_option maxRecDepth 100000 in
theorem hin_X5_strip_X5 : ∀ w ∈ u_ws RX5 TX5 11, w ∈ wsX5_strip := fun w h => List.mem_cons_of_mem _ (by exact List.mem_append_right _ h)
set_option maxHeartbeats 4000000 in
set_option maxRecDepth 100000 in
theorem c_X5_twice (l : Launch) (g : jG) (m0 : Nat) (th np : Int32) (tb md rw0 : Nat) (sz : Int32) (cs va : Nat) (lk : Int32) (rn kp : Nat) (n : Nat) (f : Nat → Int32) (k : Nat) (hk : k < n) (hn : n < 8) : jWv l yX5_twice wsX5_twice ({ frames := 1, cells := 0, slots := 0, locals := 20 }) g [.ref m0, .int (nI k)] [(m0, .inr (4, [.int th, .int np, .ref tb, .ref md, .ref rw0, .int sz, .ref cs, .ref va, .int lk, .ref rn, .ref kp])), (md, jaI g 253 (jrw n f))] [(m0, .inr (4, [.int th, .int np, .ref tb, .ref md, .ref rw0, .int sz, .ref cs, .ref va, .int lk, .ref rn, .ref kp])), (md, jaI g 253 (jrw (n + 1) (jRp f (n * 28) (k * 28))))] := by
  refine j_enterW (Qc := fun sz_ => va_Qv (fun (_ : Unit) => True) (fun _ t => va_P g.1 vwCl [(m0, .inr (4, [.int th, .int np, .ref tb, .ref md, .ref rw0, .int sz, .ref cs, .ref va, .int lk, .ref rn, .ref kp])), (md, jaI g 253 (jrw (n + 1) (jRp f (n * 28) (k * 28))))] t.heap) (va_A [(m0, .inr (4, [.int th, .int np, .ref tb, .ref md, .ref rw0, .int sz, .ref cs, .ref va, .int lk, .ref rn, .ref kp])), (md, jaI g 253 (jrw n f))] sz_)) (cc := cX5_twice) (maxL := 2) (ret := none) (own := RX5) (L := [(0, .ref m0), (1, .int (nI k))]) (by decide) rfl rfl (Nat.le_of_ble_eq_true rfl) rfl (fun p e s m args below meth c C hr => ?_)
  refine j_aload_n 0 C dX5_twice_0 rfl rfl ?_
  refine j_get (Cn := RX5) (T := TX5) (N := 11) 0 3 C dX5_twice_1 hin_X5_twice_X5 rfl rfl (by decide) (List.mem_of_getElem? (i := 1) rfl) rfl ?_
  refine j_iload_n 1 C dX5_twice_4 rfl rfl ?_
  refine j_callRi (v := nI (1 + 28 * k)) (j_runS (As := [.int (nI k)]) (rest := [.ref md]) [] C (c_X5_loopAt l g k) gX5_twice_X5_loopAt rfl rfl rfl hd_X5_loopAt ⟨Nat.le_of_ble_eq_true rfl, Nat.le_of_ble_eq_true rfl⟩ rfl rfl dX5_twice_5 rfl (Nat.le_of_ble_eq_true rfl) ⟨Nat.le_of_ble_eq_true rfl, Nat.le_of_ble_eq_true rfl⟩) ?_
  refine j_aload_n 0 C dX5_twice_8 rfl rfl ?_
  refine j_get (Cn := RX5) (T := TX5) (N := 11) 0 3 C dX5_twice_9 hin_X5_twice_X5 rfl rfl (by decide) (List.mem_of_getElem? (i := 1) rfl) rfl ?_
  refine j_iload_n 1 C dX5_twice_12 rfl rfl ?_
  refine j_iconst (v := 1) C dX5_twice_13 rfl ?_
  refine j_iadd (x := nI k) (y := 1) (v := nI (k + 1)) C dX5_twice_14 (nI_add k 1) ?_
  refine j_callRi (v := nI (1 + 28 * (k + 1))) (j_runS (As := [.int (nI (k + 1))]) (rest := [.ref md, .int (nI (1 + 28 * k)), .ref md]) [] C (c_X5_loopAt l g (k + 1)) gX5_twice_X5_loopAt rfl rfl rfl hd_X5_loopAt ⟨Nat.le_of_ble_eq_true rfl, Nat.le_of_ble_eq_true rfl⟩ rfl rfl dX5_twice_15 rfl (Nat.le_of_ble_eq_true rfl) ⟨Nat.le_of_ble_eq_true rfl, Nat.le_of_ble_eq_true rfl⟩) ?_
  refine j_bipush (v := 28) C dX5_twice_18 rfl ?_
  refine j_aload_n 0 C dX5_twice_20 rfl rfl ?_
  refine j_get (Cn := RX5) (T := TX5) (N := 11) 0 3 C dX5_twice_21 hin_X5_twice_X5 rfl rfl (by decide) (List.mem_of_getElem? (i := 1) rfl) rfl ?_
  refine j_iconst (v := 0) C dX5_twice_24 rfl ?_
  refine j_ialdR0 1 C dX5_twice_25 rfl rfl ?_
  refine j_iload_n 1 C dX5_twice_26 rfl rfl ?_
  refine j_isub (x := nI n) (y := nI k) (v := nI (n - k)) C dX5_twice_27 (pk_sub (a := n) (b := k) (by omega)) ?_
  refine j_imul (x := 28) (y := nI (n - k)) (v := nI (28 * (n - k))) C dX5_twice_28 (pk_mul 28 (n - k)) ?_
  refine j_copyI (sp := 1 + 28 * k) (dp := 1 + 28 * (k + 1)) (n := 28 * (n - k)) (rest := []) (ws' := [(m0, .inr (4, [.int th, .int np, .ref tb, .ref md, .ref rw0, .int sz, .ref cs, .ref va, .int lk, .ref rn, .ref kp])), (md, jaI g 253 (jrw n (va_cpy f f (k * 28 + 0) ((k + 1) * 28 + 0) (28 * (n - k)))))]) 1 1 C dX5_twice_29 (List.mem_of_getElem? (i := 2) rfl) (List.mem_of_getElem? (i := 3) rfl) (List.mem_of_getElem? (i := 4) rfl) (List.mem_of_getElem? (i := 5) rfl) rfl rfl rfl rfl rfl (by omega) (by omega) (by decide) (by decide) (Nat.le_of_ble_eq_true rfl) (Nat.le_of_ble_eq_true rfl) (by rw [jrw_c (sp := k * 28 + 0) (dp := (k + 1) * 28 + 0) (by omega) (by omega)]; rfl) ?_
  refine j_aload_n 0 C dX5_twice_32 rfl rfl ?_
  refine j_get (Cn := RX5) (T := TX5) (N := 11) 0 3 C dX5_twice_33 hin_X5_twice_X5 rfl rfl (by decide) (List.mem_of_getElem? (i := 1) rfl) rfl ?_
  refine j_iconst (v := 0) C dX5_twice_36 rfl ?_
  refine j_dup2 C dX5_twice_37 rfl rfl ?_
  refine j_ialdR0 1 C dX5_twice_38 rfl rfl ?_
  refine j_iconst (v := 1) C dX5_twice_39 rfl ?_
  refine j_iadd (x := nI n) (y := 1) (v := nI (n + 1)) C dX5_twice_40 (nI_add n 1) ?_
  refine j_iastR0 (n1 := n + 1) (ws' := [(m0, .inr (4, [.int th, .int np, .ref tb, .ref md, .ref rw0, .int sz, .ref cs, .ref va, .int lk, .ref rn, .ref kp])), (md, jaI g 253 (jrw (n + 1) (va_cpy f f (k * 28 + 0) ((k + 1) * 28 + 0) (28 * (n - k)))))]) 1 C dX5_twice_41 rfl rfl rfl rfl ?_
  exact j_vretW C hr dX5_twice_42 () trivial (by rw [← jRp_c f (by omega)]; rfl)
set_option maxHeartbeats 4000000 in
set_option maxRecDepth 100000 in
theorem c_X5_takeOut (l : Launch) (g : jG) (m0 : Nat) (th np : Int32) (tb md rw0 : Nat) (sz : Int32) (cs va : Nat) (lk : Int32) (rn kp : Nat) (n : Nat) (f : Nat → Int32) (k : Nat) (hk : k < n) (hn : n ≤ 8) : jWv l yX5_takeOut wsX5_takeOut ({ frames := 1, cells := 0, slots := 0, locals := 20 }) g [.ref m0, .int (nI k)] [(m0, .inr (4, [.int th, .int np, .ref tb, .ref md, .ref rw0, .int sz, .ref cs, .ref va, .int lk, .ref rn, .ref kp])), (md, jaI g 253 (jrw n f))] [(m0, .inr (4, [.int th, .int np, .ref tb, .ref md, .ref rw0, .int sz, .ref cs, .ref va, .int lk, .ref rn, .ref kp])), (md, jaI g 253 (jrw (n - 1) (jRm f (k * 28) ((n - 1) * 28))))] := by
  refine j_enterW (Qc := fun sz_ => va_Qv (fun (_ : Unit) => True) (fun _ t => va_P g.1 vwCl [(m0, .inr (4, [.int th, .int np, .ref tb, .ref md, .ref rw0, .int sz, .ref cs, .ref va, .int lk, .ref rn, .ref kp])), (md, jaI g 253 (jrw (n - 1) (jRm f (k * 28) ((n - 1) * 28))))] t.heap) (va_A [(m0, .inr (4, [.int th, .int np, .ref tb, .ref md, .ref rw0, .int sz, .ref cs, .ref va, .int lk, .ref rn, .ref kp])), (md, jaI g 253 (jrw n f))] sz_)) (cc := cX5_takeOut) (maxL := 2) (ret := none) (own := RX5) (L := [(0, .ref m0), (1, .int (nI k))]) (by decide) rfl rfl (Nat.le_of_ble_eq_true rfl) rfl (fun p e s m args below meth c C hr => ?_)
  refine j_aload_n 0 C dX5_takeOut_0 rfl rfl ?_
  refine j_get (Cn := RX5) (T := TX5) (N := 11) 0 3 C dX5_takeOut_1 hin_X5_takeOut_X5 rfl rfl (by decide) (List.mem_of_getElem? (i := 1) rfl) rfl ?_
  refine j_iconst (v := 0) C dX5_takeOut_4 rfl ?_
  refine j_dup2 C dX5_takeOut_5 rfl rfl ?_
  refine j_ialdR0 1 C dX5_takeOut_6 rfl rfl ?_
  refine j_iconst (v := 1) C dX5_takeOut_7 rfl ?_
  refine j_isub (x := nI n) (y := 1) (v := nI (n - 1)) C dX5_takeOut_8 (pk_sub (a := n) (b := 1) (by omega)) ?_
  refine j_iastR0 (n1 := n - 1) (ws' := [(m0, .inr (4, [.int th, .int np, .ref tb, .ref md, .ref rw0, .int sz, .ref cs, .ref va, .int lk, .ref rn, .ref kp])), (md, jaI g 253 (jrw (n - 1) f))]) 1 C dX5_takeOut_9 rfl rfl rfl rfl ?_
  refine j_aload_n 0 C dX5_takeOut_10 rfl rfl ?_
  refine j_get (Cn := RX5) (T := TX5) (N := 11) 0 3 C dX5_takeOut_11 hin_X5_takeOut_X5 rfl rfl (by decide) (List.mem_of_getElem? (i := 1) rfl) rfl ?_
  refine j_iload_n 1 C dX5_takeOut_14 rfl rfl ?_
  refine j_iconst (v := 1) C dX5_takeOut_15 rfl ?_
  refine j_iadd (x := nI k) (y := 1) (v := nI (k + 1)) C dX5_takeOut_16 (nI_add k 1) ?_
  refine j_callRi (v := nI (1 + 28 * (k + 1))) (j_runS (As := [.int (nI (k + 1))]) (rest := [.ref md]) [] C (c_X5_loopAt l g (k + 1)) gX5_takeOut_X5_loopAt rfl rfl rfl hd_X5_loopAt ⟨Nat.le_of_ble_eq_true rfl, Nat.le_of_ble_eq_true rfl⟩ rfl rfl dX5_takeOut_17 rfl (Nat.le_of_ble_eq_true rfl) ⟨Nat.le_of_ble_eq_true rfl, Nat.le_of_ble_eq_true rfl⟩) ?_
  refine j_aload_n 0 C dX5_takeOut_20 rfl rfl ?_
  refine j_get (Cn := RX5) (T := TX5) (N := 11) 0 3 C dX5_takeOut_21 hin_X5_takeOut_X5 rfl rfl (by decide) (List.mem_of_getElem? (i := 1) rfl) rfl ?_
  refine j_iload_n 1 C dX5_takeOut_24 rfl rfl ?_
  refine j_callRi (v := nI (1 + 28 * k)) (j_runS (As := [.int (nI k)]) (rest := [.ref md, .int (nI (1 + 28 * (k + 1))), .ref md]) [] C (c_X5_loopAt l g k) gX5_takeOut_X5_loopAt rfl rfl rfl hd_X5_loopAt ⟨Nat.le_of_ble_eq_true rfl, Nat.le_of_ble_eq_true rfl⟩ rfl rfl dX5_takeOut_25 rfl (Nat.le_of_ble_eq_true rfl) ⟨Nat.le_of_ble_eq_true rfl, Nat.le_of_ble_eq_true rfl⟩) ?_
  refine j_bipush (v := 28) C dX5_takeOut_28 rfl ?_
  refine j_aload_n 0 C dX5_takeOut_30 rfl rfl ?_
  refine j_get (Cn := RX5) (T := TX5) (N := 11) 0 3 C dX5_takeOut_31 hin_X5_takeOut_X5 rfl rfl (by decide) (List.mem_of_getElem? (i := 1) rfl) rfl ?_
  refine j_iconst (v := 0) C dX5_takeOut_34 rfl ?_
  refine j_ialdR0 1 C dX5_takeOut_35 rfl rfl ?_
  refine j_iload_n 1 C dX5_takeOut_36 rfl rfl ?_
  refine j_isub (x := nI (n - 1)) (y := nI k) (v := nI ((n - 1) - k)) C dX5_takeOut_37 (pk_sub (a := (n - 1)) (b := k) (by omega)) ?_
  refine j_imul (x := 28) (y := nI ((n - 1) - k)) (v := nI (28 * ((n - 1) - k))) C dX5_takeOut_38 (pk_mul 28 ((n - 1) - k)) ?_
  refine j_copyI (sp := 1 + 28 * (k + 1)) (dp := 1 + 28 * k) (n := 28 * ((n - 1) - k)) (rest := []) (ws' := [(m0, .inr (4, [.int th, .int np, .ref tb, .ref md, .ref rw0, .int sz, .ref cs, .ref va, .int lk, .ref rn, .ref kp])), (md, jaI g 253 (jrw (n - 1) (va_cpy f f ((k + 1) * 28 + 0) (k * 28 + 0) (28 * ((n - 1) - k)))))]) 1 1 C dX5_takeOut_39 (List.mem_of_getElem? (i := 2) rfl) (List.mem_of_getElem? (i := 3) rfl) (List.mem_of_getElem? (i := 4) rfl) (List.mem_of_getElem? (i := 5) rfl) rfl rfl rfl rfl rfl (by omega) (by omega) (by decide) (by decide) (Nat.le_of_ble_eq_true rfl) (Nat.le_of_ble_eq_true rfl) (by rw [jrw_c (sp := (k + 1) * 28 + 0) (dp := k * 28 + 0) (by omega) (by omega)]; rfl) ?_
  exact j_vretW C hr dX5_takeOut_42 () trivial (by rw [← jRm_c f hk]; rfl)
set_option maxHeartbeats 4000000 in
set_option maxRecDepth 100000 in
theorem c_X5_takeSteps (l : Launch) (g : jG) (m0 : Nat) (th np : Int32) (tb md rw0 : Nat) (sz : Int32) (cs va : Nat) (lk : Int32) (rn kp : Nat) (n : Nat) (f : Nat → Int32) (k f1 t1 a : Nat) (hk : k < 8) (ha : f (k * 28 + 3) = nI a) (ha6 : a ≤ 6) (h1 : f1 ≤ t1) (h2 : t1 ≤ a) : jWv l yX5_takeSteps wsX5_takeSteps ({ frames := 2, cells := 0, slots := 0, locals := 41 }) g [.ref m0, .int (nI k), .int (nI f1), .int (nI t1)] [(m0, .inr (4, [.int th, .int np, .ref tb, .ref md, .ref rw0, .int sz, .ref cs, .ref va, .int lk, .ref rn, .ref kp])), (md, jaI g 253 (jrw n f))] [(m0, .inr (4, [.int th, .int np, .ref tb, .ref md, .ref rw0, .int sz, .ref cs, .ref va, .int lk, .ref rn, .ref kp])), (md, jaI g 253 (jrw n (upd (va_cpy f f (k * 28 + 4 + t1 * 4) (k * 28 + 4 + f1 * 4) (4 * (a - t1))) (k * 28 + 3) (nI (a - (t1 - f1))))))] := by
  refine j_enterW (Qc := fun sz_ => va_Qv (fun (_ : Unit) => True) (fun _ t => va_P g.1 vwCl [(m0, .inr (4, [.int th, .int np, .ref tb, .ref md, .ref rw0, .int sz, .ref cs, .ref va, .int lk, .ref rn, .ref kp])), (md, jaI g 253 (jrw n (upd (va_cpy f f (k * 28 + 4 + t1 * 4) (k * 28 + 4 + f1 * 4) (4 * (a - t1))) (k * 28 + 3) (nI (a - (t1 - f1))))))] t.heap) (va_A [(m0, .inr (4, [.int th, .int np, .ref tb, .ref md, .ref rw0, .int sz, .ref cs, .ref va, .int lk, .ref rn, .ref kp])), (md, jaI g 253 (jrw n f))] sz_)) (cc := cX5_takeSteps) (maxL := 5) (ret := none) (own := RX5) (L := [(0, .ref m0), (1, .int (nI k)), (2, .int (nI f1)), (3, .int (nI t1))]) (by decide) rfl rfl (Nat.le_of_ble_eq_true rfl) rfl (fun p e s m args below meth c C hr => ?_)
  refine j_aload_n 0 C dX5_takeSteps_0 rfl rfl ?_
  refine j_get (Cn := RX5) (T := TX5) (N := 11) 0 3 C dX5_takeSteps_1 hin_X5_takeSteps_X5 rfl rfl (by decide) (List.mem_of_getElem? (i := 1) rfl) rfl ?_
  refine j_iload_n 1 C dX5_takeSteps_4 rfl rfl ?_
  refine j_callRi (v := f (k * 28 + 3)) (j_runS (As := [.ref md, .int (nI k)]) (rest := []) [1] C (c_X5_steps l g md n f k (by omega)) gX5_takeSteps_X5_steps rfl rfl rfl hd_X5_steps ⟨Nat.le_of_ble_eq_true rfl, Nat.le_of_ble_eq_true rfl⟩ rfl rfl dX5_takeSteps_5 rfl (Nat.le_of_ble_eq_true rfl) ⟨Nat.le_of_ble_eq_true rfl, Nat.le_of_ble_eq_true rfl⟩) ?_
  refine j_eq (pc' := 8) (L' := [(0, .ref m0), (1, .int (nI k)), (2, .int (nI f1)), (3, .int (nI t1))]) (st' := [.int (nI a)]) (ws' := [(m0, .inr (4, [.int th, .int np, .ref tb, .ref md, .ref rw0, .int sz, .ref cs, .ref va, .int lk, .ref rn, .ref kp])), (md, jaI g 253 (jrw n f))]) ?_ rfl rfl (by rw [ha]) rfl
  refine j_istore (L' := [(0, .ref m0), (1, .int (nI k)), (2, .int (nI f1)), (3, .int (nI t1)), (4, .int (nI a))]) C dX5_takeSteps_8 (Nat.le_of_ble_eq_true rfl) rfl rfl ?_
  refine j_aload_n 0 C dX5_takeSteps_10 rfl rfl ?_
  refine j_get (Cn := RX5) (T := TX5) (N := 11) 0 3 C dX5_takeSteps_11 hin_X5_takeSteps_X5 rfl rfl (by decide) (List.mem_of_getElem? (i := 1) rfl) rfl ?_
  refine j_iload_n 1 C dX5_takeSteps_14 rfl rfl ?_
  refine j_iload_n 3 C dX5_takeSteps_15 rfl rfl ?_
  refine j_callRi (v := nI (1 + 28 * k + 4 + 4 * t1)) (j_runS (As := [.int (nI k), .int (nI t1)]) (rest := [.ref md]) [] C (c_X5_stepAt l g k t1) gX5_takeSteps_X5_stepAt rfl rfl rfl hd_X5_stepAt ⟨Nat.le_of_ble_eq_true rfl, Nat.le_of_ble_eq_true rfl⟩ rfl rfl dX5_takeSteps_16 rfl (Nat.le_of_ble_eq_true rfl) ⟨Nat.le_of_ble_eq_true rfl, Nat.le_of_ble_eq_true rfl⟩) ?_
  refine j_aload_n 0 C dX5_takeSteps_19 rfl rfl ?_
  refine j_get (Cn := RX5) (T := TX5) (N := 11) 0 3 C dX5_takeSteps_20 hin_X5_takeSteps_X5 rfl rfl (by decide) (List.mem_of_getElem? (i := 1) rfl) rfl ?_
  refine j_iload_n 1 C dX5_takeSteps_23 rfl rfl ?_
  refine j_iload_n 2 C dX5_takeSteps_24 rfl rfl ?_
  refine j_callRi (v := nI (1 + 28 * k + 4 + 4 * f1)) (j_runS (As := [.int (nI k), .int (nI f1)]) (rest := [.ref md, .int (nI (1 + 28 * k + 4 + 4 * t1)), .ref md]) [] C (c_X5_stepAt l g k f1) gX5_takeSteps_X5_stepAt rfl rfl rfl hd_X5_stepAt ⟨Nat.le_of_ble_eq_true rfl, Nat.le_of_ble_eq_true rfl⟩ rfl rfl dX5_takeSteps_25 rfl (Nat.le_of_ble_eq_true rfl) ⟨Nat.le_of_ble_eq_true rfl, Nat.le_of_ble_eq_true rfl⟩) ?_
  refine j_iconst (v := 4) C dX5_takeSteps_28 rfl ?_
  refine j_iload 4 C dX5_takeSteps_29 rfl ?_
  refine j_iload_n 3 C dX5_takeSteps_31 rfl rfl ?_
  refine j_isub (x := nI a) (y := nI t1) (v := nI (a - t1)) C dX5_takeSteps_32 (pk_sub (a := a) (b := t1) (by omega)) ?_
  refine j_imul (x := 4) (y := nI (a - t1)) (v := nI (4 * (a - t1))) C dX5_takeSteps_33 (pk_mul 4 (a - t1)) ?_
  refine j_copyI (sp := 1 + 28 * k + 4 + 4 * t1) (dp := 1 + 28 * k + 4 + 4 * f1) (n := 4 * (a - t1)) (rest := []) (ws' := [(m0, .inr (4, [.int th, .int np, .ref tb, .ref md, .ref rw0, .int sz, .ref cs, .ref va, .int lk, .ref rn, .ref kp])), (md, jaI g 253 (jrw n (va_cpy f f (k * 28 + 4 + t1 * 4) (k * 28 + 4 + f1 * 4) (4 * (a - t1)))))]) 1 1 C dX5_takeSteps_34 (List.mem_of_getElem? (i := 2) rfl) (List.mem_of_getElem? (i := 3) rfl) (List.mem_of_getElem? (i := 4) rfl) (List.mem_of_getElem? (i := 5) rfl) rfl rfl rfl rfl rfl (by omega) (by omega) (by decide) (by decide) (Nat.le_of_ble_eq_true rfl) (Nat.le_of_ble_eq_true rfl) (by rw [jrw_c (sp := k * 28 + 4 + t1 * 4) (dp := k * 28 + 4 + f1 * 4) (by omega) (by omega)]; rfl) ?_
  refine j_aload_n 0 C dX5_takeSteps_37 rfl rfl ?_
  refine j_get (Cn := RX5) (T := TX5) (N := 11) 0 3 C dX5_takeSteps_38 hin_X5_takeSteps_X5 rfl rfl (by decide) (List.mem_of_getElem? (i := 1) rfl) rfl ?_
  refine j_iload_n 1 C dX5_takeSteps_41 rfl rfl ?_
  refine j_callRi (v := nI (1 + 28 * k)) (j_runS (As := [.int (nI k)]) (rest := [.ref md]) [] C (c_X5_loopAt l g k) gX5_takeSteps_X5_loopAt rfl rfl rfl hd_X5_loopAt ⟨Nat.le_of_ble_eq_true rfl, Nat.le_of_ble_eq_true rfl⟩ rfl rfl dX5_takeSteps_42 rfl (Nat.le_of_ble_eq_true rfl) ⟨Nat.le_of_ble_eq_true rfl, Nat.le_of_ble_eq_true rfl⟩) ?_
  refine j_iconst (v := 3) C dX5_takeSteps_45 rfl ?_
  refine j_iadd (x := nI (1 + 28 * k)) (y := 3) (v := nI (1 + 28 * k + 3)) C dX5_takeSteps_46 (nI_add (1 + 28 * k) 3) ?_
  refine j_iload 4 C dX5_takeSteps_47 rfl ?_
  refine j_iload_n 3 C dX5_takeSteps_49 rfl rfl ?_
  refine j_iload_n 2 C dX5_takeSteps_50 rfl rfl ?_
  refine j_isub (x := nI t1) (y := nI f1) (v := nI (t1 - f1)) C dX5_takeSteps_51 (pk_sub (a := t1) (b := f1) (by omega)) ?_
  refine j_isub (x := nI a) (y := nI (t1 - f1)) (v := nI (a - (t1 - f1))) C dX5_takeSteps_52 (pk_sub (a := a) (b := t1 - f1) (by omega)) ?_
  refine j_iastR (x := 1 + 28 * k + 3) (y := k * 28 + 3) (ws' := [(m0, .inr (4, [.int th, .int np, .ref tb, .ref md, .ref rw0, .int sz, .ref cs, .ref va, .int lk, .ref rn, .ref kp])), (md, jaI g 253 (jrw n (upd (va_cpy f f (k * 28 + 4 + t1 * 4) (k * 28 + 4 + f1 * 4) (4 * (a - t1))) (k * 28 + 3) (nI (a - (t1 - f1))))))]) 1 C dX5_takeSteps_53 rfl rfl (by omega) (by omega) rfl ?_
  exact j_vretW C hr dX5_takeSteps_54 () trivial rfl
set_option maxHeartbeats 4000000 in
set_option maxRecDepth 100000 in
theorem c_X5_join (l : Launch) (g : jG) (m0 : Nat) (th np : Int32) (tb md rw0 : Nat) (sz : Int32) (cs va : Nat) (lk : Int32) (rn kp : Nat) (n : Nat) (f : Nat → Int32) (k a b : Nat) (hk : k + 1 < n) (hn : n ≤ 8) (ha : f (k * 28 + 3) = nI a) (hb : f ((k + 1) * 28 + 3) = nI b) (hab : a + b ≤ 6) : jWv l yX5_join wsX5_join ({ frames := 2, cells := 0, slots := 0, locals := 41 }) g [.ref m0, .int (nI k)] [(m0, .inr (4, [.int th, .int np, .ref tb, .ref md, .ref rw0, .int sz, .ref cs, .ref va, .int lk, .ref rn, .ref kp])), (md, jaI g 253 (jrw n f))] [(m0, .inr (4, [.int th, .int np, .ref tb, .ref md, .ref rw0, .int sz, .ref cs, .ref va, .int lk, .ref rn, .ref kp])), (md, jaI g 253 (jrw (n - 1) (jRm (upd (va_cpy f f ((k + 1) * 28 + 4) (k * 28 + 4 + a * 4) (b * 4)) (k * 28 + 3) (nI (a + b))) ((k + 1) * 28) ((n - 1) * 28))))] := by
  refine j_enterW (Qc := fun sz_ => va_Qv (fun (_ : Unit) => True) (fun _ t => va_P g.1 vwCl [(m0, .inr (4, [.int th, .int np, .ref tb, .ref md, .ref rw0, .int sz, .ref cs, .ref va, .int lk, .ref rn, .ref kp])), (md, jaI g 253 (jrw (n - 1) (jRm (upd (va_cpy f f ((k + 1) * 28 + 4) (k * 28 + 4 + a * 4) (b * 4)) (k * 28 + 3) (nI (a + b))) ((k + 1) * 28) ((n - 1) * 28))))] t.heap) (va_A [(m0, .inr (4, [.int th, .int np, .ref tb, .ref md, .ref rw0, .int sz, .ref cs, .ref va, .int lk, .ref rn, .ref kp])), (md, jaI g 253 (jrw n f))] sz_)) (cc := cX5_join) (maxL := 4) (ret := none) (own := RX5) (L := [(0, .ref m0), (1, .int (nI k))]) (by decide) rfl rfl (Nat.le_of_ble_eq_true rfl) rfl (fun p e s m args below meth c C hr => ?_)
  refine j_aload_n 0 C dX5_join_0 rfl rfl ?_
  refine j_get (Cn := RX5) (T := TX5) (N := 11) 0 3 C dX5_join_1 hin_X5_join_X5 rfl rfl (by decide) (List.mem_of_getElem? (i := 1) rfl) rfl ?_
  refine j_iload_n 1 C dX5_join_4 rfl rfl ?_
  refine j_callRi (v := f (k * 28 + 3)) (j_runS (As := [.ref md, .int (nI k)]) (rest := []) [1] C (c_X5_steps l g md n f k (by omega)) gX5_join_X5_steps rfl rfl rfl hd_X5_steps ⟨Nat.le_of_ble_eq_true rfl, Nat.le_of_ble_eq_true rfl⟩ rfl rfl dX5_join_5 rfl (Nat.le_of_ble_eq_true rfl) ⟨Nat.le_of_ble_eq_true rfl, Nat.le_of_ble_eq_true rfl⟩) ?_
  refine j_eq (pc' := 8) (L' := [(0, .ref m0), (1, .int (nI k))]) (st' := [.int (nI a)]) (ws' := [(m0, .inr (4, [.int th, .int np, .ref tb, .ref md, .ref rw0, .int sz, .ref cs, .ref va, .int lk, .ref rn, .ref kp])), (md, jaI g 253 (jrw n f))]) ?_ rfl rfl (by rw [ha]) rfl
  refine j_istore_n (L' := [(0, .ref m0), (1, .int (nI k)), (2, .int (nI a))]) C dX5_join_8 rfl (Nat.le_of_ble_eq_true rfl) rfl rfl ?_
  refine j_aload_n 0 C dX5_join_9 rfl rfl ?_
  refine j_get (Cn := RX5) (T := TX5) (N := 11) 0 3 C dX5_join_10 hin_X5_join_X5 rfl rfl (by decide) (List.mem_of_getElem? (i := 1) rfl) rfl ?_
  refine j_iload_n 1 C dX5_join_13 rfl rfl ?_
  refine j_iconst (v := 1) C dX5_join_14 rfl ?_
  refine j_iadd (x := nI k) (y := 1) (v := nI (k + 1)) C dX5_join_15 (nI_add k 1) ?_
  refine j_callRi (v := f ((k + 1) * 28 + 3)) (j_runS (As := [.ref md, .int (nI (k + 1))]) (rest := []) [1] C (c_X5_steps l g md n f (k + 1) (by omega)) gX5_join_X5_steps rfl rfl rfl hd_X5_steps ⟨Nat.le_of_ble_eq_true rfl, Nat.le_of_ble_eq_true rfl⟩ rfl rfl dX5_join_16 rfl (Nat.le_of_ble_eq_true rfl) ⟨Nat.le_of_ble_eq_true rfl, Nat.le_of_ble_eq_true rfl⟩) ?_
  refine j_eq (pc' := 19) (L' := [(0, .ref m0), (1, .int (nI k)), (2, .int (nI a))]) (st' := [.int (nI b)]) (ws' := [(m0, .inr (4, [.int th, .int np, .ref tb, .ref md, .ref rw0, .int sz, .ref cs, .ref va, .int lk, .ref rn, .ref kp])), (md, jaI g 253 (jrw n f))]) ?_ rfl rfl (by rw [hb]) rfl
  refine j_istore_n (L' := [(0, .ref m0), (1, .int (nI k)), (2, .int (nI a)), (3, .int (nI b))]) C dX5_join_19 rfl (Nat.le_of_ble_eq_true rfl) rfl rfl ?_
  refine j_aload_n 0 C dX5_join_20 rfl rfl ?_
  refine j_get (Cn := RX5) (T := TX5) (N := 11) 0 3 C dX5_join_21 hin_X5_join_X5 rfl rfl (by decide) (List.mem_of_getElem? (i := 1) rfl) rfl ?_
  refine j_iload_n 1 C dX5_join_24 rfl rfl ?_
  refine j_iconst (v := 1) C dX5_join_25 rfl ?_
  refine j_iadd (x := nI k) (y := 1) (v := nI (k + 1)) C dX5_join_26 (nI_add k 1) ?_
  refine j_iconst (v := 0) C dX5_join_27 rfl ?_
  refine j_callRi (v := nI (1 + 28 * (k + 1) + 4 + 4 * 0)) (j_runS (As := [.int (nI (k + 1)), .int 0]) (rest := [.ref md]) [] C (c_X5_stepAt l g (k + 1) 0) gX5_join_X5_stepAt rfl rfl rfl hd_X5_stepAt ⟨Nat.le_of_ble_eq_true rfl, Nat.le_of_ble_eq_true rfl⟩ rfl rfl dX5_join_28 rfl (Nat.le_of_ble_eq_true rfl) ⟨Nat.le_of_ble_eq_true rfl, Nat.le_of_ble_eq_true rfl⟩) ?_
  refine j_aload_n 0 C dX5_join_31 rfl rfl ?_
  refine j_get (Cn := RX5) (T := TX5) (N := 11) 0 3 C dX5_join_32 hin_X5_join_X5 rfl rfl (by decide) (List.mem_of_getElem? (i := 1) rfl) rfl ?_
  refine j_iload_n 1 C dX5_join_35 rfl rfl ?_
  refine j_iload_n 2 C dX5_join_36 rfl rfl ?_
  refine j_callRi (v := nI (1 + 28 * k + 4 + 4 * a)) (j_runS (As := [.int (nI k), .int (nI a)]) (rest := [.ref md, .int (nI (1 + 28 * (k + 1) + 4 + 4 * 0)), .ref md]) [] C (c_X5_stepAt l g k a) gX5_join_X5_stepAt rfl rfl rfl hd_X5_stepAt ⟨Nat.le_of_ble_eq_true rfl, Nat.le_of_ble_eq_true rfl⟩ rfl rfl dX5_join_37 rfl (Nat.le_of_ble_eq_true rfl) ⟨Nat.le_of_ble_eq_true rfl, Nat.le_of_ble_eq_true rfl⟩) ?_
  refine j_iconst (v := 4) C dX5_join_40 rfl ?_
  refine j_iload_n 3 C dX5_join_41 rfl rfl ?_
  refine j_imul (x := 4) (y := nI b) (v := nI (4 * b)) C dX5_join_42 (pk_mul 4 b) ?_
  refine j_copyI (sp := 1 + 28 * (k + 1) + 4 + 4 * 0) (dp := 1 + 28 * k + 4 + 4 * a) (n := 4 * b) (rest := []) (ws' := [(m0, .inr (4, [.int th, .int np, .ref tb, .ref md, .ref rw0, .int sz, .ref cs, .ref va, .int lk, .ref rn, .ref kp])), (md, jaI g 253 (jrw n (va_cpy f f ((k + 1) * 28 + 4 + 0 * 4) (k * 28 + 4 + a * 4) (4 * b))))]) 1 1 C dX5_join_43 (List.mem_of_getElem? (i := 2) rfl) (List.mem_of_getElem? (i := 3) rfl) (List.mem_of_getElem? (i := 4) rfl) (List.mem_of_getElem? (i := 5) rfl) rfl rfl rfl rfl rfl (by omega) (by omega) (by decide) (by decide) (Nat.le_of_ble_eq_true rfl) (Nat.le_of_ble_eq_true rfl) (by rw [jrw_c (sp := (k + 1) * 28 + 4 + 0 * 4) (dp := k * 28 + 4 + a * 4) (by omega) (by omega)]; rfl) ?_
  refine j_eq (pc' := 46) (L' := [(0, .ref m0), (1, .int (nI k)), (2, .int (nI a)), (3, .int (nI b))]) (st' := []) (ws' := [(m0, .inr (4, [.int th, .int np, .ref tb, .ref md, .ref rw0, .int sz, .ref cs, .ref va, .int lk, .ref rn, .ref kp])), (md, jaI g 253 (jrw n (va_cpy f f ((k + 1) * 28 + 4) (k * 28 + 4 + a * 4) (b * 4))))]) ?_ rfl rfl rfl (by rw [show (k + 1) * 28 + 4 + 0 * 4 = (k + 1) * 28 + 4 by omega, Nat.mul_comm 4 b])
  refine j_aload_n 0 C dX5_join_46 rfl rfl ?_
  refine j_get (Cn := RX5) (T := TX5) (N := 11) 0 3 C dX5_join_47 hin_X5_join_X5 rfl rfl (by decide) (List.mem_of_getElem? (i := 1) rfl) rfl ?_
  refine j_iload_n 1 C dX5_join_50 rfl rfl ?_
  refine j_callRi (v := nI (1 + 28 * k)) (j_runS (As := [.int (nI k)]) (rest := [.ref md]) [] C (c_X5_loopAt l g k) gX5_join_X5_loopAt rfl rfl rfl hd_X5_loopAt ⟨Nat.le_of_ble_eq_true rfl, Nat.le_of_ble_eq_true rfl⟩ rfl rfl dX5_join_51 rfl (Nat.le_of_ble_eq_true rfl) ⟨Nat.le_of_ble_eq_true rfl, Nat.le_of_ble_eq_true rfl⟩) ?_
  refine j_iconst (v := 3) C dX5_join_54 rfl ?_
  refine j_iadd (x := nI (1 + 28 * k)) (y := 3) (v := nI (1 + 28 * k + 3)) C dX5_join_55 (nI_add (1 + 28 * k) 3) ?_
  refine j_iload_n 2 C dX5_join_56 rfl rfl ?_
  refine j_iload_n 3 C dX5_join_57 rfl rfl ?_
  refine j_iadd (x := nI a) (y := nI b) (v := nI (a + b)) C dX5_join_58 (nI_add a b) ?_
  refine j_iastR (x := 1 + 28 * k + 3) (y := k * 28 + 3) (ws' := [(m0, .inr (4, [.int th, .int np, .ref tb, .ref md, .ref rw0, .int sz, .ref cs, .ref va, .int lk, .ref rn, .ref kp])), (md, jaI g 253 (jrw n (upd (va_cpy f f ((k + 1) * 28 + 4) (k * 28 + 4 + a * 4) (b * 4)) (k * 28 + 3) (nI (a + b)))))]) 1 C dX5_join_59 rfl rfl (by omega) (by omega) rfl ?_
  refine j_aload_n 0 C dX5_join_60 rfl rfl ?_
  refine j_iload_n 1 C dX5_join_61 rfl rfl ?_
  refine j_iconst (v := 1) C dX5_join_62 rfl ?_
  refine j_iadd (x := nI k) (y := 1) (v := nI (k + 1)) C dX5_join_63 (nI_add k 1) ?_
  refine j_callWv [0, 1] (fun _ => [(m0, .inr (4, [.int th, .int np, .ref tb, .ref md, .ref rw0, .int sz, .ref cs, .ref va, .int lk, .ref rn, .ref kp])), (md, jaI g 253 (jrw (n - 1) (jRm (upd (va_cpy f f ((k + 1) * 28 + 4) (k * 28 + 4 + a * 4) (b * 4)) (k * 28 + 3) (nI (a + b))) ((k + 1) * 28) ((n - 1) * 28))))]) C (j_runV (ci := 0) (As := [.int (nI (k + 1))]) (rest := []) [0, 1] C (c_X5_takeOut l g m0 th np tb md rw0 sz cs va lk rn kp n (upd (va_cpy f f ((k + 1) * 28 + 4) (k * 28 + 4 + a * 4) (b * 4)) (k * 28 + 3) (nI (a + b))) (k + 1) (by omega) (by omega)) gX5_join_X5_takeOut rfl rfl rfl hd_X5_takeOut ⟨Nat.le_of_ble_eq_true rfl, Nat.le_of_ble_eq_true rfl⟩ rfl rfl rfl rfl dX5_join_64 rfl (Nat.le_of_ble_eq_true rfl) ⟨Nat.le_of_ble_eq_true rfl, Nat.le_of_ble_eq_true rfl⟩) rfl (fun _ => rfl) (fun _ => rfl) (fun _ _ => ?_)
  exact j_vretW C hr dX5_join_67 () trivial rfl
set_option maxHeartbeats 4000000 in
set_option maxRecDepth 100000 in
theorem c_X5_divide (l : Launch) (g : jG) (m0 : Nat) (th np : Int32) (tb md rw0 : Nat) (sz : Int32) (cs va : Nat) (lk : Int32) (rn kp : Nat) (n : Nat) (f : Nat → Int32) (k i a : Nat) (hk : k < n) (hn : n < 8) (ha : f (k * 28 + 3) = nI a) (hi : i ≤ a) (ha6 : a ≤ 6) : jWv l yX5_divide wsX5_divide ({ frames := 3, cells := 0, slots := 0, locals := 65 }) g [.ref m0, .int (nI k), .int (nI i)] [(m0, .inr (4, [.int th, .int np, .ref tb, .ref md, .ref rw0, .int sz, .ref cs, .ref va, .int lk, .ref rn, .ref kp])), (md, jaI g 253 (jrw n f))] [(m0, .inr (4, [.int th, .int np, .ref tb, .ref md, .ref rw0, .int sz, .ref cs, .ref va, .int lk, .ref rn, .ref kp])), (md, jaI g 253 (jrw (n + 1) (upd (va_cpy (upd (jRp f (n * 28) (k * 28)) (k * 28 + 3) (nI i)) (upd (jRp f (n * 28) (k * 28)) (k * 28 + 3) (nI i)) ((k + 1) * 28 + 4 + i * 4) ((k + 1) * 28 + 4) ((a - i) * 4)) ((k + 1) * 28 + 3) (nI (a - i)))))] := by
  refine j_enterW (Qc := fun sz_ => va_Qv (fun (_ : Unit) => True) (fun _ t => va_P g.1 vwCl [(m0, .inr (4, [.int th, .int np, .ref tb, .ref md, .ref rw0, .int sz, .ref cs, .ref va, .int lk, .ref rn, .ref kp])), (md, jaI g 253 (jrw (n + 1) (upd (va_cpy (upd (jRp f (n * 28) (k * 28)) (k * 28 + 3) (nI i)) (upd (jRp f (n * 28) (k * 28)) (k * 28 + 3) (nI i)) ((k + 1) * 28 + 4 + i * 4) ((k + 1) * 28 + 4) ((a - i) * 4)) ((k + 1) * 28 + 3) (nI (a - i)))))] t.heap) (va_A [(m0, .inr (4, [.int th, .int np, .ref tb, .ref md, .ref rw0, .int sz, .ref cs, .ref va, .int lk, .ref rn, .ref kp])), (md, jaI g 253 (jrw n f))] sz_)) (cc := cX5_divide) (maxL := 4) (ret := none) (own := RX5) (L := [(0, .ref m0), (1, .int (nI k)), (2, .int (nI i))]) (by decide) rfl rfl (Nat.le_of_ble_eq_true rfl) rfl (fun p e s m args below meth c C hr => ?_)
  refine j_aload_n 0 C dX5_divide_0 rfl rfl ?_
  refine j_get (Cn := RX5) (T := TX5) (N := 11) 0 3 C dX5_divide_1 hin_X5_divide_X5 rfl rfl (by decide) (List.mem_of_getElem? (i := 1) rfl) rfl ?_
  refine j_iload_n 1 C dX5_divide_4 rfl rfl ?_
  refine j_callRi (v := f (k * 28 + 3)) (j_runS (As := [.ref md, .int (nI k)]) (rest := []) [1] C (c_X5_steps l g md n f k (by omega)) gX5_divide_X5_steps rfl rfl rfl hd_X5_steps ⟨Nat.le_of_ble_eq_true rfl, Nat.le_of_ble_eq_true rfl⟩ rfl rfl dX5_divide_5 rfl (Nat.le_of_ble_eq_true rfl) ⟨Nat.le_of_ble_eq_true rfl, Nat.le_of_ble_eq_true rfl⟩) ?_
  refine j_eq (pc' := 8) (L' := [(0, .ref m0), (1, .int (nI k)), (2, .int (nI i))]) (st' := [.int (nI a)]) (ws' := [(m0, .inr (4, [.int th, .int np, .ref tb, .ref md, .ref rw0, .int sz, .ref cs, .ref va, .int lk, .ref rn, .ref kp])), (md, jaI g 253 (jrw n f))]) ?_ rfl rfl (by rw [ha]) rfl
  refine j_istore_n (L' := [(0, .ref m0), (1, .int (nI k)), (2, .int (nI i)), (3, .int (nI a))]) C dX5_divide_8 rfl (Nat.le_of_ble_eq_true rfl) rfl rfl ?_
  refine j_aload_n 0 C dX5_divide_9 rfl rfl ?_
  refine j_iload_n 1 C dX5_divide_10 rfl rfl ?_
  refine j_callWv [0, 1] (fun _ => [(m0, .inr (4, [.int th, .int np, .ref tb, .ref md, .ref rw0, .int sz, .ref cs, .ref va, .int lk, .ref rn, .ref kp])), (md, jaI g 253 (jrw (n + 1) (jRp f (n * 28) (k * 28))))]) C (j_runV (ci := 0) (As := [.int (nI k)]) (rest := []) [0, 1] C (c_X5_twice l g m0 th np tb md rw0 sz cs va lk rn kp n f k (by omega) (by omega)) gX5_divide_X5_twice rfl rfl rfl hd_X5_twice ⟨Nat.le_of_ble_eq_true rfl, Nat.le_of_ble_eq_true rfl⟩ rfl rfl rfl rfl dX5_divide_11 rfl (Nat.le_of_ble_eq_true rfl) ⟨Nat.le_of_ble_eq_true rfl, Nat.le_of_ble_eq_true rfl⟩) rfl (fun _ => rfl) (fun _ => rfl) (fun _ _ => ?_)
  refine j_aload_n 0 C dX5_divide_14 rfl rfl ?_
  refine j_iload_n 1 C dX5_divide_15 rfl rfl ?_
  refine j_iload_n 2 C dX5_divide_16 rfl rfl ?_
  refine j_iload_n 3 C dX5_divide_17 rfl rfl ?_
  refine j_callWv [0, 1] (fun _ => [(m0, .inr (4, [.int th, .int np, .ref tb, .ref md, .ref rw0, .int sz, .ref cs, .ref va, .int lk, .ref rn, .ref kp])), (md, jaI g 253 (jrw (n + 1) (upd (va_cpy (jRp f (n * 28) (k * 28)) (jRp f (n * 28) (k * 28)) (k * 28 + 4 + a * 4) (k * 28 + 4 + i * 4) (4 * (a - a))) (k * 28 + 3) (nI (a - (a - i))))))]) C (j_runV (ci := 0) (As := [.int (nI k), .int (nI i), .int (nI a)]) (rest := []) [0, 1] C (c_X5_takeSteps l g m0 th np tb md rw0 sz cs va lk rn kp (n + 1) (jRp f (n * 28) (k * 28)) k i a a (by omega) (by rw [jRp_1 f (by omega)]; exact ha) (by omega) (by omega) (by omega)) gX5_divide_X5_takeSteps rfl rfl rfl hd_X5_takeSteps ⟨Nat.le_of_ble_eq_true rfl, Nat.le_of_ble_eq_true rfl⟩ rfl rfl rfl rfl dX5_divide_18 rfl (Nat.le_of_ble_eq_true rfl) ⟨Nat.le_of_ble_eq_true rfl, Nat.le_of_ble_eq_true rfl⟩) rfl (fun _ => rfl) (fun _ => rfl) (fun _ _ => ?_)
  refine j_eq (pc' := 21) (L' := [(0, .ref m0), (1, .int (nI k)), (2, .int (nI i)), (3, .int (nI a))]) (st' := []) (ws' := [(m0, .inr (4, [.int th, .int np, .ref tb, .ref md, .ref rw0, .int sz, .ref cs, .ref va, .int lk, .ref rn, .ref kp])), (md, jaI g 253 (jrw (n + 1) (upd (jRp f (n * 28) (k * 28)) (k * 28 + 3) (nI i))))]) ?_ rfl rfl rfl (by rw [Nat.sub_self, Nat.mul_zero, jcp_0, show a - (a - i) = i by omega])
  refine j_aload_n 0 C dX5_divide_21 rfl rfl ?_
  refine j_iload_n 1 C dX5_divide_22 rfl rfl ?_
  refine j_iconst (v := 1) C dX5_divide_23 rfl ?_
  refine j_iadd (x := nI k) (y := 1) (v := nI (k + 1)) C dX5_divide_24 (nI_add k 1) ?_
  refine j_iconst (v := 0) C dX5_divide_25 rfl ?_
  refine j_iload_n 2 C dX5_divide_26 rfl rfl ?_
  refine j_callWv [0, 1] (fun _ => [(m0, .inr (4, [.int th, .int np, .ref tb, .ref md, .ref rw0, .int sz, .ref cs, .ref va, .int lk, .ref rn, .ref kp])), (md, jaI g 253 (jrw (n + 1) (upd (va_cpy (upd (jRp f (n * 28) (k * 28)) (k * 28 + 3) (nI i)) (upd (jRp f (n * 28) (k * 28)) (k * 28 + 3) (nI i)) ((k + 1) * 28 + 4 + i * 4) ((k + 1) * 28 + 4 + 0 * 4) (4 * (a - i))) ((k + 1) * 28 + 3) (nI (a - (i - 0))))))]) C (j_runV (ci := 0) (As := [.int (nI (k + 1)), .int 0, .int (nI i)]) (rest := []) [0, 1] C (c_X5_takeSteps l g m0 th np tb md rw0 sz cs va lk rn kp (n + 1) (upd (jRp f (n * 28) (k * 28)) (k * 28 + 3) (nI i)) (k + 1) 0 i a (by omega) (by rw [pk_un (by omega), jRp_2 f (j := k * 28 + 3) (by omega) (by omega) (by omega)]; exact ha) (by omega) (by omega) (by omega)) gX5_divide_X5_takeSteps rfl rfl rfl hd_X5_takeSteps ⟨Nat.le_of_ble_eq_true rfl, Nat.le_of_ble_eq_true rfl⟩ rfl rfl rfl rfl dX5_divide_27 rfl (Nat.le_of_ble_eq_true rfl) ⟨Nat.le_of_ble_eq_true rfl, Nat.le_of_ble_eq_true rfl⟩) rfl (fun _ => rfl) (fun _ => rfl) (fun _ _ => ?_)
  exact j_vretW C hr dX5_divide_30 () trivial (by rw [show (k + 1) * 28 + 4 + 0 * 4 = (k + 1) * 28 + 4 by omega, Nat.mul_comm 4 (a - i), Nat.sub_zero])
set_option maxHeartbeats 4000000 in
set_option maxRecDepth 100000 in
theorem c_X5_peel (l : Launch) (g : jG) (m0 : Nat) (th np : Int32) (tb md rw0 : Nat) (sz : Int32) (cs va : Nat) (lk : Int32) (rn kp : Nat) (n : Nat) (f : Nat → Int32) (k w v : Nat) (hk : k < n) (hn : n < 8) (hv : f (k * 28 + 0) = nI v) (hv9 : v + 1 ≤ w) : jWv l yX5_peel wsX5_peel ({ frames := 2, cells := 0, slots := 0, locals := 41 }) g [.ref m0, .int (nI k), .int (nI w)] [(m0, .inr (4, [.int th, .int np, .ref tb, .ref md, .ref rw0, .int sz, .ref cs, .ref va, .int lk, .ref rn, .ref kp])), (md, jaI g 253 (jrw n f))] [(m0, .inr (4, [.int th, .int np, .ref tb, .ref md, .ref rw0, .int sz, .ref cs, .ref va, .int lk, .ref rn, .ref kp])), (md, jaI g 253 (jrw (n + 1) (upd (upd (jRp f (n * 28) (k * 28)) (k * 28 + 1) (nI (w - 1 - v))) ((k + 1) * 28 + 0) (nI (v + 1)))))] := by
  refine j_enterW (Qc := fun sz_ => va_Qv (fun (_ : Unit) => True) (fun _ t => va_P g.1 vwCl [(m0, .inr (4, [.int th, .int np, .ref tb, .ref md, .ref rw0, .int sz, .ref cs, .ref va, .int lk, .ref rn, .ref kp])), (md, jaI g 253 (jrw (n + 1) (upd (upd (jRp f (n * 28) (k * 28)) (k * 28 + 1) (nI (w - 1 - v))) ((k + 1) * 28 + 0) (nI (v + 1)))))] t.heap) (va_A [(m0, .inr (4, [.int th, .int np, .ref tb, .ref md, .ref rw0, .int sz, .ref cs, .ref va, .int lk, .ref rn, .ref kp])), (md, jaI g 253 (jrw n f))] sz_)) (cc := cX5_peel) (maxL := 3) (ret := none) (own := RX5) (L := [(0, .ref m0), (1, .int (nI k)), (2, .int (nI w))]) (by decide) rfl rfl (Nat.le_of_ble_eq_true rfl) rfl (fun p e s m args below meth c C hr => ?_)
  refine j_aload_n 0 C dX5_peel_0 rfl rfl ?_
  refine j_iload_n 1 C dX5_peel_1 rfl rfl ?_
  refine j_callWv [0, 1] (fun _ => [(m0, .inr (4, [.int th, .int np, .ref tb, .ref md, .ref rw0, .int sz, .ref cs, .ref va, .int lk, .ref rn, .ref kp])), (md, jaI g 253 (jrw (n + 1) (jRp f (n * 28) (k * 28))))]) C (j_runV (ci := 0) (As := [.int (nI k)]) (rest := []) [0, 1] C (c_X5_twice l g m0 th np tb md rw0 sz cs va lk rn kp n f k (by omega) (by omega)) gX5_peel_X5_twice rfl rfl rfl hd_X5_twice ⟨Nat.le_of_ble_eq_true rfl, Nat.le_of_ble_eq_true rfl⟩ rfl rfl rfl rfl dX5_peel_2 rfl (Nat.le_of_ble_eq_true rfl) ⟨Nat.le_of_ble_eq_true rfl, Nat.le_of_ble_eq_true rfl⟩) rfl (fun _ => rfl) (fun _ => rfl) (fun _ _ => ?_)
  refine j_aload_n 0 C dX5_peel_5 rfl rfl ?_
  refine j_get (Cn := RX5) (T := TX5) (N := 11) 0 3 C dX5_peel_6 hin_X5_peel_X5 rfl rfl (by decide) (List.mem_of_getElem? (i := 1) rfl) rfl ?_
  refine j_iload_n 1 C dX5_peel_9 rfl rfl ?_
  refine j_callRi (v := nI (1 + 28 * k)) (j_runS (As := [.int (nI k)]) (rest := [.ref md]) [] C (c_X5_loopAt l g k) gX5_peel_X5_loopAt rfl rfl rfl hd_X5_loopAt ⟨Nat.le_of_ble_eq_true rfl, Nat.le_of_ble_eq_true rfl⟩ rfl rfl dX5_peel_10 rfl (Nat.le_of_ble_eq_true rfl) ⟨Nat.le_of_ble_eq_true rfl, Nat.le_of_ble_eq_true rfl⟩) ?_
  refine j_iconst (v := 1) C dX5_peel_13 rfl ?_
  refine j_iadd (x := nI (1 + 28 * k)) (y := 1) (v := nI (1 + 28 * k + 1)) C dX5_peel_14 (nI_add (1 + 28 * k) 1) ?_
  refine j_iload_n 2 C dX5_peel_15 rfl rfl ?_
  refine j_iconst (v := 1) C dX5_peel_16 rfl ?_
  refine j_isub (x := nI w) (y := 1) (v := nI (w - 1)) C dX5_peel_17 (pk_sub (a := w) (b := 1) (by omega)) ?_
  refine j_aload_n 0 C dX5_peel_18 rfl rfl ?_
  refine j_get (Cn := RX5) (T := TX5) (N := 11) 0 3 C dX5_peel_19 hin_X5_peel_X5 rfl rfl (by decide) (List.mem_of_getElem? (i := 1) rfl) rfl ?_
  refine j_iload_n 1 C dX5_peel_22 rfl rfl ?_
  refine j_callRi (v := nI (1 + 28 * k)) (j_runS (As := [.int (nI k)]) (rest := [.ref md, .int (nI (w - 1)), .int (nI (1 + 28 * k + 1)), .ref md]) [] C (c_X5_loopAt l g k) gX5_peel_X5_loopAt rfl rfl rfl hd_X5_loopAt ⟨Nat.le_of_ble_eq_true rfl, Nat.le_of_ble_eq_true rfl⟩ rfl rfl dX5_peel_23 rfl (Nat.le_of_ble_eq_true rfl) ⟨Nat.le_of_ble_eq_true rfl, Nat.le_of_ble_eq_true rfl⟩) ?_
  refine j_ialdR (x := 1 + 28 * k) (y := k * 28 + 0) 1 C dX5_peel_26 rfl rfl (by omega) (by omega) ?_
  refine j_eq (pc' := 27) (L' := [(0, .ref m0), (1, .int (nI k)), (2, .int (nI w))]) (st' := [.int (nI v), .int (nI (w - 1)), .int (nI (1 + 28 * k + 1)), .ref md]) (ws' := [(m0, .inr (4, [.int th, .int np, .ref tb, .ref md, .ref rw0, .int sz, .ref cs, .ref va, .int lk, .ref rn, .ref kp])), (md, jaI g 253 (jrw (n + 1) (jRp f (n * 28) (k * 28))))]) ?_ rfl rfl (by rw [jRp_1 f (by omega), hv]) rfl
  refine j_isub (x := nI (w - 1)) (y := nI v) (v := nI ((w - 1) - v)) C dX5_peel_27 (pk_sub (a := w - 1) (b := v) (by omega)) ?_
  refine j_iastR (x := 1 + 28 * k + 1) (y := k * 28 + 1) (ws' := [(m0, .inr (4, [.int th, .int np, .ref tb, .ref md, .ref rw0, .int sz, .ref cs, .ref va, .int lk, .ref rn, .ref kp])), (md, jaI g 253 (jrw (n + 1) (upd (jRp f (n * 28) (k * 28)) (k * 28 + 1) (nI ((w - 1) - v)))))]) 1 C dX5_peel_28 rfl rfl (by omega) (by omega) rfl ?_
  refine j_aload_n 0 C dX5_peel_29 rfl rfl ?_
  refine j_get (Cn := RX5) (T := TX5) (N := 11) 0 3 C dX5_peel_30 hin_X5_peel_X5 rfl rfl (by decide) (List.mem_of_getElem? (i := 1) rfl) rfl ?_
  refine j_iload_n 1 C dX5_peel_33 rfl rfl ?_
  refine j_iconst (v := 1) C dX5_peel_34 rfl ?_
  refine j_iadd (x := nI k) (y := 1) (v := nI (k + 1)) C dX5_peel_35 (nI_add k 1) ?_
  refine j_callRi (v := nI (1 + 28 * (k + 1))) (j_runS (As := [.int (nI (k + 1))]) (rest := [.ref md]) [] C (c_X5_loopAt l g (k + 1)) gX5_peel_X5_loopAt rfl rfl rfl hd_X5_loopAt ⟨Nat.le_of_ble_eq_true rfl, Nat.le_of_ble_eq_true rfl⟩ rfl rfl dX5_peel_36 rfl (Nat.le_of_ble_eq_true rfl) ⟨Nat.le_of_ble_eq_true rfl, Nat.le_of_ble_eq_true rfl⟩) ?_
  refine j_dup2 C dX5_peel_39 rfl rfl ?_
  refine j_ialdR (x := 1 + 28 * (k + 1)) (y := (k + 1) * 28 + 0) 1 C dX5_peel_40 rfl rfl (by omega) (by omega) ?_
  refine j_eq (pc' := 41) (L' := [(0, .ref m0), (1, .int (nI k)), (2, .int (nI w))]) (st' := [.int (nI v), .int (nI (1 + 28 * (k + 1))), .ref md]) (ws' := [(m0, .inr (4, [.int th, .int np, .ref tb, .ref md, .ref rw0, .int sz, .ref cs, .ref va, .int lk, .ref rn, .ref kp])), (md, jaI g 253 (jrw (n + 1) (upd (jRp f (n * 28) (k * 28)) (k * 28 + 1) (nI ((w - 1) - v)))))]) ?_ rfl rfl (by rw [pk_un (by omega), jRp_2 f (j := k * 28 + 0) (by omega) (by omega) (by omega), hv]) rfl
  refine j_iconst (v := 1) C dX5_peel_41 rfl ?_
  refine j_iadd (x := nI v) (y := 1) (v := nI (v + 1)) C dX5_peel_42 (nI_add v 1) ?_
  refine j_iastR (x := 1 + 28 * (k + 1)) (y := (k + 1) * 28 + 0) (ws' := [(m0, .inr (4, [.int th, .int np, .ref tb, .ref md, .ref rw0, .int sz, .ref cs, .ref va, .int lk, .ref rn, .ref kp])), (md, jaI g 253 (jrw (n + 1) (upd (upd (jRp f (n * 28) (k * 28)) (k * 28 + 1) (nI ((w - 1) - v))) ((k + 1) * 28 + 0) (nI (v + 1)))))]) 1 C dX5_peel_43 rfl rfl (by omega) (by omega) rfl ?_
  exact j_vretW C hr dX5_peel_44 () trivial rfl
set_option maxHeartbeats 4000000 in
set_option maxRecDepth 100000 in
theorem c_X5_swap (l : Launch) (g : jG) (m0 : Nat) (th np : Int32) (tb md rw0 : Nat) (sz : Int32) (cs va : Nat) (lk : Int32) (rn kp : Nat) (n : Nat) (f : Nat → Int32) (k : Nat) (hk : k < 7) : jWv l yX5_swap wsX5_swap ({ frames := 1, cells := 0, slots := 0, locals := 20 }) g [.ref m0, .int (nI k)] [(m0, .inr (4, [.int th, .int np, .ref tb, .ref md, .ref rw0, .int sz, .ref cs, .ref va, .int lk, .ref rn, .ref kp])), (md, jaI g 253 (jrw n f))] [(m0, .inr (4, [.int th, .int np, .ref tb, .ref md, .ref rw0, .int sz, .ref cs, .ref va, .int lk, .ref rn, .ref kp])), (md, jaI g 253 (jrw n (jSw f (k * 28) (k * 28 + 28))))] := by
  refine j_enterW (Qc := fun sz_ => va_Qv (fun (_ : Unit) => True) (fun _ t => va_P g.1 vwCl [(m0, .inr (4, [.int th, .int np, .ref tb, .ref md, .ref rw0, .int sz, .ref cs, .ref va, .int lk, .ref rn, .ref kp])), (md, jaI g 253 (jrw n (jSw f (k * 28) (k * 28 + 28))))] t.heap) (va_A [(m0, .inr (4, [.int th, .int np, .ref tb, .ref md, .ref rw0, .int sz, .ref cs, .ref va, .int lk, .ref rn, .ref kp])), (md, jaI g 253 (jrw n f))] sz_)) (cc := cX5_swap) (maxL := 4) (ret := none) (own := RX5) (L := [(0, .ref m0), (1, .int (nI k))]) (by decide) rfl rfl (Nat.le_of_ble_eq_true rfl) rfl (fun p e s m args below meth c C hr => ?_)
  refine j_iconst (v := 0) C dX5_swap_0 rfl ?_
  refine j_istore_n (L' := [(0, .ref m0), (1, .int (nI k)), (2, .int 0)]) C dX5_swap_1 rfl (Nat.le_of_ble_eq_true rfl) rfl rfl ?_
  refine j_loop (σ := Nat) (fun (x : Nat) => [(0, .ref m0), (1, .int (nI k)), (2, .int (nI x))]) (fun (x : Nat) => [(m0, .inr (4, [.int th, .int np, .ref tb, .ref md, .ref rw0, .int sz, .ref cs, .ref va, .int lk, .ref rn, .ref kp])), (md, jaI g 253 (jrw n (jSw f (k * 28) (k * 28 + x))))]) (fun (x : Nat) => (x ≤ 28)) (fun (x : Nat) => 28 - x) (fun x_ hi_2 ih_1 => ?_) 0 (by omega) rfl (by rw [Nat.add_zero, jSw_0])
  obtain ⟨x, hx_⟩ : ∃ z, z = x_ := ⟨_, rfl⟩
  subst hx_
  have hi_2_0 : (x ≤ 28) := hi_2
  refine j_eq (pc' := 2) (L' := [(0, .ref m0), (1, .int (nI k)), (2, .int (nI x))]) (st' := []) (ws' := [(m0, .inr (4, [.int th, .int np, .ref tb, .ref md, .ref rw0, .int sz, .ref cs, .ref va, .int lk, .ref rn, .ref kp])), (md, jaI g 253 (jrw n (jSw f (k * 28) (k * 28 + x))))]) ?_ rfl rfl rfl rfl
  refine j_iload_n 2 C dX5_swap_2 rfl rfl ?_
  refine j_bipush (v := 28) C dX5_swap_3 rfl ?_
  refine j_icmp_ge (tgt := 64) C dX5_swap_5 (by decide) (fun c_3 => ?_) (fun c_3 => ?_)
  · skip
    have c_3 : 28 ≤ x := (nI_leI (a := 28) (b := x) (by omega) (by omega)).mp c_3
    exact j_vretW C hr dX5_swap_64 () trivial (by rw [show x = 28 by omega])
  · skip
    have c_3 : ¬ 28 ≤ x := fun z => c_3 ((nI_leI (a := 28) (b := x) (by omega) (by omega)).mpr z)
    refine j_aload_n 0 C dX5_swap_8 rfl rfl ?_
    refine j_get (Cn := RX5) (T := TX5) (N := 11) 0 3 C dX5_swap_9 hin_X5_swap_X5 rfl rfl (by decide) (List.mem_of_getElem? (i := 1) rfl) rfl ?_
    refine j_iload_n 1 C dX5_swap_12 rfl rfl ?_
    refine j_callRi (v := nI (1 + 28 * k)) (j_runS (As := [.int (nI k)]) (rest := [.ref md]) [] C (c_X5_loopAt l g k) gX5_swap_X5_loopAt rfl rfl rfl hd_X5_loopAt ⟨Nat.le_of_ble_eq_true rfl, Nat.le_of_ble_eq_true rfl⟩ rfl rfl dX5_swap_13 rfl (Nat.le_of_ble_eq_true rfl) ⟨Nat.le_of_ble_eq_true rfl, Nat.le_of_ble_eq_true rfl⟩) ?_
    refine j_iload_n 2 C dX5_swap_16 rfl rfl ?_
    refine j_iadd (x := nI (1 + 28 * k)) (y := nI x) (v := nI (1 + 28 * k + x)) C dX5_swap_17 (nI_add (1 + 28 * k) x) ?_
    refine j_ialdR (x := 1 + 28 * k + x) (y := k * 28 + x) 1 C dX5_swap_18 rfl rfl (by omega) (by omega) ?_
    refine j_istore_n (L' := [(0, .ref m0), (1, .int (nI k)), (2, .int (nI x)), (3, .int ((jSw f (k * 28) (k * 28 + x)) (k * 28 + x)))]) C dX5_swap_19 rfl (Nat.le_of_ble_eq_true rfl) rfl rfl ?_
    refine j_aload_n 0 C dX5_swap_20 rfl rfl ?_
    refine j_get (Cn := RX5) (T := TX5) (N := 11) 0 3 C dX5_swap_21 hin_X5_swap_X5 rfl rfl (by decide) (List.mem_of_getElem? (i := 1) rfl) rfl ?_
    refine j_iload_n 1 C dX5_swap_24 rfl rfl ?_
    refine j_callRi (v := nI (1 + 28 * k)) (j_runS (As := [.int (nI k)]) (rest := [.ref md]) [] C (c_X5_loopAt l g k) gX5_swap_X5_loopAt rfl rfl rfl hd_X5_loopAt ⟨Nat.le_of_ble_eq_true rfl, Nat.le_of_ble_eq_true rfl⟩ rfl rfl dX5_swap_25 rfl (Nat.le_of_ble_eq_true rfl) ⟨Nat.le_of_ble_eq_true rfl, Nat.le_of_ble_eq_true rfl⟩) ?_
    refine j_iload_n 2 C dX5_swap_28 rfl rfl ?_
    refine j_iadd (x := nI (1 + 28 * k)) (y := nI x) (v := nI (1 + 28 * k + x)) C dX5_swap_29 (nI_add (1 + 28 * k) x) ?_
    refine j_aload_n 0 C dX5_swap_30 rfl rfl ?_
    refine j_get (Cn := RX5) (T := TX5) (N := 11) 0 3 C dX5_swap_31 hin_X5_swap_X5 rfl rfl (by decide) (List.mem_of_getElem? (i := 1) rfl) rfl ?_
    refine j_iload_n 1 C dX5_swap_34 rfl rfl ?_
    refine j_iconst (v := 1) C dX5_swap_35 rfl ?_
    refine j_iadd (x := nI k) (y := 1) (v := nI (k + 1)) C dX5_swap_36 (nI_add k 1) ?_
    refine j_callRi (v := nI (1 + 28 * (k + 1))) (j_runS (As := [.int (nI (k + 1))]) (rest := [.ref md, .int (nI (1 + 28 * k + x)), .ref md]) [] C (c_X5_loopAt l g (k + 1)) gX5_swap_X5_loopAt rfl rfl rfl hd_X5_loopAt ⟨Nat.le_of_ble_eq_true rfl, Nat.le_of_ble_eq_true rfl⟩ rfl rfl dX5_swap_37 rfl (Nat.le_of_ble_eq_true rfl) ⟨Nat.le_of_ble_eq_true rfl, Nat.le_of_ble_eq_true rfl⟩) ?_
    refine j_iload_n 2 C dX5_swap_40 rfl rfl ?_
    refine j_iadd (x := nI (1 + 28 * (k + 1))) (y := nI x) (v := nI (1 + 28 * (k + 1) + x)) C dX5_swap_41 (nI_add (1 + 28 * (k + 1)) x) ?_
    refine j_ialdR (x := 1 + 28 * (k + 1) + x) (y := (k + 1) * 28 + x) 1 C dX5_swap_42 rfl rfl (by omega) (by omega) ?_
    refine j_iastR (x := 1 + 28 * k + x) (y := k * 28 + x) (ws' := [(m0, .inr (4, [.int th, .int np, .ref tb, .ref md, .ref rw0, .int sz, .ref cs, .ref va, .int lk, .ref rn, .ref kp])), (md, jaI g 253 (jrw n (upd (jSw f (k * 28) (k * 28 + x)) (k * 28 + x) ((jSw f (k * 28) (k * 28 + x)) ((k + 1) * 28 + x)))))]) 1 C dX5_swap_43 rfl rfl (by omega) (by omega) rfl ?_
    refine j_aload_n 0 C dX5_swap_44 rfl rfl ?_
    refine j_get (Cn := RX5) (T := TX5) (N := 11) 0 3 C dX5_swap_45 hin_X5_swap_X5 rfl rfl (by decide) (List.mem_of_getElem? (i := 1) rfl) rfl ?_
    refine j_iload_n 1 C dX5_swap_48 rfl rfl ?_
    refine j_iconst (v := 1) C dX5_swap_49 rfl ?_
    refine j_iadd (x := nI k) (y := 1) (v := nI (k + 1)) C dX5_swap_50 (nI_add k 1) ?_
    refine j_callRi (v := nI (1 + 28 * (k + 1))) (j_runS (As := [.int (nI (k + 1))]) (rest := [.ref md]) [] C (c_X5_loopAt l g (k + 1)) gX5_swap_X5_loopAt rfl rfl rfl hd_X5_loopAt ⟨Nat.le_of_ble_eq_true rfl, Nat.le_of_ble_eq_true rfl⟩ rfl rfl dX5_swap_51 rfl (Nat.le_of_ble_eq_true rfl) ⟨Nat.le_of_ble_eq_true rfl, Nat.le_of_ble_eq_true rfl⟩) ?_
    refine j_iload_n 2 C dX5_swap_54 rfl rfl ?_
    refine j_iadd (x := nI (1 + 28 * (k + 1))) (y := nI x) (v := nI (1 + 28 * (k + 1) + x)) C dX5_swap_55 (nI_add (1 + 28 * (k + 1)) x) ?_
    refine j_iload_n 3 C dX5_swap_56 rfl rfl ?_
    refine j_iastR (x := 1 + 28 * (k + 1) + x) (y := (k + 1) * 28 + x) (ws' := [(m0, .inr (4, [.int th, .int np, .ref tb, .ref md, .ref rw0, .int sz, .ref cs, .ref va, .int lk, .ref rn, .ref kp])), (md, jaI g 253 (jrw n (upd (upd (jSw f (k * 28) (k * 28 + x)) (k * 28 + x) ((jSw f (k * 28) (k * 28 + x)) ((k + 1) * 28 + x))) ((k + 1) * 28 + x) ((jSw f (k * 28) (k * 28 + x)) (k * 28 + x)))))]) 1 C dX5_swap_57 rfl rfl (by omega) (by omega) rfl ?_
    refine j_iinc (v := nI (x + 1)) (L' := [(0, .ref m0), (1, .int (nI k)), (2, .int (nI (x + 1))), (3, .int ((jSw f (k * 28) (k * 28 + x)) (k * 28 + x)))]) 2 C dX5_swap_58 rfl (nI_add x 1) (Nat.le_of_ble_eq_true rfl) rfl rfl ?_
    refine j_goto (tgt := 2) C dX5_swap_61 (by decide) ?_
    refine j_pick (L' := [(0, .ref m0), (1, .int (nI k)), (2, .int (nI (x + 1)))]) [0, 1, 2] rfl ?_
    refine j_eq (pc' := 2) (L' := [(0, .ref m0), (1, .int (nI k)), (2, .int (nI (x + 1)))]) (st' := []) (ws' := [(m0, .inr (4, [.int th, .int np, .ref tb, .ref md, .ref rw0, .int sz, .ref cs, .ref va, .int lk, .ref rn, .ref kp])), (md, jaI g 253 (jrw n (jSw f (k * 28) (k * 28 + (x + 1)))))]) ?_ rfl rfl rfl (by rw [show (k + 1) * 28 + x = k * 28 + x + 28 by omega, jSw_s f (by omega) (by omega), show k * 28 + x + 1 = k * 28 + (x + 1) by omega])
    exact ih_1 (x + 1) (by omega) (show 28 - (x + 1) < 28 - x from by omega)
set_option maxHeartbeats 4000000 in
set_option maxRecDepth 100000 in
theorem c_X5_strip (l : Launch) (g : jG) (m0 : Nat) (th np : Int32) (tb md rw0 : Nat) (sz : Int32) (cs va : Nat) (lk : Int32) (rn kp : Nat) (n : Nat) (f : Nat → Int32) (hok : jOk n f) : jWv l yX5_strip wsX5_strip ({ frames := 3, cells := 0, slots := 0, locals := 65 }) g [.ref m0] [(m0, .inr (4, [.int th, .int np, .ref tb, .ref md, .ref rw0, .int sz, .ref cs, .ref va, .int lk, .ref rn, .ref kp])), (md, jaI g 253 (jrw n f))] [(m0, .inr (4, [.int th, .int np, .ref tb, .ref md, .ref rw0, .int sz, .ref cs, .ref va, .int lk, .ref rn, .ref kp])), (md, jaI g 253 (jrw ((jStrip n (n, f)).1) ((jStrip n (n, f)).2)))] := by
  refine j_enterW (Qc := fun sz_ => va_Qv (fun (_ : Unit) => True) (fun _ t => va_P g.1 vwCl [(m0, .inr (4, [.int th, .int np, .ref tb, .ref md, .ref rw0, .int sz, .ref cs, .ref va, .int lk, .ref rn, .ref kp])), (md, jaI g 253 (jrw ((jStrip n (n, f)).1) ((jStrip n (n, f)).2)))] t.heap) (va_A [(m0, .inr (4, [.int th, .int np, .ref tb, .ref md, .ref rw0, .int sz, .ref cs, .ref va, .int lk, .ref rn, .ref kp])), (md, jaI g 253 (jrw n f))] sz_)) (cc := cX5_strip) (maxL := 4) (ret := none) (own := RX5) (L := [(0, .ref m0)]) (by decide) rfl rfl (Nat.le_of_ble_eq_true rfl) rfl (fun p e s m args below meth c C hr => ?_)
  have hn8 := hok.1
  refine j_aload_n 0 C dX5_strip_0 rfl rfl ?_
  refine j_get (Cn := RX5) (T := TX5) (N := 11) 0 3 C dX5_strip_1 hin_X5_strip_X5 rfl rfl (by decide) (List.mem_of_getElem? (i := 1) rfl) rfl ?_
  refine j_iconst (v := 0) C dX5_strip_4 rfl ?_
  refine j_ialdR0 1 C dX5_strip_5 rfl rfl ?_
  refine j_iconst (v := 1) C dX5_strip_6 rfl ?_
  refine j_isub (x := nI n) (y := 1) (v := nI n - 1) C dX5_strip_7 rfl ?_
  refine j_istore_n (L' := [(0, .ref m0), (1, .int (nI n - 1))]) C dX5_strip_8 rfl (Nat.le_of_ble_eq_true rfl) rfl rfl ?_
  refine j_loop (σ := Nat × Nat × (Nat → Int32)) (fun (x9_ : Nat × Nat × (Nat → Int32)) => match x9_ with | (x, z1, h) => [(0, .ref m0), (1, .int (nI x - 1))]) (fun (x9_ : Nat × Nat × (Nat → Int32)) => match x9_ with | (x, z1, h) => [(m0, .inr (4, [.int th, .int np, .ref tb, .ref md, .ref rw0, .int sz, .ref cs, .ref va, .int lk, .ref rn, .ref kp])), (md, jaI g 253 (jrw z1 h))]) (fun (x9_ : Nat × Nat × (Nat → Int32)) => match x9_ with | (x, z1, h) => (x ≤ z1) ∧ (z1 ≤ 8) ∧ (∀ k, k < x → jOkL h k) ∧ (jStrip x (z1, h) = jStrip n (n, f))) (fun (x9_ : Nat × Nat × (Nat → Int32)) => match x9_ with | (x, z1, h) => x) (fun x_ hi_2 ih_1 => ?_) (n, n, f) ⟨(by omega), hn8, hok.2, rfl⟩ rfl rfl
  obtain ⟨x, z1, h⟩ := x_
  obtain ⟨hI0, hI1, hI2, hI3⟩ := (show (x ≤ z1) ∧ (z1 ≤ 8) ∧ (∀ k, k < x → jOkL h k) ∧ (jStrip x (z1, h) = jStrip n (n, f)) from hi_2)
  refine j_eq (pc' := 9) (L' := [(0, .ref m0), (1, .int (nI x - 1))]) (st' := []) (ws' := [(m0, .inr (4, [.int th, .int np, .ref tb, .ref md, .ref rw0, .int sz, .ref cs, .ref va, .int lk, .ref rn, .ref kp])), (md, jaI g 253 (jrw z1 h))]) ?_ rfl rfl rfl rfl
  refine j_iload_n 1 C dX5_strip_9 rfl rfl ?_
  refine j_if_lt (tgt := 94) C dX5_strip_10 (by decide) (fun c_3 => ?_) (fun c_3 => ?_)
  · skip
    obtain rfl : x = 0 := (jm_lt0 (by omega)).mp c_3
    exact j_vretW C hr dX5_strip_94 () trivial (by rw [← hI3]; rfl)
  · skip
    have c_3 : ¬ x = 0 := fun z => c_3 ((jm_lt0 (by omega)).mpr z)
    obtain ⟨y, rfl⟩ : ∃ y, x = y + 1 := ⟨x - 1, by omega⟩
    refine j_eq (pc' := 13) (L' := [(0, .ref m0), (1, .int (nI y))]) (st' := []) (ws' := [(m0, .inr (4, [.int th, .int np, .ref tb, .ref md, .ref rw0, .int sz, .ref cs, .ref va, .int lk, .ref rn, .ref kp])), (md, jaI g 253 (jrw z1 h))]) ?_ rfl (by rw [jm_s]) rfl rfl
    obtain ⟨u, w, a, hu5, hw5, ha6, hu, hw, hup, ha, hst⟩ := hI2 y (by omega)
    refine j_aload_n 0 C dX5_strip_13 rfl rfl ?_
    refine j_get (Cn := RX5) (T := TX5) (N := 11) 0 3 C dX5_strip_14 hin_X5_strip_X5 rfl rfl (by decide) (List.mem_of_getElem? (i := 1) rfl) rfl ?_
    refine j_iload_n 1 C dX5_strip_17 rfl rfl ?_
    refine j_callRi (v := h (y * 28 + 3)) (j_runS (As := [.ref md, .int (nI y)]) (rest := []) [1] C (c_X5_steps l g md z1 h y (by omega)) gX5_strip_X5_steps rfl rfl rfl hd_X5_steps ⟨Nat.le_of_ble_eq_true rfl, Nat.le_of_ble_eq_true rfl⟩ rfl rfl dX5_strip_18 rfl (Nat.le_of_ble_eq_true rfl) ⟨Nat.le_of_ble_eq_true rfl, Nat.le_of_ble_eq_true rfl⟩) ?_
    refine j_eq (pc' := 21) (L' := [(0, .ref m0), (1, .int (nI y))]) (st' := [.int (nI a)]) (ws' := [(m0, .inr (4, [.int th, .int np, .ref tb, .ref md, .ref rw0, .int sz, .ref cs, .ref va, .int lk, .ref rn, .ref kp])), (md, jaI g 253 (jrw z1 h))]) ?_ rfl rfl (by rw [ha]) rfl
    refine j_istore_n (L' := [(0, .ref m0), (1, .int (nI y)), (2, .int (nI a))]) C dX5_strip_21 rfl (Nat.le_of_ble_eq_true rfl) rfl rfl ?_
    refine j_iload_n 2 C dX5_strip_22 rfl rfl ?_
    refine j_iconst (v := 1) C dX5_strip_23 rfl ?_
    refine j_isub (x := nI a) (y := 1) (v := nI a - 1) C dX5_strip_24 rfl ?_
    refine j_istore_n (L' := [(0, .ref m0), (1, .int (nI y)), (2, .int (nI a)), (3, .int (nI a - 1))]) C dX5_strip_25 rfl (Nat.le_of_ble_eq_true rfl) rfl rfl ?_
    refine j_loop (σ := Nat) (fun (t : Nat) => [(0, .ref m0), (1, .int (nI y)), (2, .int (nI a)), (3, .int (nI t - 1))]) (fun (t : Nat) => [(m0, .inr (4, [.int th, .int np, .ref tb, .ref md, .ref rw0, .int sz, .ref cs, .ref va, .int lk, .ref rn, .ref kp])), (md, jaI g 253 (jrw z1 (upd h (y * 28 + 3) (nI (jReach h y (a - t) t)))))]) (fun (t : Nat) => (t ≤ a)) (fun (t : Nat) => t) (fun x_ hi_5 ih_4 => ?_) a (by omega) rfl (by rw [Nat.sub_self]; exact congrArg (fun z => [_, (md, jaI g 253 (jrw z1 z))]) (upd_self ha).symm)
    obtain ⟨t, hx_⟩ : ∃ z, z = x_ := ⟨_, rfl⟩
    subst hx_
    have hi_5_0 : (t ≤ a) := hi_5
    refine j_eq (pc' := 26) (L' := [(0, .ref m0), (1, .int (nI y)), (2, .int (nI a)), (3, .int (nI t - 1))]) (st' := []) (ws' := [(m0, .inr (4, [.int th, .int np, .ref tb, .ref md, .ref rw0, .int sz, .ref cs, .ref va, .int lk, .ref rn, .ref kp])), (md, jaI g 253 (jrw z1 (upd h (y * 28 + 3) (nI (jReach h y (a - t) t)))))]) ?_ rfl rfl rfl rfl
    refine j_iload_n 3 C dX5_strip_26 rfl rfl ?_
    refine j_if_lt (tgt := 79) C dX5_strip_27 (by decide) (fun c_6 => ?_) (fun c_6 => ?_)
    · skip
      have h0 : t = 0 := (jm_lt0 (by omega)).mp c_6
      refine j_eq (pc' := 79) (L' := _) (st' := []) (ws' := [(m0, .inr (4, [.int th, .int np, .ref tb, .ref md, .ref rw0, .int sz, .ref cs, .ref va, .int lk, .ref rn, .ref kp])), (md, jaI g 253 (jrw z1 (upd h (y * 28 + 3) (nI (jReach h y a 0)))))]) ?_ rfl rfl rfl (by rw [h0]; rfl)
      refine j_iload_n 2 C dX5_strip_79 rfl rfl ?_
      refine j_if_ne (tgt := 88) C dX5_strip_80 (by decide) (fun c_7 => ?_) (fun c_7 => ?_)
      · skip
        have c_7 : ¬ a = 0 := fun z => c_7 ((nI_eq (a := a) (b := 0) (by omega) (by omega)).mpr z)
        refine j_iinc (v := nI y - 1) (L' := [(0, .ref m0), (1, .int (nI y - 1)), (2, .int (nI a)), (3, .int (nI t - 1))]) 1 C dX5_strip_88 rfl (jm_m1 y) (Nat.le_of_ble_eq_true rfl) rfl rfl ?_
        refine j_goto (tgt := 9) C dX5_strip_91 (by decide) ?_
        refine j_pick (L' := [(0, .ref m0), (1, .int (nI y - 1))]) [0, 1] rfl ?_
        exact ih_1 (y, z1, (upd h (y * 28 + 3) (nI (jReach h y a 0)))) ⟨(by omega), (by omega), (fun k hk => jOkL_cong (fun i h1 h2 => by first | exact (pk_un (by omega)).symm | (unfold jRm; rw [if_neg (by omega)]; exact (pk_un (by omega)).symm)) (hI2 k (by omega))), (by rw [← hI3, jStrip_s, show nn (h (y * 28 + 3)) = a by rw [ha]; exact nI_clamp (by omega)]; first | rw [if_pos (by rw [‹a = 0›]; rfl)] | rw [if_neg (by have := jReach_0 h y a 0 (by omega); omega)])⟩ (show y < y + 1 from by omega)
      · skip
        have c_7 : a = 0 := (nI_eq (a := a) (b := 0) (by omega) (by omega)).mp c_7
        refine j_aload_n 0 C dX5_strip_83 rfl rfl ?_
        refine j_iload_n 1 C dX5_strip_84 rfl rfl ?_
        refine j_callWv [0, 1] (fun _ => [(m0, .inr (4, [.int th, .int np, .ref tb, .ref md, .ref rw0, .int sz, .ref cs, .ref va, .int lk, .ref rn, .ref kp])), (md, jaI g 253 (jrw (z1 - 1) (jRm (upd h (y * 28 + 3) (nI (jReach h y a 0))) (y * 28) ((z1 - 1) * 28))))]) C (j_runV (ci := 0) (As := [.int (nI y)]) (rest := []) [0, 1] C (c_X5_takeOut l g m0 th np tb md rw0 sz cs va lk rn kp z1 (upd h (y * 28 + 3) (nI (jReach h y a 0))) y (by omega) (by omega)) gX5_strip_X5_takeOut rfl rfl rfl hd_X5_takeOut ⟨Nat.le_of_ble_eq_true rfl, Nat.le_of_ble_eq_true rfl⟩ rfl rfl rfl rfl dX5_strip_85 rfl (Nat.le_of_ble_eq_true rfl) ⟨Nat.le_of_ble_eq_true rfl, Nat.le_of_ble_eq_true rfl⟩) rfl (fun _ => rfl) (fun _ => rfl) (fun _ _ => ?_)
        refine j_iinc (v := nI y - 1) (L' := [(0, .ref m0), (1, .int (nI y - 1)), (2, .int (nI a)), (3, .int (nI t - 1))]) 1 C dX5_strip_88 rfl (jm_m1 y) (Nat.le_of_ble_eq_true rfl) rfl rfl ?_
        refine j_goto (tgt := 9) C dX5_strip_91 (by decide) ?_
        refine j_pick (L' := [(0, .ref m0), (1, .int (nI y - 1))]) [0, 1] rfl ?_
        exact ih_1 (y, (z1 - 1), (jRm (upd h (y * 28 + 3) (nI (jReach h y a 0))) (y * 28) ((z1 - 1) * 28))) ⟨(by omega), (by omega), (fun k hk => jOkL_cong (fun i h1 h2 => by first | exact (pk_un (by omega)).symm | (unfold jRm; rw [if_neg (by omega)]; exact (pk_un (by omega)).symm)) (hI2 k (by omega))), (by rw [← hI3, jStrip_s, show nn (h (y * 28 + 3)) = a by rw [ha]; exact nI_clamp (by omega)]; first | rw [if_pos (by rw [‹a = 0›]; rfl)] | rw [if_neg (by have := jReach_0 h y a 0 (by omega); omega)])⟩ (show y < y + 1 from by omega)
    · skip
      have c_6 : ¬ t = 0 := fun z => c_6 ((jm_lt0 (by omega)).mpr z)
      obtain ⟨j, rfl⟩ : ∃ j, t = j + 1 := ⟨t - 1, by omega⟩
      refine j_eq (pc' := 30) (L' := [(0, .ref m0), (1, .int (nI y)), (2, .int (nI a)), (3, .int (nI j))]) (st' := []) (ws' := [(m0, .inr (4, [.int th, .int np, .ref tb, .ref md, .ref rw0, .int sz, .ref cs, .ref va, .int lk, .ref rn, .ref kp])), (md, jaI g 253 (jrw z1 (upd h (y * 28 + 3) (nI (jReach h y (a - (j + 1)) (j + 1))))))]) ?_ rfl (by rw [jm_s]) rfl rfl
      obtain ⟨hlo, hwi, d, o, hd5, hd, ho, hd1, hd2, hd3⟩ := hst j (by omega)
      have hR := jReach_le h y (a - (j + 1)) (j + 1)
      have hG := jReach_ge h y (a - (j + 1)) (j + 1)
      refine j_aload_n 0 C dX5_strip_30 rfl rfl ?_
      refine j_get (Cn := RX5) (T := TX5) (N := 11) 0 3 C dX5_strip_31 hin_X5_strip_X5 rfl rfl (by decide) (List.mem_of_getElem? (i := 1) rfl) rfl ?_
      refine j_iload_n 1 C dX5_strip_34 rfl rfl ?_
      refine j_iload_n 3 C dX5_strip_35 rfl rfl ?_
      refine j_iconst (v := 0) C dX5_strip_36 rfl ?_
      refine j_callRi (v := (upd h (y * 28 + 3) (nI (jReach h y (a - (j + 1)) (j + 1)))) (y * 28 + 4 + j * 4 + 0)) (j_runS (As := [.ref md, .int (nI y), .int (nI j), .int 0]) (rest := []) [1] C (c_X5_get l g md z1 (upd h (y * 28 + 3) (nI (jReach h y (a - (j + 1)) (j + 1)))) y j 0 (by omega)) gX5_strip_X5_get rfl rfl rfl hd_X5_get ⟨Nat.le_of_ble_eq_true rfl, Nat.le_of_ble_eq_true rfl⟩ rfl rfl dX5_strip_37 rfl (Nat.le_of_ble_eq_true rfl) ⟨Nat.le_of_ble_eq_true rfl, Nat.le_of_ble_eq_true rfl⟩) ?_
      refine j_eq (pc' := 40) (L' := [(0, .ref m0), (1, .int (nI y)), (2, .int (nI a)), (3, .int (nI j))]) (st' := [.int (h (y * 28 + 4 + j * 4 + 0))]) (ws' := [(m0, .inr (4, [.int th, .int np, .ref tb, .ref md, .ref rw0, .int sz, .ref cs, .ref va, .int lk, .ref rn, .ref kp])), (md, jaI g 253 (jrw z1 (upd h (y * 28 + 3) (nI (jReach h y (a - (j + 1)) (j + 1))))))]) ?_ rfl rfl (by rw [pk_un (by omega)]) rfl
      refine j_if_ne (tgt := 73) C dX5_strip_40 (by decide) (fun c_8 => ?_) (fun c_8 => ?_)
      · skip
        refine j_iinc (v := nI j - 1) (L' := [(0, .ref m0), (1, .int (nI y)), (2, .int (nI a)), (3, .int (nI j - 1))]) 3 C dX5_strip_73 rfl (jm_m1 j) (Nat.le_of_ble_eq_true rfl) rfl rfl ?_
        refine j_goto (tgt := 26) C dX5_strip_76 (by decide) ?_
        refine j_eq (pc' := 26) (L' := [(0, .ref m0), (1, .int (nI y)), (2, .int (nI a)), (3, .int (nI j - 1))]) (st' := []) (ws' := [(m0, .inr (4, [.int th, .int np, .ref tb, .ref md, .ref rw0, .int sz, .ref cs, .ref va, .int lk, .ref rn, .ref kp])), (md, jaI g 253 (jrw z1 (upd h (y * 28 + 3) (nI (jReach h y (a - j) j)))))]) ?_ rfl rfl rfl (by rw [show a - j = (a - (j + 1)) + 1 by omega, jReach_s]; first | rw [if_pos ⟨by assumption, jd45 hd hd5 (by assumption)⟩] | rw [if_neg (fun z => absurd z.1 (by assumption))] | rw [if_neg (fun z => absurd z.2 (jd45n (by assumption)))])
        exact ih_4 j (by omega) (show j < j + 1 from by omega)
      · skip
        refine j_aload_n 0 C dX5_strip_43 rfl rfl ?_
        refine j_get (Cn := RX5) (T := TX5) (N := 11) 0 3 C dX5_strip_44 hin_X5_strip_X5 rfl rfl (by decide) (List.mem_of_getElem? (i := 1) rfl) rfl ?_
        refine j_iload_n 1 C dX5_strip_47 rfl rfl ?_
        refine j_iload_n 3 C dX5_strip_48 rfl rfl ?_
        refine j_iconst (v := 2) C dX5_strip_49 rfl ?_
        refine j_callRi (v := (upd h (y * 28 + 3) (nI (jReach h y (a - (j + 1)) (j + 1)))) (y * 28 + 4 + j * 4 + 2)) (j_runS (As := [.ref md, .int (nI y), .int (nI j), .int 2]) (rest := []) [1] C (c_X5_get l g md z1 (upd h (y * 28 + 3) (nI (jReach h y (a - (j + 1)) (j + 1)))) y j 2 (by omega)) gX5_strip_X5_get rfl rfl rfl hd_X5_get ⟨Nat.le_of_ble_eq_true rfl, Nat.le_of_ble_eq_true rfl⟩ rfl rfl dX5_strip_50 rfl (Nat.le_of_ble_eq_true rfl) ⟨Nat.le_of_ble_eq_true rfl, Nat.le_of_ble_eq_true rfl⟩) ?_
        refine j_eq (pc' := 53) (L' := [(0, .ref m0), (1, .int (nI y)), (2, .int (nI a)), (3, .int (nI j))]) (st' := [.int (h (y * 28 + 4 + j * 4 + 2))]) (ws' := [(m0, .inr (4, [.int th, .int np, .ref tb, .ref md, .ref rw0, .int sz, .ref cs, .ref va, .int lk, .ref rn, .ref kp])), (md, jaI g 253 (jrw z1 (upd h (y * 28 + 3) (nI (jReach h y (a - (j + 1)) (j + 1))))))]) ?_ rfl rfl (by rw [pk_un (by omega)]) rfl
        refine j_iconst (v := 4) C dX5_strip_53 rfl ?_
        refine j_icmp_lt (tgt := 73) C dX5_strip_54 (by decide) (fun c_9 => ?_) (fun c_9 => ?_)
        · skip
          refine j_iinc (v := nI j - 1) (L' := [(0, .ref m0), (1, .int (nI y)), (2, .int (nI a)), (3, .int (nI j - 1))]) 3 C dX5_strip_73 rfl (jm_m1 j) (Nat.le_of_ble_eq_true rfl) rfl rfl ?_
          refine j_goto (tgt := 26) C dX5_strip_76 (by decide) ?_
          refine j_eq (pc' := 26) (L' := [(0, .ref m0), (1, .int (nI y)), (2, .int (nI a)), (3, .int (nI j - 1))]) (st' := []) (ws' := [(m0, .inr (4, [.int th, .int np, .ref tb, .ref md, .ref rw0, .int sz, .ref cs, .ref va, .int lk, .ref rn, .ref kp])), (md, jaI g 253 (jrw z1 (upd h (y * 28 + 3) (nI (jReach h y (a - j) j)))))]) ?_ rfl rfl rfl (by rw [show a - j = (a - (j + 1)) + 1 by omega, jReach_s]; first | rw [if_pos ⟨by assumption, jd45 hd hd5 (by assumption)⟩] | rw [if_neg (fun z => absurd z.1 (by assumption))] | rw [if_neg (fun z => absurd z.2 (jd45n (by assumption)))])
          exact ih_4 j (by omega) (show j < j + 1 from by omega)
        · skip
          refine j_aload_n 0 C dX5_strip_57 rfl rfl ?_
          refine j_iload_n 1 C dX5_strip_58 rfl rfl ?_
          refine j_iload_n 3 C dX5_strip_59 rfl rfl ?_
          refine j_iconst (v := 1) C dX5_strip_60 rfl ?_
          refine j_iadd (x := nI j) (y := 1) (v := nI (j + 1)) C dX5_strip_61 (nI_add j 1) ?_
          refine j_aload_n 0 C dX5_strip_62 rfl rfl ?_
          refine j_get (Cn := RX5) (T := TX5) (N := 11) 0 3 C dX5_strip_63 hin_X5_strip_X5 rfl rfl (by decide) (List.mem_of_getElem? (i := 1) rfl) rfl ?_
          refine j_iload_n 1 C dX5_strip_66 rfl rfl ?_
          refine j_callRi (v := (upd h (y * 28 + 3) (nI (jReach h y (a - (j + 1)) (j + 1)))) (y * 28 + 3)) (j_runS (As := [.ref md, .int (nI y)]) (rest := [.int (nI (j + 1)), .int (nI y), .ref m0]) [1] C (c_X5_steps l g md z1 (upd h (y * 28 + 3) (nI (jReach h y (a - (j + 1)) (j + 1)))) y (by omega)) gX5_strip_X5_steps rfl rfl rfl hd_X5_steps ⟨Nat.le_of_ble_eq_true rfl, Nat.le_of_ble_eq_true rfl⟩ rfl rfl dX5_strip_67 rfl (Nat.le_of_ble_eq_true rfl) ⟨Nat.le_of_ble_eq_true rfl, Nat.le_of_ble_eq_true rfl⟩) ?_
          refine j_eq (pc' := 70) (L' := [(0, .ref m0), (1, .int (nI y)), (2, .int (nI a)), (3, .int (nI j))]) (st' := [.int (nI (jReach h y (a - (j + 1)) (j + 1))), .int (nI (j + 1)), .int (nI y), .ref m0]) (ws' := [(m0, .inr (4, [.int th, .int np, .ref tb, .ref md, .ref rw0, .int sz, .ref cs, .ref va, .int lk, .ref rn, .ref kp])), (md, jaI g 253 (jrw z1 (upd h (y * 28 + 3) (nI (jReach h y (a - (j + 1)) (j + 1))))))]) ?_ rfl rfl (by rw [pk_us]) rfl
          refine j_callWv [0, 1] (fun _ => [(m0, .inr (4, [.int th, .int np, .ref tb, .ref md, .ref rw0, .int sz, .ref cs, .ref va, .int lk, .ref rn, .ref kp])), (md, jaI g 253 (jrw z1 (upd (va_cpy (upd h (y * 28 + 3) (nI (jReach h y (a - (j + 1)) (j + 1)))) (upd h (y * 28 + 3) (nI (jReach h y (a - (j + 1)) (j + 1)))) (y * 28 + 4 + (jReach h y (a - (j + 1)) (j + 1)) * 4) (y * 28 + 4 + (j + 1) * 4) (4 * ((jReach h y (a - (j + 1)) (j + 1)) - (jReach h y (a - (j + 1)) (j + 1))))) (y * 28 + 3) (nI ((jReach h y (a - (j + 1)) (j + 1)) - ((jReach h y (a - (j + 1)) (j + 1)) - (j + 1)))))))]) C (j_runV (ci := 0) (As := [.int (nI y), .int (nI (j + 1)), .int (nI (jReach h y (a - (j + 1)) (j + 1)))]) (rest := []) [0, 1] C (c_X5_takeSteps l g m0 th np tb md rw0 sz cs va lk rn kp z1 (upd h (y * 28 + 3) (nI (jReach h y (a - (j + 1)) (j + 1)))) y (j + 1) (jReach h y (a - (j + 1)) (j + 1)) (jReach h y (a - (j + 1)) (j + 1)) (by omega) (pk_us) (by omega) (by have := jReach_ge h y (a - (j + 1)) (j + 1); omega) (by omega)) gX5_strip_X5_takeSteps rfl rfl rfl hd_X5_takeSteps ⟨Nat.le_of_ble_eq_true rfl, Nat.le_of_ble_eq_true rfl⟩ rfl rfl rfl rfl dX5_strip_70 rfl (Nat.le_of_ble_eq_true rfl) ⟨Nat.le_of_ble_eq_true rfl, Nat.le_of_ble_eq_true rfl⟩) rfl (fun _ => rfl) (fun _ => rfl) (fun _ _ => ?_)
          refine j_eq (pc' := 73) (L' := [(0, .ref m0), (1, .int (nI y)), (2, .int (nI a)), (3, .int (nI j))]) (st' := []) (ws' := [(m0, .inr (4, [.int th, .int np, .ref tb, .ref md, .ref rw0, .int sz, .ref cs, .ref va, .int lk, .ref rn, .ref kp])), (md, jaI g 253 (jrw z1 (upd h (y * 28 + 3) (nI (j + 1)))))]) ?_ rfl rfl rfl (by rw [Nat.sub_self, Nat.mul_zero, jcp_0, upd_upd, show jReach h y (a - (j + 1)) (j + 1) - (jReach h y (a - (j + 1)) (j + 1) - (j + 1)) = j + 1 by omega])
          refine j_iinc (v := nI j - 1) (L' := [(0, .ref m0), (1, .int (nI y)), (2, .int (nI a)), (3, .int (nI j - 1))]) 3 C dX5_strip_73 rfl (jm_m1 j) (Nat.le_of_ble_eq_true rfl) rfl rfl ?_
          refine j_goto (tgt := 26) C dX5_strip_76 (by decide) ?_
          refine j_eq (pc' := 26) (L' := [(0, .ref m0), (1, .int (nI y)), (2, .int (nI a)), (3, .int (nI j - 1))]) (st' := []) (ws' := [(m0, .inr (4, [.int th, .int np, .ref tb, .ref md, .ref rw0, .int sz, .ref cs, .ref va, .int lk, .ref rn, .ref kp])), (md, jaI g 253 (jrw z1 (upd h (y * 28 + 3) (nI (jReach h y (a - j) j)))))]) ?_ rfl rfl rfl (by rw [show a - j = (a - (j + 1)) + 1 by omega, jReach_s]; first | rw [if_pos ⟨by assumption, jd45 hd hd5 (by assumption)⟩] | rw [if_neg (fun z => absurd z.1 (by assumption))] | rw [if_neg (fun z => absurd z.2 (jd45n (by assumption)))])
          exact ih_4 j (by omega) (show j < j + 1 from by omega)
