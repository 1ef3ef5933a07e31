theorem hd_X5_whyRange : yX5_whyRange.cls = RX5 ∧ yX5_whyRange.cls ≠ "java/lang/invoke/MethodHandle" ∧ yX5_whyRange.cls ≠ "java/lang/invoke/VarHandle" ∧ (parseMethodDescriptor yX5_whyRange.desc).map (fun d => d.parameters.length) = some 4 := by decide +kernel
set_option maxRecDepth 100000 in
theorem hin_X5_reason_X5 : ∀ w ∈ u_ws RX5 TX5 11, w ∈ wsX5_reason := fun w h => List.mem_cons_of_mem _ (by exact List.mem_append_right _ h)
set_option maxRecDepth 100000 in
theorem hin_X5_change_X5 : ∀ w ∈ u_ws RX5 TX5 11, w ∈ wsX5_change := fun w h => List.mem_cons_of_mem _ (by exact List.mem_append_right _ h)
theorem hd_X5_why : yX5_why.cls = RX5 ∧ yX5_why.cls ≠ "java/lang/invoke/MethodHandle" ∧ yX5_why.cls ≠ "java/lang/invoke/VarHandle" ∧ (parseMethodDescriptor yX5_why.desc).map (fun d => d.parameters.length) = some 4 := by decide +kernel
theorem hd_X5_make : yX5_make.cls = RX5 ∧ yX5_make.cls ≠ "java/lang/invoke/MethodHandle" ∧ yX5_make.cls ≠ "java/lang/invoke/VarHandle" ∧ (parseMethodDescriptor yX5_make.desc).map (fun d => d.parameters.length) = some 3 := by decide +kernel
set_option maxRecDepth 100000 in
theorem hin_X5_joinAll_X5 : ∀ w ∈ u_ws RX5 TX5 11, w ∈ wsX5_joinAll := fun w h => List.mem_cons_of_mem _ (by exact List.mem_append_right _ h)
theorem hd_X5_rows : yX5_rows.cls = RX5 ∧ yX5_rows.cls ≠ "java/lang/invoke/MethodHandle" ∧ yX5_rows.cls ≠ "java/lang/invoke/VarHandle" ∧ (parseMethodDescriptor yX5_rows.desc).map (fun d => d.parameters.length) = some 2 := by decide +kernel
set_option maxRecDepth 100000 in
theorem hin_X5_layCase_X5 : ∀ w ∈ u_ws RX5 TX5 11, w ∈ wsX5_layCase := fun w h => List.mem_cons_of_mem _ (by exact List.mem_append_right _ h)
set_option maxHeartbeats 4000000 in
set_option maxRecDepth 100000 in
theorem c_X5_reason_p (l : Launch) (g : jG) (m0 : Nat) (th : Int32) (N tb md rw0 : Nat) (sz : Int32) (cs va : Nat) (lk : Int32) (rn kp : Nat) (x ch y w : Int32) (hx : jBt x 0 (nI N - 1) = false) : jWi l yX5_reason wsX5_reason ({ frames := 4, cells := 0, slots := 0, locals := 127 }) g [.ref m0, .int x, .int ch, .int y, .int w] [(m0, .inr (4, [.int th, .int (nI N), .ref tb, .ref md, .ref rw0, .int sz, .ref cs, .ref va, .int lk, .ref rn, .ref kp]))] [(m0, .inr (4, [.int 1, .int (nI N), .ref tb, .ref md, .ref rw0, .int sz, .ref cs, .ref va, .int lk, .ref rn, .ref kp]))] 0 := by
  refine j_enterW (Qc := fun sz_ => va_Qi (fun r (_ : Unit) => r = 0) (fun _ t => va_P g.1 vwCl [(m0, .inr (4, [.int 1, .int (nI N), .ref tb, .ref md, .ref rw0, .int sz, .ref cs, .ref va, .int lk, .ref rn, .ref kp]))] t.heap) (va_A [(m0, .inr (4, [.int th, .int (nI N), .ref tb, .ref md, .ref rw0, .int sz, .ref cs, .ref va, .int lk, .ref rn, .ref kp]))] sz_)) (cc := cX5_reason) (maxL := 5) (ret := (some .int)) (own := RX5) (L := [(0, .ref m0), (1, .int x), (2, .int ch), (3, .int y), (4, .int w)]) (by decide) rfl rfl (Nat.le_of_ble_eq_true rfl) rfl (fun p e s m args below meth c C hr => ?_)
  refine j_aload_n 0 C dX5_reason_0 rfl rfl ?_
  refine j_aload_n 0 C dX5_reason_1 rfl rfl ?_
  refine j_iload_n 1 C dX5_reason_2 rfl rfl ?_
  refine j_iload_n 2 C dX5_reason_3 rfl rfl ?_
  refine j_iload_n 3 C dX5_reason_4 rfl rfl ?_
  refine j_iload 4 C dX5_reason_5 rfl ?_
  refine j_callRi (v := 1) (j_runV (ci := 0) (As := [.int x, .int ch, .int y, .int w]) (rest := [.ref m0]) [0] C (c_X5_whyRange_p l g m0 th N tb md rw0 sz cs va lk rn kp x ch y w (by omega)) gX5_reason_X5_whyRange rfl rfl rfl hd_X5_whyRange ⟨Nat.le_of_ble_eq_true rfl, Nat.le_of_ble_eq_true rfl⟩ rfl rfl rfl rfl dX5_reason_7 rfl (Nat.le_of_ble_eq_true rfl) ⟨Nat.le_of_ble_eq_true rfl, Nat.le_of_ble_eq_true rfl⟩) ?_
  refine j_put (Cn := RX5) (T := TX5) (N := 11) (ws' := [(m0, .inr (4, [.int 1, .int (nI N), .ref tb, .ref md, .ref rw0, .int sz, .ref cs, .ref va, .int lk, .ref rn, .ref kp]))]) tyX5 0 0 C dX5_reason_10 hin_X5_reason_X5 tyX5_ok nmX5 rfl rfl (by decide) (List.mem_of_getElem? (i := 1) rfl) rfl (tyX5_ok 0 (by decide)) rfl rfl (Nat.le_of_ble_eq_true rfl) rfl ?_
  refine j_aload_n 0 C dX5_reason_13 rfl rfl ?_
  refine j_get (Cn := RX5) (T := TX5) (N := 11) 0 0 C dX5_reason_14 hin_X5_reason_X5 rfl rfl (by decide) (List.mem_of_getElem? (i := 1) rfl) rfl ?_
  refine j_if_ne (tgt := 36) C dX5_reason_17 (by decide) (fun c_1 => ?_) (fun c_1 => ?_)
  · skip
    refine j_iconst (v := 0) C dX5_reason_36 rfl ?_
    exact j_iretW (v := 0) C hr dX5_reason_37 () rfl rfl
  · skip
    exact absurd c_1 (by decide)
set_option maxHeartbeats 4000000 in
set_option maxRecDepth 100000 in
theorem c_X5_change_p (l : Launch) (g : jG) (m0 : Nat) (th : Int32) (N tb md rw0 : Nat) (sz : Int32) (cs va : Nat) (lk : Int32) (rn kp : Nat) (x ch y w : Int32) (hx : jBt x 0 (nI N - 1) = false) : jWi l yX5_change wsX5_change ({ frames := 4, cells := 0, slots := 0, locals := 127 }) g [.ref m0, .int x, .int ch, .int y, .int w] [(m0, .inr (4, [.int th, .int (nI N), .ref tb, .ref md, .ref rw0, .int sz, .ref cs, .ref va, .int lk, .ref rn, .ref kp]))] [(m0, .inr (4, [.int 1, .int (nI N), .ref tb, .ref md, .ref rw0, .int sz, .ref cs, .ref va, .int lk, .ref rn, .ref kp]))] 0 := by
  refine j_enterW (Qc := fun sz_ => va_Qi (fun r (_ : Unit) => r = 0) (fun _ t => va_P g.1 vwCl [(m0, .inr (4, [.int 1, .int (nI N), .ref tb, .ref md, .ref rw0, .int sz, .ref cs, .ref va, .int lk, .ref rn, .ref kp]))] t.heap) (va_A [(m0, .inr (4, [.int th, .int (nI N), .ref tb, .ref md, .ref rw0, .int sz, .ref cs, .ref va, .int lk, .ref rn, .ref kp]))] sz_)) (cc := cX5_change) (maxL := 5) (ret := (some .int)) (own := RX5) (L := [(0, .ref m0), (1, .int x), (2, .int ch), (3, .int y), (4, .int w)]) (by decide) rfl rfl (Nat.le_of_ble_eq_true rfl) rfl (fun p e s m args below meth c C hr => ?_)
  refine j_aload_n 0 C dX5_change_0 rfl rfl ?_
  refine j_aload_n 0 C dX5_change_1 rfl rfl ?_
  refine j_iload_n 1 C dX5_change_2 rfl rfl ?_
  refine j_iload_n 2 C dX5_change_3 rfl rfl ?_
  refine j_iload_n 3 C dX5_change_4 rfl rfl ?_
  refine j_iload 4 C dX5_change_5 rfl ?_
  refine j_callRi (v := 1) (j_runV (ci := 0) (As := [.int x, .int ch, .int y, .int w]) (rest := [.ref m0]) [0] C (c_X5_whyRange_p l g m0 th N tb md rw0 sz cs va lk rn kp x ch y w (by omega)) gX5_change_X5_whyRange rfl rfl rfl hd_X5_whyRange ⟨Nat.le_of_ble_eq_true rfl, Nat.le_of_ble_eq_true rfl⟩ rfl rfl rfl rfl dX5_change_7 rfl (Nat.le_of_ble_eq_true rfl) ⟨Nat.le_of_ble_eq_true rfl, Nat.le_of_ble_eq_true rfl⟩) ?_
  refine j_put (Cn := RX5) (T := TX5) (N := 11) (ws' := [(m0, .inr (4, [.int 1, .int (nI N), .ref tb, .ref md, .ref rw0, .int sz, .ref cs, .ref va, .int lk, .ref rn, .ref kp]))]) tyX5 0 0 C dX5_change_10 hin_X5_change_X5 tyX5_ok nmX5 rfl rfl (by decide) (List.mem_of_getElem? (i := 1) rfl) rfl (tyX5_ok 0 (by decide)) rfl rfl (Nat.le_of_ble_eq_true rfl) rfl ?_
  refine j_aload_n 0 C dX5_change_13 rfl rfl ?_
  refine j_get (Cn := RX5) (T := TX5) (N := 11) 0 0 C dX5_change_14 hin_X5_change_X5 rfl rfl (by decide) (List.mem_of_getElem? (i := 1) rfl) rfl ?_
  refine j_if_eq (tgt := 22) C dX5_change_17 (by decide) (fun c_1 => ?_) (fun c_1 => ?_)
  · skip
    exact absurd c_1 (by decide)
  · skip
    refine j_iconst (v := 0) C dX5_change_20 rfl ?_
    exact j_iretW (v := 0) C hr dX5_change_21 () rfl rfl
set_option maxHeartbeats 4000000 in
set_option maxRecDepth 100000 in
theorem c_X5_reason_c (l : Launch) (g : jG) (m0 : Nat) (th : Int32) (N tb md rw0 : Nat) (sz : Int32) (cs va : Nat) (lk : Int32) (rn kp : Nat) (k : Nat) (ch y w : Int32) (hk : k < N) (hN : N ≤ 10) (hc : jBt ch 0 5 = false) : jWi l yX5_reason wsX5_reason ({ frames := 4, cells := 0, slots := 0, locals := 127 }) g [.ref m0, .int (nI k), .int ch, .int y, .int w] [(m0, .inr (4, [.int th, .int (nI N), .ref tb, .ref md, .ref rw0, .int sz, .ref cs, .ref va, .int lk, .ref rn, .ref kp]))] [(m0, .inr (4, [.int 1, .int (nI N), .ref tb, .ref md, .ref rw0, .int sz, .ref cs, .ref va, .int lk, .ref rn, .ref kp]))] 0 := by
  refine j_enterW (Qc := fun sz_ => va_Qi (fun r (_ : Unit) => r = 0) (fun _ t => va_P g.1 vwCl [(m0, .inr (4, [.int 1, .int (nI N), .ref tb, .ref md, .ref rw0, .int sz, .ref cs, .ref va, .int lk, .ref rn, .ref kp]))] t.heap) (va_A [(m0, .inr (4, [.int th, .int (nI N), .ref tb, .ref md, .ref rw0, .int sz, .ref cs, .ref va, .int lk, .ref rn, .ref kp]))] sz_)) (cc := cX5_reason) (maxL := 5) (ret := (some .int)) (own := RX5) (L := [(0, .ref m0), (1, .int (nI k)), (2, .int ch), (3, .int y), (4, .int w)]) (by decide) rfl rfl (Nat.le_of_ble_eq_true rfl) rfl (fun p e s m args below meth c C hr => ?_)
  refine j_aload_n 0 C dX5_reason_0 rfl rfl ?_
  refine j_aload_n 0 C dX5_reason_1 rfl rfl ?_
  refine j_iload_n 1 C dX5_reason_2 rfl rfl ?_
  refine j_iload_n 2 C dX5_reason_3 rfl rfl ?_
  refine j_iload_n 3 C dX5_reason_4 rfl rfl ?_
  refine j_iload 4 C dX5_reason_5 rfl ?_
  refine j_callRi (v := 1) (j_runV (ci := 0) (As := [.int (nI k), .int ch, .int y, .int w]) (rest := [.ref m0]) [0] C (c_X5_whyRange_c l g m0 th N tb md rw0 sz cs va lk rn kp k ch y w (by omega) (by omega) (by omega)) gX5_reason_X5_whyRange rfl rfl rfl hd_X5_whyRange ⟨Nat.le_of_ble_eq_true rfl, Nat.le_of_ble_eq_true rfl⟩ rfl rfl rfl rfl dX5_reason_7 rfl (Nat.le_of_ble_eq_true rfl) ⟨Nat.le_of_ble_eq_true rfl, Nat.le_of_ble_eq_true rfl⟩) ?_
  refine j_put (Cn := RX5) (T := TX5) (N := 11) (ws' := [(m0, .inr (4, [.int 1, .int (nI N), .ref tb, .ref md, .ref rw0, .int sz, .ref cs, .ref va, .int lk, .ref rn, .ref kp]))]) tyX5 0 0 C dX5_reason_10 hin_X5_reason_X5 tyX5_ok nmX5 rfl rfl (by decide) (List.mem_of_getElem? (i := 1) rfl) rfl (tyX5_ok 0 (by decide)) rfl rfl (Nat.le_of_ble_eq_true rfl) rfl ?_
  refine j_aload_n 0 C dX5_reason_13 rfl rfl ?_
  refine j_get (Cn := RX5) (T := TX5) (N := 11) 0 0 C dX5_reason_14 hin_X5_reason_X5 rfl rfl (by decide) (List.mem_of_getElem? (i := 1) rfl) rfl ?_
  refine j_if_ne (tgt := 36) C dX5_reason_17 (by decide) (fun c_1 => ?_) (fun c_1 => ?_)
  · skip
    refine j_iconst (v := 0) C dX5_reason_36 rfl ?_
    exact j_iretW (v := 0) C hr dX5_reason_37 () rfl rfl
  · skip
    exact absurd c_1 (by decide)
set_option maxHeartbeats 4000000 in
set_option maxRecDepth 100000 in
theorem c_X5_change_c (l : Launch) (g : jG) (m0 : Nat) (th : Int32) (N tb md rw0 : Nat) (sz : Int32) (cs va : Nat) (lk : Int32) (rn kp : Nat) (k : Nat) (ch y w : Int32) (hk : k < N) (hN : N ≤ 10) (hc : jBt ch 0 5 = false) : jWi l yX5_change wsX5_change ({ frames := 4, cells := 0, slots := 0, locals := 127 }) g [.ref m0, .int (nI k), .int ch, .int y, .int w] [(m0, .inr (4, [.int th, .int (nI N), .ref tb, .ref md, .ref rw0, .int sz, .ref cs, .ref va, .int lk, .ref rn, .ref kp]))] [(m0, .inr (4, [.int 1, .int (nI N), .ref tb, .ref md, .ref rw0, .int sz, .ref cs, .ref va, .int lk, .ref rn, .ref kp]))] 0 := by
  refine j_enterW (Qc := fun sz_ => va_Qi (fun r (_ : Unit) => r = 0) (fun _ t => va_P g.1 vwCl [(m0, .inr (4, [.int 1, .int (nI N), .ref tb, .ref md, .ref rw0, .int sz, .ref cs, .ref va, .int lk, .ref rn, .ref kp]))] t.heap) (va_A [(m0, .inr (4, [.int th, .int (nI N), .ref tb, .ref md, .ref rw0, .int sz, .ref cs, .ref va, .int lk, .ref rn, .ref kp]))] sz_)) (cc := cX5_change) (maxL := 5) (ret := (some .int)) (own := RX5) (L := [(0, .ref m0), (1, .int (nI k)), (2, .int ch), (3, .int y), (4, .int w)]) (by decide) rfl rfl (Nat.le_of_ble_eq_true rfl) rfl (fun p e s m args below meth c C hr => ?_)
  refine j_aload_n 0 C dX5_change_0 rfl rfl ?_
  refine j_aload_n 0 C dX5_change_1 rfl rfl ?_
  refine j_iload_n 1 C dX5_change_2 rfl rfl ?_
  refine j_iload_n 2 C dX5_change_3 rfl rfl ?_
  refine j_iload_n 3 C dX5_change_4 rfl rfl ?_
  refine j_iload 4 C dX5_change_5 rfl ?_
  refine j_callRi (v := 1) (j_runV (ci := 0) (As := [.int (nI k), .int ch, .int y, .int w]) (rest := [.ref m0]) [0] C (c_X5_whyRange_c l g m0 th N tb md rw0 sz cs va lk rn kp k ch y w (by omega) (by omega) (by omega)) gX5_change_X5_whyRange rfl rfl rfl hd_X5_whyRange ⟨Nat.le_of_ble_eq_true rfl, Nat.le_of_ble_eq_true rfl⟩ rfl rfl rfl rfl dX5_change_7 rfl (Nat.le_of_ble_eq_true rfl) ⟨Nat.le_of_ble_eq_true rfl, Nat.le_of_ble_eq_true rfl⟩) ?_
  refine j_put (Cn := RX5) (T := TX5) (N := 11) (ws' := [(m0, .inr (4, [.int 1, .int (nI N), .ref tb, .ref md, .ref rw0, .int sz, .ref cs, .ref va, .int lk, .ref rn, .ref kp]))]) tyX5 0 0 C dX5_change_10 hin_X5_change_X5 tyX5_ok nmX5 rfl rfl (by decide) (List.mem_of_getElem? (i := 1) rfl) rfl (tyX5_ok 0 (by decide)) rfl rfl (Nat.le_of_ble_eq_true rfl) rfl ?_
  refine j_aload_n 0 C dX5_change_13 rfl rfl ?_
  refine j_get (Cn := RX5) (T := TX5) (N := 11) 0 0 C dX5_change_14 hin_X5_change_X5 rfl rfl (by decide) (List.mem_of_getElem? (i := 1) rfl) rfl ?_
  refine j_if_eq (tgt := 22) C dX5_change_17 (by decide) (fun c_1 => ?_) (fun c_1 => ?_)
  · skip
    exact absurd c_1 (by decide)
  · skip
    refine j_iconst (v := 0) C dX5_change_20 rfl ?_
    exact j_iretW (v := 0) C hr dX5_change_21 () rfl rfl
set_option maxHeartbeats 4000000 in
set_option maxRecDepth 100000 in
theorem c_X5_reason_l0 (l : Launch) (g : jG) (m0 : Nat) (th : Int32) (N tb md rw0 : Nat) (sz : Int32) (cs va : Nat) (lk : Int32) (rn kp : Nat) (tr : Nat → Nat) (k n : Nat) (f : Nat → Int32) (y w : Int32) (hk : k < N) (hN : N ≤ 10) (hy : jBt y 0 (nI n - 2) = false) : jWi l yX5_reason wsX5_reason ({ frames := 4, cells := 0, slots := 0, locals := 127 }) g [.ref m0, .int (nI k), .int 0, .int y, .int w] [(m0, .inr (4, [.int th, .int (nI N), .ref tb, .ref md, .ref rw0, .int sz, .ref cs, .ref va, .int lk, .ref rn, .ref kp])), (tb, jaR g 10 (fun i => some (tr i))), (tr k, jaI g 253 (jrw n f))] [(m0, .inr (4, [.int 1, .int (nI N), .ref tb, .ref md, .ref rw0, .int sz, .ref cs, .ref va, .int lk, .ref rn, .ref kp])), (tb, jaR g 10 (fun i => some (tr i))), (tr k, jaI g 253 (jrw n f))] 0 := by
  refine j_enterW (Qc := fun sz_ => va_Qi (fun r (_ : Unit) => r = 0) (fun _ t => va_P g.1 vwCl [(m0, .inr (4, [.int 1, .int (nI N), .ref tb, .ref md, .ref rw0, .int sz, .ref cs, .ref va, .int lk, .ref rn, .ref kp])), (tb, jaR g 10 (fun i => some (tr i))), (tr k, jaI g 253 (jrw n f))] t.heap) (va_A [(m0, .inr (4, [.int th, .int (nI N), .ref tb, .ref md, .ref rw0, .int sz, .ref cs, .ref va, .int lk, .ref rn, .ref kp])), (tb, jaR g 10 (fun i => some (tr i))), (tr k, jaI g 253 (jrw n f))] sz_)) (cc := cX5_reason) (maxL := 5) (ret := (some .int)) (own := RX5) (L := [(0, .ref m0), (1, .int (nI k)), (2, .int 0), (3, .int y), (4, .int w)]) (by decide) rfl rfl (Nat.le_of_ble_eq_true rfl) rfl (fun p e s m args below meth c C hr => ?_)
  refine j_aload_n 0 C dX5_reason_0 rfl rfl ?_
  refine j_aload_n 0 C dX5_reason_1 rfl rfl ?_
  refine j_iload_n 1 C dX5_reason_2 rfl rfl ?_
  refine j_iload_n 2 C dX5_reason_3 rfl rfl ?_
  refine j_iload_n 3 C dX5_reason_4 rfl rfl ?_
  refine j_iload 4 C dX5_reason_5 rfl ?_
  refine j_callRi (v := 1) (j_runV (ci := 0) (As := [.int (nI k), .int 0, .int y, .int w]) (rest := [.ref m0]) [0, 1, 2] C (c_X5_whyRange_l0 l g m0 th N tb md rw0 sz cs va lk rn kp tr k n f y w (by omega) (by omega) (by omega)) gX5_reason_X5_whyRange rfl rfl rfl hd_X5_whyRange ⟨Nat.le_of_ble_eq_true rfl, Nat.le_of_ble_eq_true rfl⟩ rfl rfl rfl rfl dX5_reason_7 rfl (Nat.le_of_ble_eq_true rfl) ⟨Nat.le_of_ble_eq_true rfl, Nat.le_of_ble_eq_true rfl⟩) ?_
  refine j_put (Cn := RX5) (T := TX5) (N := 11) (ws' := [(m0, .inr (4, [.int 1, .int (nI N), .ref tb, .ref md, .ref rw0, .int sz, .ref cs, .ref va, .int lk, .ref rn, .ref kp])), (tb, jaR g 10 (fun i => some (tr i))), (tr k, jaI g 253 (jrw n f))]) tyX5 0 0 C dX5_reason_10 hin_X5_reason_X5 tyX5_ok nmX5 rfl rfl (by decide) (List.mem_of_getElem? (i := 1) rfl) rfl (tyX5_ok 0 (by decide)) rfl rfl (Nat.le_of_ble_eq_true rfl) rfl ?_
  refine j_aload_n 0 C dX5_reason_13 rfl rfl ?_
  refine j_get (Cn := RX5) (T := TX5) (N := 11) 0 0 C dX5_reason_14 hin_X5_reason_X5 rfl rfl (by decide) (List.mem_of_getElem? (i := 1) rfl) rfl ?_
  refine j_if_ne (tgt := 36) C dX5_reason_17 (by decide) (fun c_1 => ?_) (fun c_1 => ?_)
  · skip
    refine j_iconst (v := 0) C dX5_reason_36 rfl ?_
    exact j_iretW (v := 0) C hr dX5_reason_37 () rfl rfl
  · skip
    exact absurd c_1 (by decide)
set_option maxHeartbeats 4000000 in
set_option maxRecDepth 100000 in
theorem c_X5_change_l0 (l : Launch) (g : jG) (m0 : Nat) (th : Int32) (N tb md rw0 : Nat) (sz : Int32) (cs va : Nat) (lk : Int32) (rn kp : Nat) (tr : Nat → Nat) (k n : Nat) (f : Nat → Int32) (y w : Int32) (hk : k < N) (hN : N ≤ 10) (hy : jBt y 0 (nI n - 2) = false) : jWi l yX5_change wsX5_change ({ frames := 4, cells := 0, slots := 0, locals := 127 }) g [.ref m0, .int (nI k), .int 0, .int y, .int w] [(m0, .inr (4, [.int th, .int (nI N), .ref tb, .ref md, .ref rw0, .int sz, .ref cs, .ref va, .int lk, .ref rn, .ref kp])), (tb, jaR g 10 (fun i => some (tr i))), (tr k, jaI g 253 (jrw n f))] [(m0, .inr (4, [.int 1, .int (nI N), .ref tb, .ref md, .ref rw0, .int sz, .ref cs, .ref va, .int lk, .ref rn, .ref kp])), (tb, jaR g 10 (fun i => some (tr i))), (tr k, jaI g 253 (jrw n f))] 0 := by
  refine j_enterW (Qc := fun sz_ => va_Qi (fun r (_ : Unit) => r = 0) (fun _ t => va_P g.1 vwCl [(m0, .inr (4, [.int 1, .int (nI N), .ref tb, .ref md, .ref rw0, .int sz, .ref cs, .ref va, .int lk, .ref rn, .ref kp])), (tb, jaR g 10 (fun i => some (tr i))), (tr k, jaI g 253 (jrw n f))] t.heap) (va_A [(m0, .inr (4, [.int th, .int (nI N), .ref tb, .ref md, .ref rw0, .int sz, .ref cs, .ref va, .int lk, .ref rn, .ref kp])), (tb, jaR g 10 (fun i => some (tr i))), (tr k, jaI g 253 (jrw n f))] sz_)) (cc := cX5_change) (maxL := 5) (ret := (some .int)) (own := RX5) (L := [(0, .ref m0), (1, .int (nI k)), (2, .int 0), (3, .int y), (4, .int w)]) (by decide) rfl rfl (Nat.le_of_ble_eq_true rfl) rfl (fun p e s m args below meth c C hr => ?_)
  refine j_aload_n 0 C dX5_change_0 rfl rfl ?_
  refine j_aload_n 0 C dX5_change_1 rfl rfl ?_
  refine j_iload_n 1 C dX5_change_2 rfl rfl ?_
  refine j_iload_n 2 C dX5_change_3 rfl rfl ?_
  refine j_iload_n 3 C dX5_change_4 rfl rfl ?_
  refine j_iload 4 C dX5_change_5 rfl ?_
  refine j_callRi (v := 1) (j_runV (ci := 0) (As := [.int (nI k), .int 0, .int y, .int w]) (rest := [.ref m0]) [0, 1, 2] C (c_X5_whyRange_l0 l g m0 th N tb md rw0 sz cs va lk rn kp tr k n f y w (by omega) (by omega) (by omega)) gX5_change_X5_whyRange rfl rfl rfl hd_X5_whyRange ⟨Nat.le_of_ble_eq_true rfl, Nat.le_of_ble_eq_true rfl⟩ rfl rfl rfl rfl dX5_change_7 rfl (Nat.le_of_ble_eq_true rfl) ⟨Nat.le_of_ble_eq_true rfl, Nat.le_of_ble_eq_true rfl⟩) ?_
  refine j_put (Cn := RX5) (T := TX5) (N := 11) (ws' := [(m0, .inr (4, [.int 1, .int (nI N), .ref tb, .ref md, .ref rw0, .int sz, .ref cs, .ref va, .int lk, .ref rn, .ref kp])), (tb, jaR g 10 (fun i => some (tr i))), (tr k, jaI g 253 (jrw n f))]) tyX5 0 0 C dX5_change_10 hin_X5_change_X5 tyX5_ok nmX5 rfl rfl (by decide) (List.mem_of_getElem? (i := 1) rfl) rfl (tyX5_ok 0 (by decide)) rfl rfl (Nat.le_of_ble_eq_true rfl) rfl ?_
  refine j_aload_n 0 C dX5_change_13 rfl rfl ?_
  refine j_get (Cn := RX5) (T := TX5) (N := 11) 0 0 C dX5_change_14 hin_X5_change_X5 rfl rfl (by decide) (List.mem_of_getElem? (i := 1) rfl) rfl ?_
  refine j_if_eq (tgt := 22) C dX5_change_17 (by decide) (fun c_1 => ?_) (fun c_1 => ?_)
  · skip
    exact absurd c_1 (by decide)
  · skip
    refine j_iconst (v := 0) C dX5_change_20 rfl ?_
    exact j_iretW (v := 0) C hr dX5_change_21 () rfl rfl
set_option maxHeartbeats 4000000 in
set_option maxRecDepth 100000 in
theorem c_X5_reason_l1 (l : Launch) (g : jG) (m0 : Nat) (th : Int32) (N tb md rw0 : Nat) (sz : Int32) (cs va : Nat) (lk : Int32) (rn kp : Nat) (tr : Nat → Nat) (k n : Nat) (f : Nat → Int32) (y w : Int32) (hk : k < N) (hN : N ≤ 10) (hy : jBt y 0 (nI n - 1) = false) : jWi l yX5_reason wsX5_reason ({ frames := 4, cells := 0, slots := 0, locals := 127 }) g [.ref m0, .int (nI k), .int 1, .int y, .int w] [(m0, .inr (4, [.int th, .int (nI N), .ref tb, .ref md, .ref rw0, .int sz, .ref cs, .ref va, .int lk, .ref rn, .ref kp])), (tb, jaR g 10 (fun i => some (tr i))), (tr k, jaI g 253 (jrw n f))] [(m0, .inr (4, [.int 1, .int (nI N), .ref tb, .ref md, .ref rw0, .int sz, .ref cs, .ref va, .int lk, .ref rn, .ref kp])), (tb, jaR g 10 (fun i => some (tr i))), (tr k, jaI g 253 (jrw n f))] 0 := by
  refine j_enterW (Qc := fun sz_ => va_Qi (fun r (_ : Unit) => r = 0) (fun _ t => va_P g.1 vwCl [(m0, .inr (4, [.int 1, .int (nI N), .ref tb, .ref md, .ref rw0, .int sz, .ref cs, .ref va, .int lk, .ref rn, .ref kp])), (tb, jaR g 10 (fun i => some (tr i))), (tr k, jaI g 253 (jrw n f))] t.heap) (va_A [(m0, .inr (4, [.int th, .int (nI N), .ref tb, .ref md, .ref rw0, .int sz, .ref cs, .ref va, .int lk, .ref rn, .ref kp])), (tb, jaR g 10 (fun i => some (tr i))), (tr k, jaI g 253 (jrw n f))] sz_)) (cc := cX5_reason) (maxL := 5) (ret := (some .int)) (own := RX5) (L := [(0, .ref m0), (1, .int (nI k)), (2, .int 1), (3, .int y), (4, .int w)]) (by decide) rfl rfl (Nat.le_of_ble_eq_true rfl) rfl (fun p e s m args below meth c C hr => ?_)
  refine j_aload_n 0 C dX5_reason_0 rfl rfl ?_
  refine j_aload_n 0 C dX5_reason_1 rfl rfl ?_
  refine j_iload_n 1 C dX5_reason_2 rfl rfl ?_
  refine j_iload_n 2 C dX5_reason_3 rfl rfl ?_
  refine j_iload_n 3 C dX5_reason_4 rfl rfl ?_
  refine j_iload 4 C dX5_reason_5 rfl ?_
  refine j_callRi (v := 1) (j_runV (ci := 0) (As := [.int (nI k), .int 1, .int y, .int w]) (rest := [.ref m0]) [0, 1, 2] C (c_X5_whyRange_l1 l g m0 th N tb md rw0 sz cs va lk rn kp tr k n f y w (by omega) (by omega) (by omega)) gX5_reason_X5_whyRange rfl rfl rfl hd_X5_whyRange ⟨Nat.le_of_ble_eq_true rfl, Nat.le_of_ble_eq_true rfl⟩ rfl rfl rfl rfl dX5_reason_7 rfl (Nat.le_of_ble_eq_true rfl) ⟨Nat.le_of_ble_eq_true rfl, Nat.le_of_ble_eq_true rfl⟩) ?_
  refine j_put (Cn := RX5) (T := TX5) (N := 11) (ws' := [(m0, .inr (4, [.int 1, .int (nI N), .ref tb, .ref md, .ref rw0, .int sz, .ref cs, .ref va, .int lk, .ref rn, .ref kp])), (tb, jaR g 10 (fun i => some (tr i))), (tr k, jaI g 253 (jrw n f))]) tyX5 0 0 C dX5_reason_10 hin_X5_reason_X5 tyX5_ok nmX5 rfl rfl (by decide) (List.mem_of_getElem? (i := 1) rfl) rfl (tyX5_ok 0 (by decide)) rfl rfl (Nat.le_of_ble_eq_true rfl) rfl ?_
  refine j_aload_n 0 C dX5_reason_13 rfl rfl ?_
  refine j_get (Cn := RX5) (T := TX5) (N := 11) 0 0 C dX5_reason_14 hin_X5_reason_X5 rfl rfl (by decide) (List.mem_of_getElem? (i := 1) rfl) rfl ?_
  refine j_if_ne (tgt := 36) C dX5_reason_17 (by decide) (fun c_1 => ?_) (fun c_1 => ?_)
  · skip
    refine j_iconst (v := 0) C dX5_reason_36 rfl ?_
    exact j_iretW (v := 0) C hr dX5_reason_37 () rfl rfl
  · skip
    exact absurd c_1 (by decide)
set_option maxHeartbeats 4000000 in
set_option maxRecDepth 100000 in
theorem c_X5_change_l1 (l : Launch) (g : jG) (m0 : Nat) (th : Int32) (N tb md rw0 : Nat) (sz : Int32) (cs va : Nat) (lk : Int32) (rn kp : Nat) (tr : Nat → Nat) (k n : Nat) (f : Nat → Int32) (y w : Int32) (hk : k < N) (hN : N ≤ 10) (hy : jBt y 0 (nI n - 1) = false) : jWi l yX5_change wsX5_change ({ frames := 4, cells := 0, slots := 0, locals := 127 }) g [.ref m0, .int (nI k), .int 1, .int y, .int w] [(m0, .inr (4, [.int th, .int (nI N), .ref tb, .ref md, .ref rw0, .int sz, .ref cs, .ref va, .int lk, .ref rn, .ref kp])), (tb, jaR g 10 (fun i => some (tr i))), (tr k, jaI g 253 (jrw n f))] [(m0, .inr (4, [.int 1, .int (nI N), .ref tb, .ref md, .ref rw0, .int sz, .ref cs, .ref va, .int lk, .ref rn, .ref kp])), (tb, jaR g 10 (fun i => some (tr i))), (tr k, jaI g 253 (jrw n f))] 0 := by
  refine j_enterW (Qc := fun sz_ => va_Qi (fun r (_ : Unit) => r = 0) (fun _ t => va_P g.1 vwCl [(m0, .inr (4, [.int 1, .int (nI N), .ref tb, .ref md, .ref rw0, .int sz, .ref cs, .ref va, .int lk, .ref rn, .ref kp])), (tb, jaR g 10 (fun i => some (tr i))), (tr k, jaI g 253 (jrw n f))] t.heap) (va_A [(m0, .inr (4, [.int th, .int (nI N), .ref tb, .ref md, .ref rw0, .int sz, .ref cs, .ref va, .int lk, .ref rn, .ref kp])), (tb, jaR g 10 (fun i => some (tr i))), (tr k, jaI g 253 (jrw n f))] sz_)) (cc := cX5_change) (maxL := 5) (ret := (some .int)) (own := RX5) (L := [(0, .ref m0), (1, .int (nI k)), (2, .int 1), (3, .int y), (4, .int w)]) (by decide) rfl rfl (Nat.le_of_ble_eq_true rfl) rfl (fun p e s m args below meth c C hr => ?_)
  refine j_aload_n 0 C dX5_change_0 rfl rfl ?_
  refine j_aload_n 0 C dX5_change_1 rfl rfl ?_
  refine j_iload_n 1 C dX5_change_2 rfl rfl ?_
  refine j_iload_n 2 C dX5_change_3 rfl rfl ?_
  refine j_iload_n 3 C dX5_change_4 rfl rfl ?_
  refine j_iload 4 C dX5_change_5 rfl ?_
  refine j_callRi (v := 1) (j_runV (ci := 0) (As := [.int (nI k), .int 1, .int y, .int w]) (rest := [.ref m0]) [0, 1, 2] C (c_X5_whyRange_l1 l g m0 th N tb md rw0 sz cs va lk rn kp tr k n f y w (by omega) (by omega) (by omega)) gX5_change_X5_whyRange rfl rfl rfl hd_X5_whyRange ⟨Nat.le_of_ble_eq_true rfl, Nat.le_of_ble_eq_true rfl⟩ rfl rfl rfl rfl dX5_change_7 rfl (Nat.le_of_ble_eq_true rfl) ⟨Nat.le_of_ble_eq_true rfl, Nat.le_of_ble_eq_true rfl⟩) ?_
  refine j_put (Cn := RX5) (T := TX5) (N := 11) (ws' := [(m0, .inr (4, [.int 1, .int (nI N), .ref tb, .ref md, .ref rw0, .int sz, .ref cs, .ref va, .int lk, .ref rn, .ref kp])), (tb, jaR g 10 (fun i => some (tr i))), (tr k, jaI g 253 (jrw n f))]) tyX5 0 0 C dX5_change_10 hin_X5_change_X5 tyX5_ok nmX5 rfl rfl (by decide) (List.mem_of_getElem? (i := 1) rfl) rfl (tyX5_ok 0 (by decide)) rfl rfl (Nat.le_of_ble_eq_true rfl) rfl ?_
  refine j_aload_n 0 C dX5_change_13 rfl rfl ?_
  refine j_get (Cn := RX5) (T := TX5) (N := 11) 0 0 C dX5_change_14 hin_X5_change_X5 rfl rfl (by decide) (List.mem_of_getElem? (i := 1) rfl) rfl ?_
  refine j_if_eq (tgt := 22) C dX5_change_17 (by decide) (fun c_1 => ?_) (fun c_1 => ?_)
  · skip
    exact absurd c_1 (by decide)
  · skip
    refine j_iconst (v := 0) C dX5_change_20 rfl ?_
    exact j_iretW (v := 0) C hr dX5_change_21 () rfl rfl
set_option maxHeartbeats 4000000 in
set_option maxRecDepth 100000 in
theorem c_X5_reason_l2 (l : Launch) (g : jG) (m0 : Nat) (th : Int32) (N tb md rw0 : Nat) (sz : Int32) (cs va : Nat) (lk : Int32) (rn kp : Nat) (tr : Nat → Nat) (k n : Nat) (f : Nat → Int32) (y w : Int32) (hk : k < N) (hN : N ≤ 10) (hy : jBt y 0 (nI n - 1) = false) : jWi l yX5_reason wsX5_reason ({ frames := 4, cells := 0, slots := 0, locals := 127 }) g [.ref m0, .int (nI k), .int 2, .int y, .int w] [(m0, .inr (4, [.int th, .int (nI N), .ref tb, .ref md, .ref rw0, .int sz, .ref cs, .ref va, .int lk, .ref rn, .ref kp])), (tb, jaR g 10 (fun i => some (tr i))), (tr k, jaI g 253 (jrw n f))] [(m0, .inr (4, [.int 1, .int (nI N), .ref tb, .ref md, .ref rw0, .int sz, .ref cs, .ref va, .int lk, .ref rn, .ref kp])), (tb, jaR g 10 (fun i => some (tr i))), (tr k, jaI g 253 (jrw n f))] 0 := by
  refine j_enterW (Qc := fun sz_ => va_Qi (fun r (_ : Unit) => r = 0) (fun _ t => va_P g.1 vwCl [(m0, .inr (4, [.int 1, .int (nI N), .ref tb, .ref md, .ref rw0, .int sz, .ref cs, .ref va, .int lk, .ref rn, .ref kp])), (tb, jaR g 10 (fun i => some (tr i))), (tr k, jaI g 253 (jrw n f))] t.heap) (va_A [(m0, .inr (4, [.int th, .int (nI N), .ref tb, .ref md, .ref rw0, .int sz, .ref cs, .ref va, .int lk, .ref rn, .ref kp])), (tb, jaR g 10 (fun i => some (tr i))), (tr k, jaI g 253 (jrw n f))] sz_)) (cc := cX5_reason) (maxL := 5) (ret := (some .int)) (own := RX5) (L := [(0, .ref m0), (1, .int (nI k)), (2, .int 2), (3, .int y), (4, .int w)]) (by decide) rfl rfl (Nat.le_of_ble_eq_true rfl) rfl (fun p e s m args below meth c C hr => ?_)
  refine j_aload_n 0 C dX5_reason_0 rfl rfl ?_
  refine j_aload_n 0 C dX5_reason_1 rfl rfl ?_
  refine j_iload_n 1 C dX5_reason_2 rfl rfl ?_
  refine j_iload_n 2 C dX5_reason_3 rfl rfl ?_
  refine j_iload_n 3 C dX5_reason_4 rfl rfl ?_
  refine j_iload 4 C dX5_reason_5 rfl ?_
  refine j_callRi (v := 1) (j_runV (ci := 0) (As := [.int (nI k), .int 2, .int y, .int w]) (rest := [.ref m0]) [0, 1, 2] C (c_X5_whyRange_l2 l g m0 th N tb md rw0 sz cs va lk rn kp tr k n f y w (by omega) (by omega) (by omega)) gX5_reason_X5_whyRange rfl rfl rfl hd_X5_whyRange ⟨Nat.le_of_ble_eq_true rfl, Nat.le_of_ble_eq_true rfl⟩ rfl rfl rfl rfl dX5_reason_7 rfl (Nat.le_of_ble_eq_true rfl) ⟨Nat.le_of_ble_eq_true rfl, Nat.le_of_ble_eq_true rfl⟩) ?_
  refine j_put (Cn := RX5) (T := TX5) (N := 11) (ws' := [(m0, .inr (4, [.int 1, .int (nI N), .ref tb, .ref md, .ref rw0, .int sz, .ref cs, .ref va, .int lk, .ref rn, .ref kp])), (tb, jaR g 10 (fun i => some (tr i))), (tr k, jaI g 253 (jrw n f))]) tyX5 0 0 C dX5_reason_10 hin_X5_reason_X5 tyX5_ok nmX5 rfl rfl (by decide) (List.mem_of_getElem? (i := 1) rfl) rfl (tyX5_ok 0 (by decide)) rfl rfl (Nat.le_of_ble_eq_true rfl) rfl ?_
  refine j_aload_n 0 C dX5_reason_13 rfl rfl ?_
  refine j_get (Cn := RX5) (T := TX5) (N := 11) 0 0 C dX5_reason_14 hin_X5_reason_X5 rfl rfl (by decide) (List.mem_of_getElem? (i := 1) rfl) rfl ?_
  refine j_if_ne (tgt := 36) C dX5_reason_17 (by decide) (fun c_1 => ?_) (fun c_1 => ?_)
  · skip
    refine j_iconst (v := 0) C dX5_reason_36 rfl ?_
    exact j_iretW (v := 0) C hr dX5_reason_37 () rfl rfl
  · skip
    exact absurd c_1 (by decide)
set_option maxHeartbeats 4000000 in
set_option maxRecDepth 100000 in
theorem c_X5_change_l2 (l : Launch) (g : jG) (m0 : Nat) (th : Int32) (N tb md rw0 : Nat) (sz : Int32) (cs va : Nat) (lk : Int32) (rn kp : Nat) (tr : Nat → Nat) (k n : Nat) (f : Nat → Int32) (y w : Int32) (hk : k < N) (hN : N ≤ 10) (hy : jBt y 0 (nI n - 1) = false) : jWi l yX5_change wsX5_change ({ frames := 4, cells := 0, slots := 0, locals := 127 }) g [.ref m0, .int (nI k), .int 2, .int y, .int w] [(m0, .inr (4, [.int th, .int (nI N), .ref tb, .ref md, .ref rw0, .int sz, .ref cs, .ref va, .int lk, .ref rn, .ref kp])), (tb, jaR g 10 (fun i => some (tr i))), (tr k, jaI g 253 (jrw n f))] [(m0, .inr (4, [.int 1, .int (nI N), .ref tb, .ref md, .ref rw0, .int sz, .ref cs, .ref va, .int lk, .ref rn, .ref kp])), (tb, jaR g 10 (fun i => some (tr i))), (tr k, jaI g 253 (jrw n f))] 0 := by
  refine j_enterW (Qc := fun sz_ => va_Qi (fun r (_ : Unit) => r = 0) (fun _ t => va_P g.1 vwCl [(m0, .inr (4, [.int 1, .int (nI N), .ref tb, .ref md, .ref rw0, .int sz, .ref cs, .ref va, .int lk, .ref rn, .ref kp])), (tb, jaR g 10 (fun i => some (tr i))), (tr k, jaI g 253 (jrw n f))] t.heap) (va_A [(m0, .inr (4, [.int th, .int (nI N), .ref tb, .ref md, .ref rw0, .int sz, .ref cs, .ref va, .int lk, .ref rn, .ref kp])), (tb, jaR g 10 (fun i => some (tr i))), (tr k, jaI g 253 (jrw n f))] sz_)) (cc := cX5_change) (maxL := 5) (ret := (some .int)) (own := RX5) (L := [(0, .ref m0), (1, .int (nI k)), (2, .int 2), (3, .int y), (4, .int w)]) (by decide) rfl rfl (Nat.le_of_ble_eq_true rfl) rfl (fun p e s m args below meth c C hr => ?_)
  refine j_aload_n 0 C dX5_change_0 rfl rfl ?_
  refine j_aload_n 0 C dX5_change_1 rfl rfl ?_
  refine j_iload_n 1 C dX5_change_2 rfl rfl ?_
  refine j_iload_n 2 C dX5_change_3 rfl rfl ?_
  refine j_iload_n 3 C dX5_change_4 rfl rfl ?_
  refine j_iload 4 C dX5_change_5 rfl ?_
  refine j_callRi (v := 1) (j_runV (ci := 0) (As := [.int (nI k), .int 2, .int y, .int w]) (rest := [.ref m0]) [0, 1, 2] C (c_X5_whyRange_l2 l g m0 th N tb md rw0 sz cs va lk rn kp tr k n f y w (by omega) (by omega) (by omega)) gX5_change_X5_whyRange rfl rfl rfl hd_X5_whyRange ⟨Nat.le_of_ble_eq_true rfl, Nat.le_of_ble_eq_true rfl⟩ rfl rfl rfl rfl dX5_change_7 rfl (Nat.le_of_ble_eq_true rfl) ⟨Nat.le_of_ble_eq_true rfl, Nat.le_of_ble_eq_true rfl⟩) ?_
  refine j_put (Cn := RX5) (T := TX5) (N := 11) (ws' := [(m0, .inr (4, [.int 1, .int (nI N), .ref tb, .ref md, .ref rw0, .int sz, .ref cs, .ref va, .int lk, .ref rn, .ref kp])), (tb, jaR g 10 (fun i => some (tr i))), (tr k, jaI g 253 (jrw n f))]) tyX5 0 0 C dX5_change_10 hin_X5_change_X5 tyX5_ok nmX5 rfl rfl (by decide) (List.mem_of_getElem? (i := 1) rfl) rfl (tyX5_ok 0 (by decide)) rfl rfl (Nat.le_of_ble_eq_true rfl) rfl ?_
  refine j_aload_n 0 C dX5_change_13 rfl rfl ?_
  refine j_get (Cn := RX5) (T := TX5) (N := 11) 0 0 C dX5_change_14 hin_X5_change_X5 rfl rfl (by decide) (List.mem_of_getElem? (i := 1) rfl) rfl ?_
  refine j_if_eq (tgt := 22) C dX5_change_17 (by decide) (fun c_1 => ?_) (fun c_1 => ?_)
  · skip
    exact absurd c_1 (by decide)
  · skip
    refine j_iconst (v := 0) C dX5_change_20 rfl ?_
    exact j_iretW (v := 0) C hr dX5_change_21 () rfl rfl
set_option maxHeartbeats 4000000 in
set_option maxRecDepth 100000 in
theorem c_X5_reason_l3 (l : Launch) (g : jG) (m0 : Nat) (th : Int32) (N tb md rw0 : Nat) (sz : Int32) (cs va : Nat) (lk : Int32) (rn kp : Nat) (tr : Nat → Nat) (k n : Nat) (f : Nat → Int32) (y w : Int32) (hk : k < N) (hN : N ≤ 10) (hy : jBt y 0 (nI n - 1) = false) : jWi l yX5_reason wsX5_reason ({ frames := 4, cells := 0, slots := 0, locals := 127 }) g [.ref m0, .int (nI k), .int 3, .int y, .int w] [(m0, .inr (4, [.int th, .int (nI N), .ref tb, .ref md, .ref rw0, .int sz, .ref cs, .ref va, .int lk, .ref rn, .ref kp])), (tb, jaR g 10 (fun i => some (tr i))), (tr k, jaI g 253 (jrw n f))] [(m0, .inr (4, [.int 1, .int (nI N), .ref tb, .ref md, .ref rw0, .int sz, .ref cs, .ref va, .int lk, .ref rn, .ref kp])), (tb, jaR g 10 (fun i => some (tr i))), (tr k, jaI g 253 (jrw n f))] 0 := by
  refine j_enterW (Qc := fun sz_ => va_Qi (fun r (_ : Unit) => r = 0) (fun _ t => va_P g.1 vwCl [(m0, .inr (4, [.int 1, .int (nI N), .ref tb, .ref md, .ref rw0, .int sz, .ref cs, .ref va, .int lk, .ref rn, .ref kp])), (tb, jaR g 10 (fun i => some (tr i))), (tr k, jaI g 253 (jrw n f))] t.heap) (va_A [(m0, .inr (4, [.int th, .int (nI N), .ref tb, .ref md, .ref rw0, .int sz, .ref cs, .ref va, .int lk, .ref rn, .ref kp])), (tb, jaR g 10 (fun i => some (tr i))), (tr k, jaI g 253 (jrw n f))] sz_)) (cc := cX5_reason) (maxL := 5) (ret := (some .int)) (own := RX5) (L := [(0, .ref m0), (1, .int (nI k)), (2, .int 3), (3, .int y), (4, .int w)]) (by decide) rfl rfl (Nat.le_of_ble_eq_true rfl) rfl (fun p e s m args below meth c C hr => ?_)
  refine j_aload_n 0 C dX5_reason_0 rfl rfl ?_
  refine j_aload_n 0 C dX5_reason_1 rfl rfl ?_
  refine j_iload_n 1 C dX5_reason_2 rfl rfl ?_
  refine j_iload_n 2 C dX5_reason_3 rfl rfl ?_
  refine j_iload_n 3 C dX5_reason_4 rfl rfl ?_
  refine j_iload 4 C dX5_reason_5 rfl ?_
  refine j_callRi (v := 1) (j_runV (ci := 0) (As := [.int (nI k), .int 3, .int y, .int w]) (rest := [.ref m0]) [0, 1, 2] C (c_X5_whyRange_l3 l g m0 th N tb md rw0 sz cs va lk rn kp tr k n f y w (by omega) (by omega) (by omega)) gX5_reason_X5_whyRange rfl rfl rfl hd_X5_whyRange ⟨Nat.le_of_ble_eq_true rfl, Nat.le_of_ble_eq_true rfl⟩ rfl rfl rfl rfl dX5_reason_7 rfl (Nat.le_of_ble_eq_true rfl) ⟨Nat.le_of_ble_eq_true rfl, Nat.le_of_ble_eq_true rfl⟩) ?_
  refine j_put (Cn := RX5) (T := TX5) (N := 11) (ws' := [(m0, .inr (4, [.int 1, .int (nI N), .ref tb, .ref md, .ref rw0, .int sz, .ref cs, .ref va, .int lk, .ref rn, .ref kp])), (tb, jaR g 10 (fun i => some (tr i))), (tr k, jaI g 253 (jrw n f))]) tyX5 0 0 C dX5_reason_10 hin_X5_reason_X5 tyX5_ok nmX5 rfl rfl (by decide) (List.mem_of_getElem? (i := 1) rfl) rfl (tyX5_ok 0 (by decide)) rfl rfl (Nat.le_of_ble_eq_true rfl) rfl ?_
  refine j_aload_n 0 C dX5_reason_13 rfl rfl ?_
  refine j_get (Cn := RX5) (T := TX5) (N := 11) 0 0 C dX5_reason_14 hin_X5_reason_X5 rfl rfl (by decide) (List.mem_of_getElem? (i := 1) rfl) rfl ?_
  refine j_if_ne (tgt := 36) C dX5_reason_17 (by decide) (fun c_1 => ?_) (fun c_1 => ?_)
  · skip
    refine j_iconst (v := 0) C dX5_reason_36 rfl ?_
    exact j_iretW (v := 0) C hr dX5_reason_37 () rfl rfl
  · skip
    exact absurd c_1 (by decide)
set_option maxHeartbeats 4000000 in
set_option maxRecDepth 100000 in
theorem c_X5_change_l3 (l : Launch) (g : jG) (m0 : Nat) (th : Int32) (N tb md rw0 : Nat) (sz : Int32) (cs va : Nat) (lk : Int32) (rn kp : Nat) (tr : Nat → Nat) (k n : Nat) (f : Nat → Int32) (y w : Int32) (hk : k < N) (hN : N ≤ 10) (hy : jBt y 0 (nI n - 1) = false) : jWi l yX5_change wsX5_change ({ frames := 4, cells := 0, slots := 0, locals := 127 }) g [.ref m0, .int (nI k), .int 3, .int y, .int w] [(m0, .inr (4, [.int th, .int (nI N), .ref tb, .ref md, .ref rw0, .int sz, .ref cs, .ref va, .int lk, .ref rn, .ref kp])), (tb, jaR g 10 (fun i => some (tr i))), (tr k, jaI g 253 (jrw n f))] [(m0, .inr (4, [.int 1, .int (nI N), .ref tb, .ref md, .ref rw0, .int sz, .ref cs, .ref va, .int lk, .ref rn, .ref kp])), (tb, jaR g 10 (fun i => some (tr i))), (tr k, jaI g 253 (jrw n f))] 0 := by
  refine j_enterW (Qc := fun sz_ => va_Qi (fun r (_ : Unit) => r = 0) (fun _ t => va_P g.1 vwCl [(m0, .inr (4, [.int 1, .int (nI N), .ref tb, .ref md, .ref rw0, .int sz, .ref cs, .ref va, .int lk, .ref rn, .ref kp])), (tb, jaR g 10 (fun i => some (tr i))), (tr k, jaI g 253 (jrw n f))] t.heap) (va_A [(m0, .inr (4, [.int th, .int (nI N), .ref tb, .ref md, .ref rw0, .int sz, .ref cs, .ref va, .int lk, .ref rn, .ref kp])), (tb, jaR g 10 (fun i => some (tr i))), (tr k, jaI g 253 (jrw n f))] sz_)) (cc := cX5_change) (maxL := 5) (ret := (some .int)) (own := RX5) (L := [(0, .ref m0), (1, .int (nI k)), (2, .int 3), (3, .int y), (4, .int w)]) (by decide) rfl rfl (Nat.le_of_ble_eq_true rfl) rfl (fun p e s m args below meth c C hr => ?_)
  refine j_aload_n 0 C dX5_change_0 rfl rfl ?_
  refine j_aload_n 0 C dX5_change_1 rfl rfl ?_
  refine j_iload_n 1 C dX5_change_2 rfl rfl ?_
  refine j_iload_n 2 C dX5_change_3 rfl rfl ?_
  refine j_iload_n 3 C dX5_change_4 rfl rfl ?_
  refine j_iload 4 C dX5_change_5 rfl ?_
  refine j_callRi (v := 1) (j_runV (ci := 0) (As := [.int (nI k), .int 3, .int y, .int w]) (rest := [.ref m0]) [0, 1, 2] C (c_X5_whyRange_l3 l g m0 th N tb md rw0 sz cs va lk rn kp tr k n f y w (by omega) (by omega) (by omega)) gX5_change_X5_whyRange rfl rfl rfl hd_X5_whyRange ⟨Nat.le_of_ble_eq_true rfl, Nat.le_of_ble_eq_true rfl⟩ rfl rfl rfl rfl dX5_change_7 rfl (Nat.le_of_ble_eq_true rfl) ⟨Nat.le_of_ble_eq_true rfl, Nat.le_of_ble_eq_true rfl⟩) ?_
  refine j_put (Cn := RX5) (T := TX5) (N := 11) (ws' := [(m0, .inr (4, [.int 1, .int (nI N), .ref tb, .ref md, .ref rw0, .int sz, .ref cs, .ref va, .int lk, .ref rn, .ref kp])), (tb, jaR g 10 (fun i => some (tr i))), (tr k, jaI g 253 (jrw n f))]) tyX5 0 0 C dX5_change_10 hin_X5_change_X5 tyX5_ok nmX5 rfl rfl (by decide) (List.mem_of_getElem? (i := 1) rfl) rfl (tyX5_ok 0 (by decide)) rfl rfl (Nat.le_of_ble_eq_true rfl) rfl ?_
  refine j_aload_n 0 C dX5_change_13 rfl rfl ?_
  refine j_get (Cn := RX5) (T := TX5) (N := 11) 0 0 C dX5_change_14 hin_X5_change_X5 rfl rfl (by decide) (List.mem_of_getElem? (i := 1) rfl) rfl ?_
  refine j_if_eq (tgt := 22) C dX5_change_17 (by decide) (fun c_1 => ?_) (fun c_1 => ?_)
  · skip
    exact absurd c_1 (by decide)
  · skip
    refine j_iconst (v := 0) C dX5_change_20 rfl ?_
    exact j_iretW (v := 0) C hr dX5_change_21 () rfl rfl
set_option maxHeartbeats 4000000 in
set_option maxRecDepth 100000 in
theorem c_X5_reason_l4 (l : Launch) (g : jG) (m0 : Nat) (th : Int32) (N tb md rw0 : Nat) (sz : Int32) (cs va : Nat) (lk : Int32) (rn kp : Nat) (tr : Nat → Nat) (k n : Nat) (f : Nat → Int32) (y w : Int32) (hk : k < N) (hN : N ≤ 10) (hy : jBt y 0 (nI n - 2) = false) : jWi l yX5_reason wsX5_reason ({ frames := 4, cells := 0, slots := 0, locals := 127 }) g [.ref m0, .int (nI k), .int 4, .int y, .int w] [(m0, .inr (4, [.int th, .int (nI N), .ref tb, .ref md, .ref rw0, .int sz, .ref cs, .ref va, .int lk, .ref rn, .ref kp])), (tb, jaR g 10 (fun i => some (tr i))), (tr k, jaI g 253 (jrw n f))] [(m0, .inr (4, [.int 1, .int (nI N), .ref tb, .ref md, .ref rw0, .int sz, .ref cs, .ref va, .int lk, .ref rn, .ref kp])), (tb, jaR g 10 (fun i => some (tr i))), (tr k, jaI g 253 (jrw n f))] 0 := by
  refine j_enterW (Qc := fun sz_ => va_Qi (fun r (_ : Unit) => r = 0) (fun _ t => va_P g.1 vwCl [(m0, .inr (4, [.int 1, .int (nI N), .ref tb, .ref md, .ref rw0, .int sz, .ref cs, .ref va, .int lk, .ref rn, .ref kp])), (tb, jaR g 10 (fun i => some (tr i))), (tr k, jaI g 253 (jrw n f))] t.heap) (va_A [(m0, .inr (4, [.int th, .int (nI N), .ref tb, .ref md, .ref rw0, .int sz, .ref cs, .ref va, .int lk, .ref rn, .ref kp])), (tb, jaR g 10 (fun i => some (tr i))), (tr k, jaI g 253 (jrw n f))] sz_)) (cc := cX5_reason) (maxL := 5) (ret := (some .int)) (own := RX5) (L := [(0, .ref m0), (1, .int (nI k)), (2, .int 4), (3, .int y), (4, .int w)]) (by decide) rfl rfl (Nat.le_of_ble_eq_true rfl) rfl (fun p e s m args below meth c C hr => ?_)
  refine j_aload_n 0 C dX5_reason_0 rfl rfl ?_
  refine j_aload_n 0 C dX5_reason_1 rfl rfl ?_
  refine j_iload_n 1 C dX5_reason_2 rfl rfl ?_
  refine j_iload_n 2 C dX5_reason_3 rfl rfl ?_
  refine j_iload_n 3 C dX5_reason_4 rfl rfl ?_
  refine j_iload 4 C dX5_reason_5 rfl ?_
  refine j_callRi (v := 1) (j_runV (ci := 0) (As := [.int (nI k), .int 4, .int y, .int w]) (rest := [.ref m0]) [0, 1, 2] C (c_X5_whyRange_l4 l g m0 th N tb md rw0 sz cs va lk rn kp tr k n f y w (by omega) (by omega) (by omega)) gX5_reason_X5_whyRange rfl rfl rfl hd_X5_whyRange ⟨Nat.le_of_ble_eq_true rfl, Nat.le_of_ble_eq_true rfl⟩ rfl rfl rfl rfl dX5_reason_7 rfl (Nat.le_of_ble_eq_true rfl) ⟨Nat.le_of_ble_eq_true rfl, Nat.le_of_ble_eq_true rfl⟩) ?_
  refine j_put (Cn := RX5) (T := TX5) (N := 11) (ws' := [(m0, .inr (4, [.int 1, .int (nI N), .ref tb, .ref md, .ref rw0, .int sz, .ref cs, .ref va, .int lk, .ref rn, .ref kp])), (tb, jaR g 10 (fun i => some (tr i))), (tr k, jaI g 253 (jrw n f))]) tyX5 0 0 C dX5_reason_10 hin_X5_reason_X5 tyX5_ok nmX5 rfl rfl (by decide) (List.mem_of_getElem? (i := 1) rfl) rfl (tyX5_ok 0 (by decide)) rfl rfl (Nat.le_of_ble_eq_true rfl) rfl ?_
  refine j_aload_n 0 C dX5_reason_13 rfl rfl ?_
  refine j_get (Cn := RX5) (T := TX5) (N := 11) 0 0 C dX5_reason_14 hin_X5_reason_X5 rfl rfl (by decide) (List.mem_of_getElem? (i := 1) rfl) rfl ?_
  refine j_if_ne (tgt := 36) C dX5_reason_17 (by decide) (fun c_1 => ?_) (fun c_1 => ?_)
  · skip
    refine j_iconst (v := 0) C dX5_reason_36 rfl ?_
    exact j_iretW (v := 0) C hr dX5_reason_37 () rfl rfl
  · skip
    exact absurd c_1 (by decide)
set_option maxHeartbeats 4000000 in
set_option maxRecDepth 100000 in
theorem c_X5_change_l4 (l : Launch) (g : jG) (m0 : Nat) (th : Int32) (N tb md rw0 : Nat) (sz : Int32) (cs va : Nat) (lk : Int32) (rn kp : Nat) (tr : Nat → Nat) (k n : Nat) (f : Nat → Int32) (y w : Int32) (hk : k < N) (hN : N ≤ 10) (hy : jBt y 0 (nI n - 2) = false) : jWi l yX5_change wsX5_change ({ frames := 4, cells := 0, slots := 0, locals := 127 }) g [.ref m0, .int (nI k), .int 4, .int y, .int w] [(m0, .inr (4, [.int th, .int (nI N), .ref tb, .ref md, .ref rw0, .int sz, .ref cs, .ref va, .int lk, .ref rn, .ref kp])), (tb, jaR g 10 (fun i => some (tr i))), (tr k, jaI g 253 (jrw n f))] [(m0, .inr (4, [.int 1, .int (nI N), .ref tb, .ref md, .ref rw0, .int sz, .ref cs, .ref va, .int lk, .ref rn, .ref kp])), (tb, jaR g 10 (fun i => some (tr i))), (tr k, jaI g 253 (jrw n f))] 0 := by
  refine j_enterW (Qc := fun sz_ => va_Qi (fun r (_ : Unit) => r = 0) (fun _ t => va_P g.1 vwCl [(m0, .inr (4, [.int 1, .int (nI N), .ref tb, .ref md, .ref rw0, .int sz, .ref cs, .ref va, .int lk, .ref rn, .ref kp])), (tb, jaR g 10 (fun i => some (tr i))), (tr k, jaI g 253 (jrw n f))] t.heap) (va_A [(m0, .inr (4, [.int th, .int (nI N), .ref tb, .ref md, .ref rw0, .int sz, .ref cs, .ref va, .int lk, .ref rn, .ref kp])), (tb, jaR g 10 (fun i => some (tr i))), (tr k, jaI g 253 (jrw n f))] sz_)) (cc := cX5_change) (maxL := 5) (ret := (some .int)) (own := RX5) (L := [(0, .ref m0), (1, .int (nI k)), (2, .int 4), (3, .int y), (4, .int w)]) (by decide) rfl rfl (Nat.le_of_ble_eq_true rfl) rfl (fun p e s m args below meth c C hr => ?_)
  refine j_aload_n 0 C dX5_change_0 rfl rfl ?_
  refine j_aload_n 0 C dX5_change_1 rfl rfl ?_
  refine j_iload_n 1 C dX5_change_2 rfl rfl ?_
  refine j_iload_n 2 C dX5_change_3 rfl rfl ?_
  refine j_iload_n 3 C dX5_change_4 rfl rfl ?_
  refine j_iload 4 C dX5_change_5 rfl ?_
  refine j_callRi (v := 1) (j_runV (ci := 0) (As := [.int (nI k), .int 4, .int y, .int w]) (rest := [.ref m0]) [0, 1, 2] C (c_X5_whyRange_l4 l g m0 th N tb md rw0 sz cs va lk rn kp tr k n f y w (by omega) (by omega) (by omega)) gX5_change_X5_whyRange rfl rfl rfl hd_X5_whyRange ⟨Nat.le_of_ble_eq_true rfl, Nat.le_of_ble_eq_true rfl⟩ rfl rfl rfl rfl dX5_change_7 rfl (Nat.le_of_ble_eq_true rfl) ⟨Nat.le_of_ble_eq_true rfl, Nat.le_of_ble_eq_true rfl⟩) ?_
  refine j_put (Cn := RX5) (T := TX5) (N := 11) (ws' := [(m0, .inr (4, [.int 1, .int (nI N), .ref tb, .ref md, .ref rw0, .int sz, .ref cs, .ref va, .int lk, .ref rn, .ref kp])), (tb, jaR g 10 (fun i => some (tr i))), (tr k, jaI g 253 (jrw n f))]) tyX5 0 0 C dX5_change_10 hin_X5_change_X5 tyX5_ok nmX5 rfl rfl (by decide) (List.mem_of_getElem? (i := 1) rfl) rfl (tyX5_ok 0 (by decide)) rfl rfl (Nat.le_of_ble_eq_true rfl) rfl ?_
  refine j_aload_n 0 C dX5_change_13 rfl rfl ?_
  refine j_get (Cn := RX5) (T := TX5) (N := 11) 0 0 C dX5_change_14 hin_X5_change_X5 rfl rfl (by decide) (List.mem_of_getElem? (i := 1) rfl) rfl ?_
  refine j_if_eq (tgt := 22) C dX5_change_17 (by decide) (fun c_1 => ?_) (fun c_1 => ?_)
  · skip
    exact absurd c_1 (by decide)
  · skip
    refine j_iconst (v := 0) C dX5_change_20 rfl ?_
    exact j_iretW (v := 0) C hr dX5_change_21 () rfl rfl
set_option maxHeartbeats 4000000 in
set_option maxRecDepth 100000 in
theorem c_X5_reason_l5 (l : Launch) (g : jG) (m0 : Nat) (th : Int32) (N tb md rw0 : Nat) (sz : Int32) (cs va : Nat) (lk : Int32) (rn kp : Nat) (tr : Nat → Nat) (k n : Nat) (f : Nat → Int32) (y w : Int32) (hk : k < N) (hN : N ≤ 10) (hy : ¬ y = 0) : jWi l yX5_reason wsX5_reason ({ frames := 4, cells := 0, slots := 0, locals := 127 }) g [.ref m0, .int (nI k), .int 5, .int y, .int w] [(m0, .inr (4, [.int th, .int (nI N), .ref tb, .ref md, .ref rw0, .int sz, .ref cs, .ref va, .int lk, .ref rn, .ref kp])), (tb, jaR g 10 (fun i => some (tr i))), (tr k, jaI g 253 (jrw n f))] [(m0, .inr (4, [.int 1, .int (nI N), .ref tb, .ref md, .ref rw0, .int sz, .ref cs, .ref va, .int lk, .ref rn, .ref kp])), (tb, jaR g 10 (fun i => some (tr i))), (tr k, jaI g 253 (jrw n f))] 0 := by
  refine j_enterW (Qc := fun sz_ => va_Qi (fun r (_ : Unit) => r = 0) (fun _ t => va_P g.1 vwCl [(m0, .inr (4, [.int 1, .int (nI N), .ref tb, .ref md, .ref rw0, .int sz, .ref cs, .ref va, .int lk, .ref rn, .ref kp])), (tb, jaR g 10 (fun i => some (tr i))), (tr k, jaI g 253 (jrw n f))] t.heap) (va_A [(m0, .inr (4, [.int th, .int (nI N), .ref tb, .ref md, .ref rw0, .int sz, .ref cs, .ref va, .int lk, .ref rn, .ref kp])), (tb, jaR g 10 (fun i => some (tr i))), (tr k, jaI g 253 (jrw n f))] sz_)) (cc := cX5_reason) (maxL := 5) (ret := (some .int)) (own := RX5) (L := [(0, .ref m0), (1, .int (nI k)), (2, .int 5), (3, .int y), (4, .int w)]) (by decide) rfl rfl (Nat.le_of_ble_eq_true rfl) rfl (fun p e s m args below meth c C hr => ?_)
  refine j_aload_n 0 C dX5_reason_0 rfl rfl ?_
  refine j_aload_n 0 C dX5_reason_1 rfl rfl ?_
  refine j_iload_n 1 C dX5_reason_2 rfl rfl ?_
  refine j_iload_n 2 C dX5_reason_3 rfl rfl ?_
  refine j_iload_n 3 C dX5_reason_4 rfl rfl ?_
  refine j_iload 4 C dX5_reason_5 rfl ?_
  refine j_callRi (v := 1) (j_runV (ci := 0) (As := [.int (nI k), .int 5, .int y, .int w]) (rest := [.ref m0]) [0, 1, 2] C (c_X5_whyRange_l5 l g m0 th N tb md rw0 sz cs va lk rn kp tr k n f y w (by omega) (by omega) (by omega)) gX5_reason_X5_whyRange rfl rfl rfl hd_X5_whyRange ⟨Nat.le_of_ble_eq_true rfl, Nat.le_of_ble_eq_true rfl⟩ rfl rfl rfl rfl dX5_reason_7 rfl (Nat.le_of_ble_eq_true rfl) ⟨Nat.le_of_ble_eq_true rfl, Nat.le_of_ble_eq_true rfl⟩) ?_
  refine j_put (Cn := RX5) (T := TX5) (N := 11) (ws' := [(m0, .inr (4, [.int 1, .int (nI N), .ref tb, .ref md, .ref rw0, .int sz, .ref cs, .ref va, .int lk, .ref rn, .ref kp])), (tb, jaR g 10 (fun i => some (tr i))), (tr k, jaI g 253 (jrw n f))]) tyX5 0 0 C dX5_reason_10 hin_X5_reason_X5 tyX5_ok nmX5 rfl rfl (by decide) (List.mem_of_getElem? (i := 1) rfl) rfl (tyX5_ok 0 (by decide)) rfl rfl (Nat.le_of_ble_eq_true rfl) rfl ?_
  refine j_aload_n 0 C dX5_reason_13 rfl rfl ?_
  refine j_get (Cn := RX5) (T := TX5) (N := 11) 0 0 C dX5_reason_14 hin_X5_reason_X5 rfl rfl (by decide) (List.mem_of_getElem? (i := 1) rfl) rfl ?_
  refine j_if_ne (tgt := 36) C dX5_reason_17 (by decide) (fun c_1 => ?_) (fun c_1 => ?_)
  · skip
    refine j_iconst (v := 0) C dX5_reason_36 rfl ?_
    exact j_iretW (v := 0) C hr dX5_reason_37 () rfl rfl
  · skip
    exact absurd c_1 (by decide)
set_option maxHeartbeats 4000000 in
set_option maxRecDepth 100000 in
theorem c_X5_change_l5 (l : Launch) (g : jG) (m0 : Nat) (th : Int32) (N tb md rw0 : Nat) (sz : Int32) (cs va : Nat) (lk : Int32) (rn kp : Nat) (tr : Nat → Nat) (k n : Nat) (f : Nat → Int32) (y w : Int32) (hk : k < N) (hN : N ≤ 10) (hy : ¬ y = 0) : jWi l yX5_change wsX5_change ({ frames := 4, cells := 0, slots := 0, locals := 127 }) g [.ref m0, .int (nI k), .int 5, .int y, .int w] [(m0, .inr (4, [.int th, .int (nI N), .ref tb, .ref md, .ref rw0, .int sz, .ref cs, .ref va, .int lk, .ref rn, .ref kp])), (tb, jaR g 10 (fun i => some (tr i))), (tr k, jaI g 253 (jrw n f))] [(m0, .inr (4, [.int 1, .int (nI N), .ref tb, .ref md, .ref rw0, .int sz, .ref cs, .ref va, .int lk, .ref rn, .ref kp])), (tb, jaR g 10 (fun i => some (tr i))), (tr k, jaI g 253 (jrw n f))] 0 := by
  refine j_enterW (Qc := fun sz_ => va_Qi (fun r (_ : Unit) => r = 0) (fun _ t => va_P g.1 vwCl [(m0, .inr (4, [.int 1, .int (nI N), .ref tb, .ref md, .ref rw0, .int sz, .ref cs, .ref va, .int lk, .ref rn, .ref kp])), (tb, jaR g 10 (fun i => some (tr i))), (tr k, jaI g 253 (jrw n f))] t.heap) (va_A [(m0, .inr (4, [.int th, .int (nI N), .ref tb, .ref md, .ref rw0, .int sz, .ref cs, .ref va, .int lk, .ref rn, .ref kp])), (tb, jaR g 10 (fun i => some (tr i))), (tr k, jaI g 253 (jrw n f))] sz_)) (cc := cX5_change) (maxL := 5) (ret := (some .int)) (own := RX5) (L := [(0, .ref m0), (1, .int (nI k)), (2, .int 5), (3, .int y), (4, .int w)]) (by decide) rfl rfl (Nat.le_of_ble_eq_true rfl) rfl (fun p e s m args below meth c C hr => ?_)
  refine j_aload_n 0 C dX5_change_0 rfl rfl ?_
  refine j_aload_n 0 C dX5_change_1 rfl rfl ?_
  refine j_iload_n 1 C dX5_change_2 rfl rfl ?_
  refine j_iload_n 2 C dX5_change_3 rfl rfl ?_
  refine j_iload_n 3 C dX5_change_4 rfl rfl ?_
  refine j_iload 4 C dX5_change_5 rfl ?_
  refine j_callRi (v := 1) (j_runV (ci := 0) (As := [.int (nI k), .int 5, .int y, .int w]) (rest := [.ref m0]) [0, 1, 2] C (c_X5_whyRange_l5 l g m0 th N tb md rw0 sz cs va lk rn kp tr k n f y w (by omega) (by omega) (by omega)) gX5_change_X5_whyRange rfl rfl rfl hd_X5_whyRange ⟨Nat.le_of_ble_eq_true rfl, Nat.le_of_ble_eq_true rfl⟩ rfl rfl rfl rfl dX5_change_7 rfl (Nat.le_of_ble_eq_true rfl) ⟨Nat.le_of_ble_eq_true rfl, Nat.le_of_ble_eq_true rfl⟩) ?_
  refine j_put (Cn := RX5) (T := TX5) (N := 11) (ws' := [(m0, .inr (4, [.int 1, .int (nI N), .ref tb, .ref md, .ref rw0, .int sz, .ref cs, .ref va, .int lk, .ref rn, .ref kp])), (tb, jaR g 10 (fun i => some (tr i))), (tr k, jaI g 253 (jrw n f))]) tyX5 0 0 C dX5_change_10 hin_X5_change_X5 tyX5_ok nmX5 rfl rfl (by decide) (List.mem_of_getElem? (i := 1) rfl) rfl (tyX5_ok 0 (by decide)) rfl rfl (Nat.le_of_ble_eq_true rfl) rfl ?_
  refine j_aload_n 0 C dX5_change_13 rfl rfl ?_
  refine j_get (Cn := RX5) (T := TX5) (N := 11) 0 0 C dX5_change_14 hin_X5_change_X5 rfl rfl (by decide) (List.mem_of_getElem? (i := 1) rfl) rfl ?_
  refine j_if_eq (tgt := 22) C dX5_change_17 (by decide) (fun c_1 => ?_) (fun c_1 => ?_)
  · skip
    exact absurd c_1 (by decide)
  · skip
    refine j_iconst (v := 0) C dX5_change_20 rfl ?_
    exact j_iretW (v := 0) C hr dX5_change_21 () rfl rfl
set_option maxHeartbeats 4000000 in
set_option maxRecDepth 100000 in
theorem c_X5_reason_w0 (l : Launch) (g : jG) (m0 : Nat) (th : Int32) (N tb md rw0 : Nat) (sz : Int32) (cs va : Nat) (lk : Int32) (rn kp : Nat) (tr : Nat → Nat) (k n : Nat) (f : Nat → Int32) (j : Nat) (w : Int32) (hk : k < N) (hN : N ≤ 10) (hj : j + 1 < n) (hn : n ≤ 8) (hw : ¬ w = 0) : jWi l yX5_reason wsX5_reason ({ frames := 4, cells := 0, slots := 0, locals := 127 }) g [.ref m0, .int (nI k), .int 0, .int (nI j), .int w] [(m0, .inr (4, [.int th, .int (nI N), .ref tb, .ref md, .ref rw0, .int sz, .ref cs, .ref va, .int lk, .ref rn, .ref kp])), (tb, jaR g 10 (fun i => some (tr i))), (tr k, jaI g 253 (jrw n f))] [(m0, .inr (4, [.int 2, .int (nI N), .ref tb, .ref md, .ref rw0, .int sz, .ref cs, .ref va, .int lk, .ref rn, .ref kp])), (tb, jaR g 10 (fun i => some (tr i))), (tr k, jaI g 253 (jrw n f))] 0 := by
  refine j_enterW (Qc := fun sz_ => va_Qi (fun r (_ : Unit) => r = 0) (fun _ t => va_P g.1 vwCl [(m0, .inr (4, [.int 2, .int (nI N), .ref tb, .ref md, .ref rw0, .int sz, .ref cs, .ref va, .int lk, .ref rn, .ref kp])), (tb, jaR g 10 (fun i => some (tr i))), (tr k, jaI g 253 (jrw n f))] t.heap) (va_A [(m0, .inr (4, [.int th, .int (nI N), .ref tb, .ref md, .ref rw0, .int sz, .ref cs, .ref va, .int lk, .ref rn, .ref kp])), (tb, jaR g 10 (fun i => some (tr i))), (tr k, jaI g 253 (jrw n f))] sz_)) (cc := cX5_reason) (maxL := 5) (ret := (some .int)) (own := RX5) (L := [(0, .ref m0), (1, .int (nI k)), (2, .int 0), (3, .int (nI j)), (4, .int w)]) (by decide) rfl rfl (Nat.le_of_ble_eq_true rfl) rfl (fun p e s m args below meth c C hr => ?_)
  refine j_aload_n 0 C dX5_reason_0 rfl rfl ?_
  refine j_aload_n 0 C dX5_reason_1 rfl rfl ?_
  refine j_iload_n 1 C dX5_reason_2 rfl rfl ?_
  refine j_iload_n 2 C dX5_reason_3 rfl rfl ?_
  refine j_iload_n 3 C dX5_reason_4 rfl rfl ?_
  refine j_iload 4 C dX5_reason_5 rfl ?_
  refine j_callRi (v := 2) (j_runV (ci := 0) (As := [.int (nI k), .int 0, .int (nI j), .int w]) (rest := [.ref m0]) [0, 1, 2] C (c_X5_whyRange_w0 l g m0 th N tb md rw0 sz cs va lk rn kp tr k n f j w (by omega) (by omega) (by omega) (by omega) (by omega)) gX5_reason_X5_whyRange rfl rfl rfl hd_X5_whyRange ⟨Nat.le_of_ble_eq_true rfl, Nat.le_of_ble_eq_true rfl⟩ rfl rfl rfl rfl dX5_reason_7 rfl (Nat.le_of_ble_eq_true rfl) ⟨Nat.le_of_ble_eq_true rfl, Nat.le_of_ble_eq_true rfl⟩) ?_
  refine j_put (Cn := RX5) (T := TX5) (N := 11) (ws' := [(m0, .inr (4, [.int 2, .int (nI N), .ref tb, .ref md, .ref rw0, .int sz, .ref cs, .ref va, .int lk, .ref rn, .ref kp])), (tb, jaR g 10 (fun i => some (tr i))), (tr k, jaI g 253 (jrw n f))]) tyX5 0 0 C dX5_reason_10 hin_X5_reason_X5 tyX5_ok nmX5 rfl rfl (by decide) (List.mem_of_getElem? (i := 1) rfl) rfl (tyX5_ok 0 (by decide)) rfl rfl (Nat.le_of_ble_eq_true rfl) rfl ?_
  refine j_aload_n 0 C dX5_reason_13 rfl rfl ?_
  refine j_get (Cn := RX5) (T := TX5) (N := 11) 0 0 C dX5_reason_14 hin_X5_reason_X5 rfl rfl (by decide) (List.mem_of_getElem? (i := 1) rfl) rfl ?_
  refine j_if_ne (tgt := 36) C dX5_reason_17 (by decide) (fun c_1 => ?_) (fun c_1 => ?_)
  · skip
    refine j_iconst (v := 0) C dX5_reason_36 rfl ?_
    exact j_iretW (v := 0) C hr dX5_reason_37 () rfl rfl
  · skip
    exact absurd c_1 (by decide)
set_option maxHeartbeats 4000000 in
set_option maxRecDepth 100000 in
theorem c_X5_change_w0 (l : Launch) (g : jG) (m0 : Nat) (th : Int32) (N tb md rw0 : Nat) (sz : Int32) (cs va : Nat) (lk : Int32) (rn kp : Nat) (tr : Nat → Nat) (k n : Nat) (f : Nat → Int32) (j : Nat) (w : Int32) (hk : k < N) (hN : N ≤ 10) (hj : j + 1 < n) (hn : n ≤ 8) (hw : ¬ w = 0) : jWi l yX5_change wsX5_change ({ frames := 4, cells := 0, slots := 0, locals := 127 }) g [.ref m0, .int (nI k), .int 0, .int (nI j), .int w] [(m0, .inr (4, [.int th, .int (nI N), .ref tb, .ref md, .ref rw0, .int sz, .ref cs, .ref va, .int lk, .ref rn, .ref kp])), (tb, jaR g 10 (fun i => some (tr i))), (tr k, jaI g 253 (jrw n f))] [(m0, .inr (4, [.int 2, .int (nI N), .ref tb, .ref md, .ref rw0, .int sz, .ref cs, .ref va, .int lk, .ref rn, .ref kp])), (tb, jaR g 10 (fun i => some (tr i))), (tr k, jaI g 253 (jrw n f))] 0 := by
  refine j_enterW (Qc := fun sz_ => va_Qi (fun r (_ : Unit) => r = 0) (fun _ t => va_P g.1 vwCl [(m0, .inr (4, [.int 2, .int (nI N), .ref tb, .ref md, .ref rw0, .int sz, .ref cs, .ref va, .int lk, .ref rn, .ref kp])), (tb, jaR g 10 (fun i => some (tr i))), (tr k, jaI g 253 (jrw n f))] t.heap) (va_A [(m0, .inr (4, [.int th, .int (nI N), .ref tb, .ref md, .ref rw0, .int sz, .ref cs, .ref va, .int lk, .ref rn, .ref kp])), (tb, jaR g 10 (fun i => some (tr i))), (tr k, jaI g 253 (jrw n f))] sz_)) (cc := cX5_change) (maxL := 5) (ret := (some .int)) (own := RX5) (L := [(0, .ref m0), (1, .int (nI k)), (2, .int 0), (3, .int (nI j)), (4, .int w)]) (by decide) rfl rfl (Nat.le_of_ble_eq_true rfl) rfl (fun p e s m args below meth c C hr => ?_)
  refine j_aload_n 0 C dX5_change_0 rfl rfl ?_
  refine j_aload_n 0 C dX5_change_1 rfl rfl ?_
  refine j_iload_n 1 C dX5_change_2 rfl rfl ?_
  refine j_iload_n 2 C dX5_change_3 rfl rfl ?_
  refine j_iload_n 3 C dX5_change_4 rfl rfl ?_
  refine j_iload 4 C dX5_change_5 rfl ?_
  refine j_callRi (v := 2) (j_runV (ci := 0) (As := [.int (nI k), .int 0, .int (nI j), .int w]) (rest := [.ref m0]) [0, 1, 2] C (c_X5_whyRange_w0 l g m0 th N tb md rw0 sz cs va lk rn kp tr k n f j w (by omega) (by omega) (by omega) (by omega) (by omega)) gX5_change_X5_whyRange rfl rfl rfl hd_X5_whyRange ⟨Nat.le_of_ble_eq_true rfl, Nat.le_of_ble_eq_true rfl⟩ rfl rfl rfl rfl dX5_change_7 rfl (Nat.le_of_ble_eq_true rfl) ⟨Nat.le_of_ble_eq_true rfl, Nat.le_of_ble_eq_true rfl⟩) ?_
  refine j_put (Cn := RX5) (T := TX5) (N := 11) (ws' := [(m0, .inr (4, [.int 2, .int (nI N), .ref tb, .ref md, .ref rw0, .int sz, .ref cs, .ref va, .int lk, .ref rn, .ref kp])), (tb, jaR g 10 (fun i => some (tr i))), (tr k, jaI g 253 (jrw n f))]) tyX5 0 0 C dX5_change_10 hin_X5_change_X5 tyX5_ok nmX5 rfl rfl (by decide) (List.mem_of_getElem? (i := 1) rfl) rfl (tyX5_ok 0 (by decide)) rfl rfl (Nat.le_of_ble_eq_true rfl) rfl ?_
  refine j_aload_n 0 C dX5_change_13 rfl rfl ?_
  refine j_get (Cn := RX5) (T := TX5) (N := 11) 0 0 C dX5_change_14 hin_X5_change_X5 rfl rfl (by decide) (List.mem_of_getElem? (i := 1) rfl) rfl ?_
  refine j_if_eq (tgt := 22) C dX5_change_17 (by decide) (fun c_1 => ?_) (fun c_1 => ?_)
  · skip
    exact absurd c_1 (by decide)
  · skip
    refine j_iconst (v := 0) C dX5_change_20 rfl ?_
    exact j_iretW (v := 0) C hr dX5_change_21 () rfl rfl
set_option maxHeartbeats 4000000 in
set_option maxRecDepth 100000 in
theorem c_X5_reason_w1 (l : Launch) (g : jG) (m0 : Nat) (th : Int32) (N tb md rw0 : Nat) (sz : Int32) (cs va : Nat) (lk : Int32) (rn kp : Nat) (tr : Nat → Nat) (k n : Nat) (f : Nat → Int32) (j a : Nat) (w : Int32) (hk : k < N) (hN : N ≤ 10) (hj : j < n) (hn : n ≤ 8) (ha : f (j * 28 + 3) = nI a) (ha6 : a ≤ 6) (hw : jBt w 1 (nI a - 1) = false) : jWi l yX5_reason wsX5_reason ({ frames := 4, cells := 0, slots := 0, locals := 127 }) g [.ref m0, .int (nI k), .int 1, .int (nI j), .int w] [(m0, .inr (4, [.int th, .int (nI N), .ref tb, .ref md, .ref rw0, .int sz, .ref cs, .ref va, .int lk, .ref rn, .ref kp])), (tb, jaR g 10 (fun i => some (tr i))), (tr k, jaI g 253 (jrw n f))] [(m0, .inr (4, [.int 2, .int (nI N), .ref tb, .ref md, .ref rw0, .int sz, .ref cs, .ref va, .int lk, .ref rn, .ref kp])), (tb, jaR g 10 (fun i => some (tr i))), (tr k, jaI g 253 (jrw n f))] 0 := by
  refine j_enterW (Qc := fun sz_ => va_Qi (fun r (_ : Unit) => r = 0) (fun _ t => va_P g.1 vwCl [(m0, .inr (4, [.int 2, .int (nI N), .ref tb, .ref md, .ref rw0, .int sz, .ref cs, .ref va, .int lk, .ref rn, .ref kp])), (tb, jaR g 10 (fun i => some (tr i))), (tr k, jaI g 253 (jrw n f))] t.heap) (va_A [(m0, .inr (4, [.int th, .int (nI N), .ref tb, .ref md, .ref rw0, .int sz, .ref cs, .ref va, .int lk, .ref rn, .ref kp])), (tb, jaR g 10 (fun i => some (tr i))), (tr k, jaI g 253 (jrw n f))] sz_)) (cc := cX5_reason) (maxL := 5) (ret := (some .int)) (own := RX5) (L := [(0, .ref m0), (1, .int (nI k)), (2, .int 1), (3, .int (nI j)), (4, .int w)]) (by decide) rfl rfl (Nat.le_of_ble_eq_true rfl) rfl (fun p e s m args below meth c C hr => ?_)
  refine j_aload_n 0 C dX5_reason_0 rfl rfl ?_
  refine j_aload_n 0 C dX5_reason_1 rfl rfl ?_
  refine j_iload_n 1 C dX5_reason_2 rfl rfl ?_
  refine j_iload_n 2 C dX5_reason_3 rfl rfl ?_
  refine j_iload_n 3 C dX5_reason_4 rfl rfl ?_
  refine j_iload 4 C dX5_reason_5 rfl ?_
  refine j_callRi (v := 2) (j_runV (ci := 0) (As := [.int (nI k), .int 1, .int (nI j), .int w]) (rest := [.ref m0]) [0, 1, 2] C (c_X5_whyRange_w1 l g m0 th N tb md rw0 sz cs va lk rn kp tr k n f j a w (by omega) (by omega) (by omega) (by omega) ha (by omega) (by omega)) gX5_reason_X5_whyRange rfl rfl rfl hd_X5_whyRange ⟨Nat.le_of_ble_eq_true rfl, Nat.le_of_ble_eq_true rfl⟩ rfl rfl rfl rfl dX5_reason_7 rfl (Nat.le_of_ble_eq_true rfl) ⟨Nat.le_of_ble_eq_true rfl, Nat.le_of_ble_eq_true rfl⟩) ?_
  refine j_put (Cn := RX5) (T := TX5) (N := 11) (ws' := [(m0, .inr (4, [.int 2, .int (nI N), .ref tb, .ref md, .ref rw0, .int sz, .ref cs, .ref va, .int lk, .ref rn, .ref kp])), (tb, jaR g 10 (fun i => some (tr i))), (tr k, jaI g 253 (jrw n f))]) tyX5 0 0 C dX5_reason_10 hin_X5_reason_X5 tyX5_ok nmX5 rfl rfl (by decide) (List.mem_of_getElem? (i := 1) rfl) rfl (tyX5_ok 0 (by decide)) rfl rfl (Nat.le_of_ble_eq_true rfl) rfl ?_
  refine j_aload_n 0 C dX5_reason_13 rfl rfl ?_
  refine j_get (Cn := RX5) (T := TX5) (N := 11) 0 0 C dX5_reason_14 hin_X5_reason_X5 rfl rfl (by decide) (List.mem_of_getElem? (i := 1) rfl) rfl ?_
  refine j_if_ne (tgt := 36) C dX5_reason_17 (by decide) (fun c_1 => ?_) (fun c_1 => ?_)
  · skip
    refine j_iconst (v := 0) C dX5_reason_36 rfl ?_
    exact j_iretW (v := 0) C hr dX5_reason_37 () rfl rfl
  · skip
    exact absurd c_1 (by decide)
set_option maxHeartbeats 4000000 in
set_option maxRecDepth 100000 in
theorem c_X5_change_w1 (l : Launch) (g : jG) (m0 : Nat) (th : Int32) (N tb md rw0 : Nat) (sz : Int32) (cs va : Nat) (lk : Int32) (rn kp : Nat) (tr : Nat → Nat) (k n : Nat) (f : Nat → Int32) (j a : Nat) (w : Int32) (hk : k < N) (hN : N ≤ 10) (hj : j < n) (hn : n ≤ 8) (ha : f (j * 28 + 3) = nI a) (ha6 : a ≤ 6) (hw : jBt w 1 (nI a - 1) = false) : jWi l yX5_change wsX5_change ({ frames := 4, cells := 0, slots := 0, locals := 127 }) g [.ref m0, .int (nI k), .int 1, .int (nI j), .int w] [(m0, .inr (4, [.int th, .int (nI N), .ref tb, .ref md, .ref rw0, .int sz, .ref cs, .ref va, .int lk, .ref rn, .ref kp])), (tb, jaR g 10 (fun i => some (tr i))), (tr k, jaI g 253 (jrw n f))] [(m0, .inr (4, [.int 2, .int (nI N), .ref tb, .ref md, .ref rw0, .int sz, .ref cs, .ref va, .int lk, .ref rn, .ref kp])), (tb, jaR g 10 (fun i => some (tr i))), (tr k, jaI g 253 (jrw n f))] 0 := by
  refine j_enterW (Qc := fun sz_ => va_Qi (fun r (_ : Unit) => r = 0) (fun _ t => va_P g.1 vwCl [(m0, .inr (4, [.int 2, .int (nI N), .ref tb, .ref md, .ref rw0, .int sz, .ref cs, .ref va, .int lk, .ref rn, .ref kp])), (tb, jaR g 10 (fun i => some (tr i))), (tr k, jaI g 253 (jrw n f))] t.heap) (va_A [(m0, .inr (4, [.int th, .int (nI N), .ref tb, .ref md, .ref rw0, .int sz, .ref cs, .ref va, .int lk, .ref rn, .ref kp])), (tb, jaR g 10 (fun i => some (tr i))), (tr k, jaI g 253 (jrw n f))] sz_)) (cc := cX5_change) (maxL := 5) (ret := (some .int)) (own := RX5) (L := [(0, .ref m0), (1, .int (nI k)), (2, .int 1), (3, .int (nI j)), (4, .int w)]) (by decide) rfl rfl (Nat.le_of_ble_eq_true rfl) rfl (fun p e s m args below meth c C hr => ?_)
  refine j_aload_n 0 C dX5_change_0 rfl rfl ?_
  refine j_aload_n 0 C dX5_change_1 rfl rfl ?_
  refine j_iload_n 1 C dX5_change_2 rfl rfl ?_
  refine j_iload_n 2 C dX5_change_3 rfl rfl ?_
  refine j_iload_n 3 C dX5_change_4 rfl rfl ?_
  refine j_iload 4 C dX5_change_5 rfl ?_
  refine j_callRi (v := 2) (j_runV (ci := 0) (As := [.int (nI k), .int 1, .int (nI j), .int w]) (rest := [.ref m0]) [0, 1, 2] C (c_X5_whyRange_w1 l g m0 th N tb md rw0 sz cs va lk rn kp tr k n f j a w (by omega) (by omega) (by omega) (by omega) ha (by omega) (by omega)) gX5_change_X5_whyRange rfl rfl rfl hd_X5_whyRange ⟨Nat.le_of_ble_eq_true rfl, Nat.le_of_ble_eq_true rfl⟩ rfl rfl rfl rfl dX5_change_7 rfl (Nat.le_of_ble_eq_true rfl) ⟨Nat.le_of_ble_eq_true rfl, Nat.le_of_ble_eq_true rfl⟩) ?_
  refine j_put (Cn := RX5) (T := TX5) (N := 11) (ws' := [(m0, .inr (4, [.int 2, .int (nI N), .ref tb, .ref md, .ref rw0, .int sz, .ref cs, .ref va, .int lk, .ref rn, .ref kp])), (tb, jaR g 10 (fun i => some (tr i))), (tr k, jaI g 253 (jrw n f))]) tyX5 0 0 C dX5_change_10 hin_X5_change_X5 tyX5_ok nmX5 rfl rfl (by decide) (List.mem_of_getElem? (i := 1) rfl) rfl (tyX5_ok 0 (by decide)) rfl rfl (Nat.le_of_ble_eq_true rfl) rfl ?_
  refine j_aload_n 0 C dX5_change_13 rfl rfl ?_
  refine j_get (Cn := RX5) (T := TX5) (N := 11) 0 0 C dX5_change_14 hin_X5_change_X5 rfl rfl (by decide) (List.mem_of_getElem? (i := 1) rfl) rfl ?_
  refine j_if_eq (tgt := 22) C dX5_change_17 (by decide) (fun c_1 => ?_) (fun c_1 => ?_)
  · skip
    exact absurd c_1 (by decide)
  · skip
    refine j_iconst (v := 0) C dX5_change_20 rfl ?_
    exact j_iretW (v := 0) C hr dX5_change_21 () rfl rfl
set_option maxHeartbeats 4000000 in
set_option maxRecDepth 100000 in
theorem c_X5_reason_w2 (l : Launch) (g : jG) (m0 : Nat) (th : Int32) (N tb md rw0 : Nat) (sz : Int32) (cs va : Nat) (lk : Int32) (rn kp : Nat) (tr : Nat → Nat) (k n : Nat) (f : Nat → Int32) (j : Nat) (w : Int32) (hk : k < N) (hN : N ≤ 10) (hj : j < n) (hn : n ≤ 8) (hw : jBt w 1 10 = false) : jWi l yX5_reason wsX5_reason ({ frames := 4, cells := 0, slots := 0, locals := 127 }) g [.ref m0, .int (nI k), .int 2, .int (nI j), .int w] [(m0, .inr (4, [.int th, .int (nI N), .ref tb, .ref md, .ref rw0, .int sz, .ref cs, .ref va, .int lk, .ref rn, .ref kp])), (tb, jaR g 10 (fun i => some (tr i))), (tr k, jaI g 253 (jrw n f))] [(m0, .inr (4, [.int 2, .int (nI N), .ref tb, .ref md, .ref rw0, .int sz, .ref cs, .ref va, .int lk, .ref rn, .ref kp])), (tb, jaR g 10 (fun i => some (tr i))), (tr k, jaI g 253 (jrw n f))] 0 := by
  refine j_enterW (Qc := fun sz_ => va_Qi (fun r (_ : Unit) => r = 0) (fun _ t => va_P g.1 vwCl [(m0, .inr (4, [.int 2, .int (nI N), .ref tb, .ref md, .ref rw0, .int sz, .ref cs, .ref va, .int lk, .ref rn, .ref kp])), (tb, jaR g 10 (fun i => some (tr i))), (tr k, jaI g 253 (jrw n f))] t.heap) (va_A [(m0, .inr (4, [.int th, .int (nI N), .ref tb, .ref md, .ref rw0, .int sz, .ref cs, .ref va, .int lk, .ref rn, .ref kp])), (tb, jaR g 10 (fun i => some (tr i))), (tr k, jaI g 253 (jrw n f))] sz_)) (cc := cX5_reason) (maxL := 5) (ret := (some .int)) (own := RX5) (L := [(0, .ref m0), (1, .int (nI k)), (2, .int 2), (3, .int (nI j)), (4, .int w)]) (by decide) rfl rfl (Nat.le_of_ble_eq_true rfl) rfl (fun p e s m args below meth c C hr => ?_)
  refine j_aload_n 0 C dX5_reason_0 rfl rfl ?_
  refine j_aload_n 0 C dX5_reason_1 rfl rfl ?_
  refine j_iload_n 1 C dX5_reason_2 rfl rfl ?_
  refine j_iload_n 2 C dX5_reason_3 rfl rfl ?_
  refine j_iload_n 3 C dX5_reason_4 rfl rfl ?_
  refine j_iload 4 C dX5_reason_5 rfl ?_
  refine j_callRi (v := 2) (j_runV (ci := 0) (As := [.int (nI k), .int 2, .int (nI j), .int w]) (rest := [.ref m0]) [0, 1, 2] C (c_X5_whyRange_w2 l g m0 th N tb md rw0 sz cs va lk rn kp tr k n f j w (by omega) (by omega) (by omega) (by omega) (by omega)) gX5_reason_X5_whyRange rfl rfl rfl hd_X5_whyRange ⟨Nat.le_of_ble_eq_true rfl, Nat.le_of_ble_eq_true rfl⟩ rfl rfl rfl rfl dX5_reason_7 rfl (Nat.le_of_ble_eq_true rfl) ⟨Nat.le_of_ble_eq_true rfl, Nat.le_of_ble_eq_true rfl⟩) ?_
  refine j_put (Cn := RX5) (T := TX5) (N := 11) (ws' := [(m0, .inr (4, [.int 2, .int (nI N), .ref tb, .ref md, .ref rw0, .int sz, .ref cs, .ref va, .int lk, .ref rn, .ref kp])), (tb, jaR g 10 (fun i => some (tr i))), (tr k, jaI g 253 (jrw n f))]) tyX5 0 0 C dX5_reason_10 hin_X5_reason_X5 tyX5_ok nmX5 rfl rfl (by decide) (List.mem_of_getElem? (i := 1) rfl) rfl (tyX5_ok 0 (by decide)) rfl rfl (Nat.le_of_ble_eq_true rfl) rfl ?_
  refine j_aload_n 0 C dX5_reason_13 rfl rfl ?_
  refine j_get (Cn := RX5) (T := TX5) (N := 11) 0 0 C dX5_reason_14 hin_X5_reason_X5 rfl rfl (by decide) (List.mem_of_getElem? (i := 1) rfl) rfl ?_
  refine j_if_ne (tgt := 36) C dX5_reason_17 (by decide) (fun c_1 => ?_) (fun c_1 => ?_)
  · skip
    refine j_iconst (v := 0) C dX5_reason_36 rfl ?_
    exact j_iretW (v := 0) C hr dX5_reason_37 () rfl rfl
  · skip
    exact absurd c_1 (by decide)
set_option maxHeartbeats 4000000 in
set_option maxRecDepth 100000 in
theorem c_X5_change_w2 (l : Launch) (g : jG) (m0 : Nat) (th : Int32) (N tb md rw0 : Nat) (sz : Int32) (cs va : Nat) (lk : Int32) (rn kp : Nat) (tr : Nat → Nat) (k n : Nat) (f : Nat → Int32) (j : Nat) (w : Int32) (hk : k < N) (hN : N ≤ 10) (hj : j < n) (hn : n ≤ 8) (hw : jBt w 1 10 = false) : jWi l yX5_change wsX5_change ({ frames := 4, cells := 0, slots := 0, locals := 127 }) g [.ref m0, .int (nI k), .int 2, .int (nI j), .int w] [(m0, .inr (4, [.int th, .int (nI N), .ref tb, .ref md, .ref rw0, .int sz, .ref cs, .ref va, .int lk, .ref rn, .ref kp])), (tb, jaR g 10 (fun i => some (tr i))), (tr k, jaI g 253 (jrw n f))] [(m0, .inr (4, [.int 2, .int (nI N), .ref tb, .ref md, .ref rw0, .int sz, .ref cs, .ref va, .int lk, .ref rn, .ref kp])), (tb, jaR g 10 (fun i => some (tr i))), (tr k, jaI g 253 (jrw n f))] 0 := by
  refine j_enterW (Qc := fun sz_ => va_Qi (fun r (_ : Unit) => r = 0) (fun _ t => va_P g.1 vwCl [(m0, .inr (4, [.int 2, .int (nI N), .ref tb, .ref md, .ref rw0, .int sz, .ref cs, .ref va, .int lk, .ref rn, .ref kp])), (tb, jaR g 10 (fun i => some (tr i))), (tr k, jaI g 253 (jrw n f))] t.heap) (va_A [(m0, .inr (4, [.int th, .int (nI N), .ref tb, .ref md, .ref rw0, .int sz, .ref cs, .ref va, .int lk, .ref rn, .ref kp])), (tb, jaR g 10 (fun i => some (tr i))), (tr k, jaI g 253 (jrw n f))] sz_)) (cc := cX5_change) (maxL := 5) (ret := (some .int)) (own := RX5) (L := [(0, .ref m0), (1, .int (nI k)), (2, .int 2), (3, .int (nI j)), (4, .int w)]) (by decide) rfl rfl (Nat.le_of_ble_eq_true rfl) rfl (fun p e s m args below meth c C hr => ?_)
  refine j_aload_n 0 C dX5_change_0 rfl rfl ?_
  refine j_aload_n 0 C dX5_change_1 rfl rfl ?_
  refine j_iload_n 1 C dX5_change_2 rfl rfl ?_
  refine j_iload_n 2 C dX5_change_3 rfl rfl ?_
  refine j_iload_n 3 C dX5_change_4 rfl rfl ?_
  refine j_iload 4 C dX5_change_5 rfl ?_
  refine j_callRi (v := 2) (j_runV (ci := 0) (As := [.int (nI k), .int 2, .int (nI j), .int w]) (rest := [.ref m0]) [0, 1, 2] C (c_X5_whyRange_w2 l g m0 th N tb md rw0 sz cs va lk rn kp tr k n f j w (by omega) (by omega) (by omega) (by omega) (by omega)) gX5_change_X5_whyRange rfl rfl rfl hd_X5_whyRange ⟨Nat.le_of_ble_eq_true rfl, Nat.le_of_ble_eq_true rfl⟩ rfl rfl rfl rfl dX5_change_7 rfl (Nat.le_of_ble_eq_true rfl) ⟨Nat.le_of_ble_eq_true rfl, Nat.le_of_ble_eq_true rfl⟩) ?_
  refine j_put (Cn := RX5) (T := TX5) (N := 11) (ws' := [(m0, .inr (4, [.int 2, .int (nI N), .ref tb, .ref md, .ref rw0, .int sz, .ref cs, .ref va, .int lk, .ref rn, .ref kp])), (tb, jaR g 10 (fun i => some (tr i))), (tr k, jaI g 253 (jrw n f))]) tyX5 0 0 C dX5_change_10 hin_X5_change_X5 tyX5_ok nmX5 rfl rfl (by decide) (List.mem_of_getElem? (i := 1) rfl) rfl (tyX5_ok 0 (by decide)) rfl rfl (Nat.le_of_ble_eq_true rfl) rfl ?_
  refine j_aload_n 0 C dX5_change_13 rfl rfl ?_
  refine j_get (Cn := RX5) (T := TX5) (N := 11) 0 0 C dX5_change_14 hin_X5_change_X5 rfl rfl (by decide) (List.mem_of_getElem? (i := 1) rfl) rfl ?_
  refine j_if_eq (tgt := 22) C dX5_change_17 (by decide) (fun c_1 => ?_) (fun c_1 => ?_)
  · skip
    exact absurd c_1 (by decide)
  · skip
    refine j_iconst (v := 0) C dX5_change_20 rfl ?_
    exact j_iretW (v := 0) C hr dX5_change_21 () rfl rfl
set_option maxHeartbeats 4000000 in
set_option maxRecDepth 100000 in
theorem c_X5_reason_w3 (l : Launch) (g : jG) (m0 : Nat) (th : Int32) (N tb md rw0 : Nat) (sz : Int32) (cs va : Nat) (lk : Int32) (rn kp : Nat) (tr : Nat → Nat) (k n : Nat) (f : Nat → Int32) (j : Nat) (w : Int32) (hk : k < N) (hN : N ≤ 10) (hj : j < n) (hn : n ≤ 8) (hw : ¬ w = 0) : jWi l yX5_reason wsX5_reason ({ frames := 4, cells := 0, slots := 0, locals := 127 }) g [.ref m0, .int (nI k), .int 3, .int (nI j), .int w] [(m0, .inr (4, [.int th, .int (nI N), .ref tb, .ref md, .ref rw0, .int sz, .ref cs, .ref va, .int lk, .ref rn, .ref kp])), (tb, jaR g 10 (fun i => some (tr i))), (tr k, jaI g 253 (jrw n f))] [(m0, .inr (4, [.int 2, .int (nI N), .ref tb, .ref md, .ref rw0, .int sz, .ref cs, .ref va, .int lk, .ref rn, .ref kp])), (tb, jaR g 10 (fun i => some (tr i))), (tr k, jaI g 253 (jrw n f))] 0 := by
  refine j_enterW (Qc := fun sz_ => va_Qi (fun r (_ : Unit) => r = 0) (fun _ t => va_P g.1 vwCl [(m0, .inr (4, [.int 2, .int (nI N), .ref tb, .ref md, .ref rw0, .int sz, .ref cs, .ref va, .int lk, .ref rn, .ref kp])), (tb, jaR g 10 (fun i => some (tr i))), (tr k, jaI g 253 (jrw n f))] t.heap) (va_A [(m0, .inr (4, [.int th, .int (nI N), .ref tb, .ref md, .ref rw0, .int sz, .ref cs, .ref va, .int lk, .ref rn, .ref kp])), (tb, jaR g 10 (fun i => some (tr i))), (tr k, jaI g 253 (jrw n f))] sz_)) (cc := cX5_reason) (maxL := 5) (ret := (some .int)) (own := RX5) (L := [(0, .ref m0), (1, .int (nI k)), (2, .int 3), (3, .int (nI j)), (4, .int w)]) (by decide) rfl rfl (Nat.le_of_ble_eq_true rfl) rfl (fun p e s m args below meth c C hr => ?_)
  refine j_aload_n 0 C dX5_reason_0 rfl rfl ?_
  refine j_aload_n 0 C dX5_reason_1 rfl rfl ?_
  refine j_iload_n 1 C dX5_reason_2 rfl rfl ?_
  refine j_iload_n 2 C dX5_reason_3 rfl rfl ?_
  refine j_iload_n 3 C dX5_reason_4 rfl rfl ?_
  refine j_iload 4 C dX5_reason_5 rfl ?_
  refine j_callRi (v := 2) (j_runV (ci := 0) (As := [.int (nI k), .int 3, .int (nI j), .int w]) (rest := [.ref m0]) [0, 1, 2] C (c_X5_whyRange_w3 l g m0 th N tb md rw0 sz cs va lk rn kp tr k n f j w (by omega) (by omega) (by omega) (by omega) (by omega)) gX5_reason_X5_whyRange rfl rfl rfl hd_X5_whyRange ⟨Nat.le_of_ble_eq_true rfl, Nat.le_of_ble_eq_true rfl⟩ rfl rfl rfl rfl dX5_reason_7 rfl (Nat.le_of_ble_eq_true rfl) ⟨Nat.le_of_ble_eq_true rfl, Nat.le_of_ble_eq_true rfl⟩) ?_
  refine j_put (Cn := RX5) (T := TX5) (N := 11) (ws' := [(m0, .inr (4, [.int 2, .int (nI N), .ref tb, .ref md, .ref rw0, .int sz, .ref cs, .ref va, .int lk, .ref rn, .ref kp])), (tb, jaR g 10 (fun i => some (tr i))), (tr k, jaI g 253 (jrw n f))]) tyX5 0 0 C dX5_reason_10 hin_X5_reason_X5 tyX5_ok nmX5 rfl rfl (by decide) (List.mem_of_getElem? (i := 1) rfl) rfl (tyX5_ok 0 (by decide)) rfl rfl (Nat.le_of_ble_eq_true rfl) rfl ?_
  refine j_aload_n 0 C dX5_reason_13 rfl rfl ?_
  refine j_get (Cn := RX5) (T := TX5) (N := 11) 0 0 C dX5_reason_14 hin_X5_reason_X5 rfl rfl (by decide) (List.mem_of_getElem? (i := 1) rfl) rfl ?_
  refine j_if_ne (tgt := 36) C dX5_reason_17 (by decide) (fun c_1 => ?_) (fun c_1 => ?_)
  · skip
    refine j_iconst (v := 0) C dX5_reason_36 rfl ?_
    exact j_iretW (v := 0) C hr dX5_reason_37 () rfl rfl
  · skip
    exact absurd c_1 (by decide)
set_option maxHeartbeats 4000000 in
set_option maxRecDepth 100000 in
theorem c_X5_change_w3 (l : Launch) (g : jG) (m0 : Nat) (th : Int32) (N tb md rw0 : Nat) (sz : Int32) (cs va : Nat) (lk : Int32) (rn kp : Nat) (tr : Nat → Nat) (k n : Nat) (f : Nat → Int32) (j : Nat) (w : Int32) (hk : k < N) (hN : N ≤ 10) (hj : j < n) (hn : n ≤ 8) (hw : ¬ w = 0) : jWi l yX5_change wsX5_change ({ frames := 4, cells := 0, slots := 0, locals := 127 }) g [.ref m0, .int (nI k), .int 3, .int (nI j), .int w] [(m0, .inr (4, [.int th, .int (nI N), .ref tb, .ref md, .ref rw0, .int sz, .ref cs, .ref va, .int lk, .ref rn, .ref kp])), (tb, jaR g 10 (fun i => some (tr i))), (tr k, jaI g 253 (jrw n f))] [(m0, .inr (4, [.int 2, .int (nI N), .ref tb, .ref md, .ref rw0, .int sz, .ref cs, .ref va, .int lk, .ref rn, .ref kp])), (tb, jaR g 10 (fun i => some (tr i))), (tr k, jaI g 253 (jrw n f))] 0 := by
  refine j_enterW (Qc := fun sz_ => va_Qi (fun r (_ : Unit) => r = 0) (fun _ t => va_P g.1 vwCl [(m0, .inr (4, [.int 2, .int (nI N), .ref tb, .ref md, .ref rw0, .int sz, .ref cs, .ref va, .int lk, .ref rn, .ref kp])), (tb, jaR g 10 (fun i => some (tr i))), (tr k, jaI g 253 (jrw n f))] t.heap) (va_A [(m0, .inr (4, [.int th, .int (nI N), .ref tb, .ref md, .ref rw0, .int sz, .ref cs, .ref va, .int lk, .ref rn, .ref kp])), (tb, jaR g 10 (fun i => some (tr i))), (tr k, jaI g 253 (jrw n f))] sz_)) (cc := cX5_change) (maxL := 5) (ret := (some .int)) (own := RX5) (L := [(0, .ref m0), (1, .int (nI k)), (2, .int 3), (3, .int (nI j)), (4, .int w)]) (by decide) rfl rfl (Nat.le_of_ble_eq_true rfl) rfl (fun p e s m args below meth c C hr => ?_)
  refine j_aload_n 0 C dX5_change_0 rfl rfl ?_
  refine j_aload_n 0 C dX5_change_1 rfl rfl ?_
  refine j_iload_n 1 C dX5_change_2 rfl rfl ?_
  refine j_iload_n 2 C dX5_change_3 rfl rfl ?_
  refine j_iload_n 3 C dX5_change_4 rfl rfl ?_
  refine j_iload 4 C dX5_change_5 rfl ?_
  refine j_callRi (v := 2) (j_runV (ci := 0) (As := [.int (nI k), .int 3, .int (nI j), .int w]) (rest := [.ref m0]) [0, 1, 2] C (c_X5_whyRange_w3 l g m0 th N tb md rw0 sz cs va lk rn kp tr k n f j w (by omega) (by omega) (by omega) (by omega) (by omega)) gX5_change_X5_whyRange rfl rfl rfl hd_X5_whyRange ⟨Nat.le_of_ble_eq_true rfl, Nat.le_of_ble_eq_true rfl⟩ rfl rfl rfl rfl dX5_change_7 rfl (Nat.le_of_ble_eq_true rfl) ⟨Nat.le_of_ble_eq_true rfl, Nat.le_of_ble_eq_true rfl⟩) ?_
  refine j_put (Cn := RX5) (T := TX5) (N := 11) (ws' := [(m0, .inr (4, [.int 2, .int (nI N), .ref tb, .ref md, .ref rw0, .int sz, .ref cs, .ref va, .int lk, .ref rn, .ref kp])), (tb, jaR g 10 (fun i => some (tr i))), (tr k, jaI g 253 (jrw n f))]) tyX5 0 0 C dX5_change_10 hin_X5_change_X5 tyX5_ok nmX5 rfl rfl (by decide) (List.mem_of_getElem? (i := 1) rfl) rfl (tyX5_ok 0 (by decide)) rfl rfl (Nat.le_of_ble_eq_true rfl) rfl ?_
  refine j_aload_n 0 C dX5_change_13 rfl rfl ?_
  refine j_get (Cn := RX5) (T := TX5) (N := 11) 0 0 C dX5_change_14 hin_X5_change_X5 rfl rfl (by decide) (List.mem_of_getElem? (i := 1) rfl) rfl ?_
  refine j_if_eq (tgt := 22) C dX5_change_17 (by decide) (fun c_1 => ?_) (fun c_1 => ?_)
  · skip
    exact absurd c_1 (by decide)
  · skip
    refine j_iconst (v := 0) C dX5_change_20 rfl ?_
    exact j_iretW (v := 0) C hr dX5_change_21 () rfl rfl
set_option maxHeartbeats 4000000 in
set_option maxRecDepth 100000 in
theorem c_X5_reason_w4 (l : Launch) (g : jG) (m0 : Nat) (th : Int32) (N tb md rw0 : Nat) (sz : Int32) (cs va : Nat) (lk : Int32) (rn kp : Nat) (tr : Nat → Nat) (k n : Nat) (f : Nat → Int32) (j : Nat) (w : Int32) (hk : k < N) (hN : N ≤ 10) (hj : j + 1 < n) (hn : n ≤ 8) (hw : ¬ w = 0) : jWi l yX5_reason wsX5_reason ({ frames := 4, cells := 0, slots := 0, locals := 127 }) g [.ref m0, .int (nI k), .int 4, .int (nI j), .int w] [(m0, .inr (4, [.int th, .int (nI N), .ref tb, .ref md, .ref rw0, .int sz, .ref cs, .ref va, .int lk, .ref rn, .ref kp])), (tb, jaR g 10 (fun i => some (tr i))), (tr k, jaI g 253 (jrw n f))] [(m0, .inr (4, [.int 2, .int (nI N), .ref tb, .ref md, .ref rw0, .int sz, .ref cs, .ref va, .int lk, .ref rn, .ref kp])), (tb, jaR g 10 (fun i => some (tr i))), (tr k, jaI g 253 (jrw n f))] 0 := by
  refine j_enterW (Qc := fun sz_ => va_Qi (fun r (_ : Unit) => r = 0) (fun _ t => va_P g.1 vwCl [(m0, .inr (4, [.int 2, .int (nI N), .ref tb, .ref md, .ref rw0, .int sz, .ref cs, .ref va, .int lk, .ref rn, .ref kp])), (tb, jaR g 10 (fun i => some (tr i))), (tr k, jaI g 253 (jrw n f))] t.heap) (va_A [(m0, .inr (4, [.int th, .int (nI N), .ref tb, .ref md, .ref rw0, .int sz, .ref cs, .ref va, .int lk, .ref rn, .ref kp])), (tb, jaR g 10 (fun i => some (tr i))), (tr k, jaI g 253 (jrw n f))] sz_)) (cc := cX5_reason) (maxL := 5) (ret := (some .int)) (own := RX5) (L := [(0, .ref m0), (1, .int (nI k)), (2, .int 4), (3, .int (nI j)), (4, .int w)]) (by decide) rfl rfl (Nat.le_of_ble_eq_true rfl) rfl (fun p e s m args below meth c C hr => ?_)
  refine j_aload_n 0 C dX5_reason_0 rfl rfl ?_
  refine j_aload_n 0 C dX5_reason_1 rfl rfl ?_
  refine j_iload_n 1 C dX5_reason_2 rfl rfl ?_
  refine j_iload_n 2 C dX5_reason_3 rfl rfl ?_
  refine j_iload_n 3 C dX5_reason_4 rfl rfl ?_
  refine j_iload 4 C dX5_reason_5 rfl ?_
  refine j_callRi (v := 2) (j_runV (ci := 0) (As := [.int (nI k), .int 4, .int (nI j), .int w]) (rest := [.ref m0]) [0, 1, 2] C (c_X5_whyRange_w4 l g m0 th N tb md rw0 sz cs va lk rn kp tr k n f j w (by omega) (by omega) (by omega) (by omega) (by omega)) gX5_reason_X5_whyRange rfl rfl rfl hd_X5_whyRange ⟨Nat.le_of_ble_eq_true rfl, Nat.le_of_ble_eq_true rfl⟩ rfl rfl rfl rfl dX5_reason_7 rfl (Nat.le_of_ble_eq_true rfl) ⟨Nat.le_of_ble_eq_true rfl, Nat.le_of_ble_eq_true rfl⟩) ?_
  refine j_put (Cn := RX5) (T := TX5) (N := 11) (ws' := [(m0, .inr (4, [.int 2, .int (nI N), .ref tb, .ref md, .ref rw0, .int sz, .ref cs, .ref va, .int lk, .ref rn, .ref kp])), (tb, jaR g 10 (fun i => some (tr i))), (tr k, jaI g 253 (jrw n f))]) tyX5 0 0 C dX5_reason_10 hin_X5_reason_X5 tyX5_ok nmX5 rfl rfl (by decide) (List.mem_of_getElem? (i := 1) rfl) rfl (tyX5_ok 0 (by decide)) rfl rfl (Nat.le_of_ble_eq_true rfl) rfl ?_
  refine j_aload_n 0 C dX5_reason_13 rfl rfl ?_
  refine j_get (Cn := RX5) (T := TX5) (N := 11) 0 0 C dX5_reason_14 hin_X5_reason_X5 rfl rfl (by decide) (List.mem_of_getElem? (i := 1) rfl) rfl ?_
  refine j_if_ne (tgt := 36) C dX5_reason_17 (by decide) (fun c_1 => ?_) (fun c_1 => ?_)
  · skip
    refine j_iconst (v := 0) C dX5_reason_36 rfl ?_
    exact j_iretW (v := 0) C hr dX5_reason_37 () rfl rfl
  · skip
    exact absurd c_1 (by decide)
set_option maxHeartbeats 4000000 in
set_option maxRecDepth 100000 in
theorem c_X5_change_w4 (l : Launch) (g : jG) (m0 : Nat) (th : Int32) (N tb md rw0 : Nat) (sz : Int32) (cs va : Nat) (lk : Int32) (rn kp : Nat) (tr : Nat → Nat) (k n : Nat) (f : Nat → Int32) (j : Nat) (w : Int32) (hk : k < N) (hN : N ≤ 10) (hj : j + 1 < n) (hn : n ≤ 8) (hw : ¬ w = 0) : jWi l yX5_change wsX5_change ({ frames := 4, cells := 0, slots := 0, locals := 127 }) g [.ref m0, .int (nI k), .int 4, .int (nI j), .int w] [(m0, .inr (4, [.int th, .int (nI N), .ref tb, .ref md, .ref rw0, .int sz, .ref cs, .ref va, .int lk, .ref rn, .ref kp])), (tb, jaR g 10 (fun i => some (tr i))), (tr k, jaI g 253 (jrw n f))] [(m0, .inr (4, [.int 2, .int (nI N), .ref tb, .ref md, .ref rw0, .int sz, .ref cs, .ref va, .int lk, .ref rn, .ref kp])), (tb, jaR g 10 (fun i => some (tr i))), (tr k, jaI g 253 (jrw n f))] 0 := by
  refine j_enterW (Qc := fun sz_ => va_Qi (fun r (_ : Unit) => r = 0) (fun _ t => va_P g.1 vwCl [(m0, .inr (4, [.int 2, .int (nI N), .ref tb, .ref md, .ref rw0, .int sz, .ref cs, .ref va, .int lk, .ref rn, .ref kp])), (tb, jaR g 10 (fun i => some (tr i))), (tr k, jaI g 253 (jrw n f))] t.heap) (va_A [(m0, .inr (4, [.int th, .int (nI N), .ref tb, .ref md, .ref rw0, .int sz, .ref cs, .ref va, .int lk, .ref rn, .ref kp])), (tb, jaR g 10 (fun i => some (tr i))), (tr k, jaI g 253 (jrw n f))] sz_)) (cc := cX5_change) (maxL := 5) (ret := (some .int)) (own := RX5) (L := [(0, .ref m0), (1, .int (nI k)), (2, .int 4), (3, .int (nI j)), (4, .int w)]) (by decide) rfl rfl (Nat.le_of_ble_eq_true rfl) rfl (fun p e s m args below meth c C hr => ?_)
  refine j_aload_n 0 C dX5_change_0 rfl rfl ?_
  refine j_aload_n 0 C dX5_change_1 rfl rfl ?_
  refine j_iload_n 1 C dX5_change_2 rfl rfl ?_
  refine j_iload_n 2 C dX5_change_3 rfl rfl ?_
  refine j_iload_n 3 C dX5_change_4 rfl rfl ?_
  refine j_iload 4 C dX5_change_5 rfl ?_
  refine j_callRi (v := 2) (j_runV (ci := 0) (As := [.int (nI k), .int 4, .int (nI j), .int w]) (rest := [.ref m0]) [0, 1, 2] C (c_X5_whyRange_w4 l g m0 th N tb md rw0 sz cs va lk rn kp tr k n f j w (by omega) (by omega) (by omega) (by omega) (by omega)) gX5_change_X5_whyRange rfl rfl rfl hd_X5_whyRange ⟨Nat.le_of_ble_eq_true rfl, Nat.le_of_ble_eq_true rfl⟩ rfl rfl rfl rfl dX5_change_7 rfl (Nat.le_of_ble_eq_true rfl) ⟨Nat.le_of_ble_eq_true rfl, Nat.le_of_ble_eq_true rfl⟩) ?_
  refine j_put (Cn := RX5) (T := TX5) (N := 11) (ws' := [(m0, .inr (4, [.int 2, .int (nI N), .ref tb, .ref md, .ref rw0, .int sz, .ref cs, .ref va, .int lk, .ref rn, .ref kp])), (tb, jaR g 10 (fun i => some (tr i))), (tr k, jaI g 253 (jrw n f))]) tyX5 0 0 C dX5_change_10 hin_X5_change_X5 tyX5_ok nmX5 rfl rfl (by decide) (List.mem_of_getElem? (i := 1) rfl) rfl (tyX5_ok 0 (by decide)) rfl rfl (Nat.le_of_ble_eq_true rfl) rfl ?_
  refine j_aload_n 0 C dX5_change_13 rfl rfl ?_
  refine j_get (Cn := RX5) (T := TX5) (N := 11) 0 0 C dX5_change_14 hin_X5_change_X5 rfl rfl (by decide) (List.mem_of_getElem? (i := 1) rfl) rfl ?_
  refine j_if_eq (tgt := 22) C dX5_change_17 (by decide) (fun c_1 => ?_) (fun c_1 => ?_)
  · skip
    exact absurd c_1 (by decide)
  · skip
    refine j_iconst (v := 0) C dX5_change_20 rfl ?_
    exact j_iretW (v := 0) C hr dX5_change_21 () rfl rfl
set_option maxHeartbeats 4000000 in
set_option maxRecDepth 100000 in
theorem c_X5_reason_w5 (l : Launch) (g : jG) (m0 : Nat) (th : Int32) (N tb md rw0 : Nat) (sz : Int32) (cs va : Nat) (lk : Int32) (rn kp : Nat) (tr : Nat → Nat) (k n : Nat) (f : Nat → Int32) (w : Int32) (hk : k < N) (hN : N ≤ 10) (hw : ¬ w = 0) : jWi l yX5_reason wsX5_reason ({ frames := 4, cells := 0, slots := 0, locals := 127 }) g [.ref m0, .int (nI k), .int 5, .int 0, .int w] [(m0, .inr (4, [.int th, .int (nI N), .ref tb, .ref md, .ref rw0, .int sz, .ref cs, .ref va, .int lk, .ref rn, .ref kp])), (tb, jaR g 10 (fun i => some (tr i))), (tr k, jaI g 253 (jrw n f))] [(m0, .inr (4, [.int 2, .int (nI N), .ref tb, .ref md, .ref rw0, .int sz, .ref cs, .ref va, .int lk, .ref rn, .ref kp])), (tb, jaR g 10 (fun i => some (tr i))), (tr k, jaI g 253 (jrw n f))] 0 := by
  refine j_enterW (Qc := fun sz_ => va_Qi (fun r (_ : Unit) => r = 0) (fun _ t => va_P g.1 vwCl [(m0, .inr (4, [.int 2, .int (nI N), .ref tb, .ref md, .ref rw0, .int sz, .ref cs, .ref va, .int lk, .ref rn, .ref kp])), (tb, jaR g 10 (fun i => some (tr i))), (tr k, jaI g 253 (jrw n f))] t.heap) (va_A [(m0, .inr (4, [.int th, .int (nI N), .ref tb, .ref md, .ref rw0, .int sz, .ref cs, .ref va, .int lk, .ref rn, .ref kp])), (tb, jaR g 10 (fun i => some (tr i))), (tr k, jaI g 253 (jrw n f))] sz_)) (cc := cX5_reason) (maxL := 5) (ret := (some .int)) (own := RX5) (L := [(0, .ref m0), (1, .int (nI k)), (2, .int 5), (3, .int 0), (4, .int w)]) (by decide) rfl rfl (Nat.le_of_ble_eq_true rfl) rfl (fun p e s m args below meth c C hr => ?_)
  refine j_aload_n 0 C dX5_reason_0 rfl rfl ?_
  refine j_aload_n 0 C dX5_reason_1 rfl rfl ?_
  refine j_iload_n 1 C dX5_reason_2 rfl rfl ?_
  refine j_iload_n 2 C dX5_reason_3 rfl rfl ?_
  refine j_iload_n 3 C dX5_reason_4 rfl rfl ?_
  refine j_iload 4 C dX5_reason_5 rfl ?_
  refine j_callRi (v := 2) (j_runV (ci := 0) (As := [.int (nI k), .int 5, .int 0, .int w]) (rest := [.ref m0]) [0, 1, 2] C (c_X5_whyRange_w5 l g m0 th N tb md rw0 sz cs va lk rn kp tr k n f w (by omega) (by omega) (by omega)) gX5_reason_X5_whyRange rfl rfl rfl hd_X5_whyRange ⟨Nat.le_of_ble_eq_true rfl, Nat.le_of_ble_eq_true rfl⟩ rfl rfl rfl rfl dX5_reason_7 rfl (Nat.le_of_ble_eq_true rfl) ⟨Nat.le_of_ble_eq_true rfl, Nat.le_of_ble_eq_true rfl⟩) ?_
  refine j_put (Cn := RX5) (T := TX5) (N := 11) (ws' := [(m0, .inr (4, [.int 2, .int (nI N), .ref tb, .ref md, .ref rw0, .int sz, .ref cs, .ref va, .int lk, .ref rn, .ref kp])), (tb, jaR g 10 (fun i => some (tr i))), (tr k, jaI g 253 (jrw n f))]) tyX5 0 0 C dX5_reason_10 hin_X5_reason_X5 tyX5_ok nmX5 rfl rfl (by decide) (List.mem_of_getElem? (i := 1) rfl) rfl (tyX5_ok 0 (by decide)) rfl rfl (Nat.le_of_ble_eq_true rfl) rfl ?_
  refine j_aload_n 0 C dX5_reason_13 rfl rfl ?_
  refine j_get (Cn := RX5) (T := TX5) (N := 11) 0 0 C dX5_reason_14 hin_X5_reason_X5 rfl rfl (by decide) (List.mem_of_getElem? (i := 1) rfl) rfl ?_
  refine j_if_ne (tgt := 36) C dX5_reason_17 (by decide) (fun c_1 => ?_) (fun c_1 => ?_)
  · skip
    refine j_iconst (v := 0) C dX5_reason_36 rfl ?_
    exact j_iretW (v := 0) C hr dX5_reason_37 () rfl rfl
  · skip
    exact absurd c_1 (by decide)
set_option maxHeartbeats 4000000 in
set_option maxRecDepth 100000 in
theorem c_X5_change_w5 (l : Launch) (g : jG) (m0 : Nat) (th : Int32) (N tb md rw0 : Nat) (sz : Int32) (cs va : Nat) (lk : Int32) (rn kp : Nat) (tr : Nat → Nat) (k n : Nat) (f : Nat → Int32) (w : Int32) (hk : k < N) (hN : N ≤ 10) (hw : ¬ w = 0) : jWi l yX5_change wsX5_change ({ frames := 4, cells := 0, slots := 0, locals := 127 }) g [.ref m0, .int (nI k), .int 5, .int 0, .int w] [(m0, .inr (4, [.int th, .int (nI N), .ref tb, .ref md, .ref rw0, .int sz, .ref cs, .ref va, .int lk, .ref rn, .ref kp])), (tb, jaR g 10 (fun i => some (tr i))), (tr k, jaI g 253 (jrw n f))] [(m0, .inr (4, [.int 2, .int (nI N), .ref tb, .ref md, .ref rw0, .int sz, .ref cs, .ref va, .int lk, .ref rn, .ref kp])), (tb, jaR g 10 (fun i => some (tr i))), (tr k, jaI g 253 (jrw n f))] 0 := by
  refine j_enterW (Qc := fun sz_ => va_Qi (fun r (_ : Unit) => r = 0) (fun _ t => va_P g.1 vwCl [(m0, .inr (4, [.int 2, .int (nI N), .ref tb, .ref md, .ref rw0, .int sz, .ref cs, .ref va, .int lk, .ref rn, .ref kp])), (tb, jaR g 10 (fun i => some (tr i))), (tr k, jaI g 253 (jrw n f))] t.heap) (va_A [(m0, .inr (4, [.int th, .int (nI N), .ref tb, .ref md, .ref rw0, .int sz, .ref cs, .ref va, .int lk, .ref rn, .ref kp])), (tb, jaR g 10 (fun i => some (tr i))), (tr k, jaI g 253 (jrw n f))] sz_)) (cc := cX5_change) (maxL := 5) (ret := (some .int)) (own := RX5) (L := [(0, .ref m0), (1, .int (nI k)), (2, .int 5), (3, .int 0), (4, .int w)]) (by decide) rfl rfl (Nat.le_of_ble_eq_true rfl) rfl (fun p e s m args below meth c C hr => ?_)
  refine j_aload_n 0 C dX5_change_0 rfl rfl ?_
  refine j_aload_n 0 C dX5_change_1 rfl rfl ?_
  refine j_iload_n 1 C dX5_change_2 rfl rfl ?_
  refine j_iload_n 2 C dX5_change_3 rfl rfl ?_
  refine j_iload_n 3 C dX5_change_4 rfl rfl ?_
  refine j_iload 4 C dX5_change_5 rfl ?_
  refine j_callRi (v := 2) (j_runV (ci := 0) (As := [.int (nI k), .int 5, .int 0, .int w]) (rest := [.ref m0]) [0, 1, 2] C (c_X5_whyRange_w5 l g m0 th N tb md rw0 sz cs va lk rn kp tr k n f w (by omega) (by omega) (by omega)) gX5_change_X5_whyRange rfl rfl rfl hd_X5_whyRange ⟨Nat.le_of_ble_eq_true rfl, Nat.le_of_ble_eq_true rfl⟩ rfl rfl rfl rfl dX5_change_7 rfl (Nat.le_of_ble_eq_true rfl) ⟨Nat.le_of_ble_eq_true rfl, Nat.le_of_ble_eq_true rfl⟩) ?_
  refine j_put (Cn := RX5) (T := TX5) (N := 11) (ws' := [(m0, .inr (4, [.int 2, .int (nI N), .ref tb, .ref md, .ref rw0, .int sz, .ref cs, .ref va, .int lk, .ref rn, .ref kp])), (tb, jaR g 10 (fun i => some (tr i))), (tr k, jaI g 253 (jrw n f))]) tyX5 0 0 C dX5_change_10 hin_X5_change_X5 tyX5_ok nmX5 rfl rfl (by decide) (List.mem_of_getElem? (i := 1) rfl) rfl (tyX5_ok 0 (by decide)) rfl rfl (Nat.le_of_ble_eq_true rfl) rfl ?_
  refine j_aload_n 0 C dX5_change_13 rfl rfl ?_
  refine j_get (Cn := RX5) (T := TX5) (N := 11) 0 0 C dX5_change_14 hin_X5_change_X5 rfl rfl (by decide) (List.mem_of_getElem? (i := 1) rfl) rfl ?_
  refine j_if_eq (tgt := 22) C dX5_change_17 (by decide) (fun c_1 => ?_) (fun c_1 => ?_)
  · skip
    exact absurd c_1 (by decide)
  · skip
    refine j_iconst (v := 0) C dX5_change_20 rfl ?_
    exact j_iretW (v := 0) C hr dX5_change_21 () rfl rfl
set_option maxHeartbeats 4000000 in
set_option maxRecDepth 100000 in
theorem c_X5_reason_0 (l : Launch) (g : jG) (m0 : Nat) (th : Int32) (N tb md rw0 : Nat) (sz : Int32) (cs va : Nat) (lk : Int32) (rn kp : Nat) (tr : Nat → Nat) (k n : Nat) (f : Nat → Int32) (j a b : Nat) (hk : k < N) (hN : N ≤ 10) (hj : j + 1 < n) (hn : n ≤ 8) (ha : f (j * 28 + 3) = nI a) (ha6 : a ≤ 6) (hb : f ((j + 1) * 28 + 3) = nI b) (hb6 : b ≤ 6) : jWi l yX5_reason wsX5_reason ({ frames := 7, cells := 0, slots := 0, locals := 158 }) g [.ref m0, .int (nI k), .int 0, .int (nI j), .int 0] [(m0, .inr (4, [.int th, .int (nI N), .ref tb, .ref md, .ref rw0, .int sz, .ref cs, .ref va, .int lk, .ref rn, .ref kp])), (tb, jaR g 10 (fun i => some (tr i))), (tr k, jaI g 253 (jrw n f))] [(m0, .inr (4, [.int 0, .int (nI N), .ref tb, .ref md, .ref rw0, .int sz, .ref cs, .ref va, .int lk, .ref rn, .ref kp])), (tb, jaR g 10 (fun i => some (tr i))), (tr k, jaI g 253 (jrw n f))] (jRJ f j a b) := by
  refine j_enterW (Qc := fun sz_ => va_Qi (fun r (_ : Unit) => r = jRJ f j a b) (fun _ t => va_P g.1 vwCl [(m0, .inr (4, [.int 0, .int (nI N), .ref tb, .ref md, .ref rw0, .int sz, .ref cs, .ref va, .int lk, .ref rn, .ref kp])), (tb, jaR g 10 (fun i => some (tr i))), (tr k, jaI g 253 (jrw n f))] t.heap) (va_A [(m0, .inr (4, [.int th, .int (nI N), .ref tb, .ref md, .ref rw0, .int sz, .ref cs, .ref va, .int lk, .ref rn, .ref kp])), (tb, jaR g 10 (fun i => some (tr i))), (tr k, jaI g 253 (jrw n f))] sz_)) (cc := cX5_reason) (maxL := 5) (ret := (some .int)) (own := RX5) (L := [(0, .ref m0), (1, .int (nI k)), (2, .int 0), (3, .int (nI j)), (4, .int 0)]) (by decide) rfl rfl (Nat.le_of_ble_eq_true rfl) rfl (fun p e s m args below meth c C hr => ?_)
  refine j_aload_n 0 C dX5_reason_0 rfl rfl ?_
  refine j_aload_n 0 C dX5_reason_1 rfl rfl ?_
  refine j_iload_n 1 C dX5_reason_2 rfl rfl ?_
  refine j_iload_n 2 C dX5_reason_3 rfl rfl ?_
  refine j_iload_n 3 C dX5_reason_4 rfl rfl ?_
  refine j_iload 4 C dX5_reason_5 rfl ?_
  refine j_callRi (v := 0) (j_runV (ci := 0) (As := [.int (nI k), .int 0, .int (nI j), .int 0]) (rest := [.ref m0]) [0, 1, 2] C (c_X5_whyRange_0 l g m0 th N tb md rw0 sz cs va lk rn kp tr k n f j a b (by omega) (by omega) (by omega) (by omega) ha (by omega) hb (by omega)) gX5_reason_X5_whyRange rfl rfl rfl hd_X5_whyRange ⟨Nat.le_of_ble_eq_true rfl, Nat.le_of_ble_eq_true rfl⟩ rfl rfl rfl rfl dX5_reason_7 rfl (Nat.le_of_ble_eq_true rfl) ⟨Nat.le_of_ble_eq_true rfl, Nat.le_of_ble_eq_true rfl⟩) ?_
  refine j_put (Cn := RX5) (T := TX5) (N := 11) (ws' := [(m0, .inr (4, [.int 0, .int (nI N), .ref tb, .ref md, .ref rw0, .int sz, .ref cs, .ref va, .int lk, .ref rn, .ref kp])), (tb, jaR g 10 (fun i => some (tr i))), (tr k, jaI g 253 (jrw n f))]) tyX5 0 0 C dX5_reason_10 hin_X5_reason_X5 tyX5_ok nmX5 rfl rfl (by decide) (List.mem_of_getElem? (i := 1) rfl) rfl (tyX5_ok 0 (by decide)) rfl rfl (Nat.le_of_ble_eq_true rfl) rfl ?_
  refine j_aload_n 0 C dX5_reason_13 rfl rfl ?_
  refine j_get (Cn := RX5) (T := TX5) (N := 11) 0 0 C dX5_reason_14 hin_X5_reason_X5 rfl rfl (by decide) (List.mem_of_getElem? (i := 1) rfl) rfl ?_
  refine j_if_ne (tgt := 36) C dX5_reason_17 (by decide) (fun c_1 => ?_) (fun c_1 => ?_)
  · skip
    exact absurd c_1 (by decide)
  · skip
    refine j_aload_n 0 C dX5_reason_20 rfl rfl ?_
    refine j_get (Cn := RX5) (T := TX5) (N := 11) 0 2 C dX5_reason_21 hin_X5_reason_X5 rfl rfl (by decide) (List.mem_of_getElem? (i := 2) rfl) rfl ?_
    refine j_iload_n 1 C dX5_reason_24 rfl rfl ?_
    refine j_aldR (x := k) 1 C dX5_reason_25 rfl rfl (by omega) (by decide) ?_
    refine j_eq (pc' := 26) (L' := [(0, .ref m0), (1, .int (nI k)), (2, .int 0), (3, .int (nI j)), (4, .int 0)]) (st' := [.ref (tr k)]) (ws' := [(m0, .inr (4, [.int 0, .int (nI N), .ref tb, .ref md, .ref rw0, .int sz, .ref cs, .ref va, .int lk, .ref rn, .ref kp])), (tb, jaR g 10 (fun i => some (tr i))), (tr k, jaI g 253 (jrw n f))]) ?_ rfl rfl rfl rfl
    refine j_iload_n 2 C dX5_reason_26 rfl rfl ?_
    refine j_iload_n 3 C dX5_reason_27 rfl rfl ?_
    refine j_iload 4 C dX5_reason_28 rfl ?_
    refine j_callRi (v := jRJ f j a b) (j_runS (As := [.ref (tr k), .int 0, .int (nI j), .int 0]) (rest := []) [2] C (c_X5_why_0 l g (tr k) n f j a b 0 (by omega) ha (by omega) hb (by omega)) gX5_reason_X5_why rfl rfl rfl hd_X5_why ⟨Nat.le_of_ble_eq_true rfl, Nat.le_of_ble_eq_true rfl⟩ rfl rfl dX5_reason_30 rfl (Nat.le_of_ble_eq_true rfl) ⟨Nat.le_of_ble_eq_true rfl, Nat.le_of_ble_eq_true rfl⟩) ?_
    refine j_goto (tgt := 37) C dX5_reason_33 (by decide) ?_
    exact j_iretW (v := jRJ f j a b) C hr dX5_reason_37 () rfl rfl
set_option maxHeartbeats 4000000 in
set_option maxRecDepth 100000 in
theorem c_X5_change_r0 (l : Launch) (g : jG) (m0 : Nat) (th : Int32) (N tb md rw0 : Nat) (sz : Int32) (cs va : Nat) (lk : Int32) (rn kp : Nat) (tr : Nat → Nat) (k n : Nat) (f : Nat → Int32) (j a b : Nat) (hk : k < N) (hN : N ≤ 10) (hj : j + 1 < n) (hn : n ≤ 8) (ha : f (j * 28 + 3) = nI a) (ha6 : a ≤ 6) (hb : f ((j + 1) * 28 + 3) = nI b) (hb6 : b ≤ 6) (hz : ¬ jRJ f j a b = 0) : jWi l yX5_change wsX5_change ({ frames := 7, cells := 0, slots := 0, locals := 158 }) g [.ref m0, .int (nI k), .int 0, .int (nI j), .int 0] [(m0, .inr (4, [.int th, .int (nI N), .ref tb, .ref md, .ref rw0, .int sz, .ref cs, .ref va, .int lk, .ref rn, .ref kp])), (tb, jaR g 10 (fun i => some (tr i))), (tr k, jaI g 253 (jrw n f))] [(m0, .inr (4, [.int 3, .int (nI N), .ref tb, .ref md, .ref rw0, .int sz, .ref cs, .ref va, .int lk, .ref rn, .ref kp])), (tb, jaR g 10 (fun i => some (tr i))), (tr k, jaI g 253 (jrw n f))] 0 := by
  refine j_enterW (Qc := fun sz_ => va_Qi (fun r (_ : Unit) => r = 0) (fun _ t => va_P g.1 vwCl [(m0, .inr (4, [.int 3, .int (nI N), .ref tb, .ref md, .ref rw0, .int sz, .ref cs, .ref va, .int lk, .ref rn, .ref kp])), (tb, jaR g 10 (fun i => some (tr i))), (tr k, jaI g 253 (jrw n f))] t.heap) (va_A [(m0, .inr (4, [.int th, .int (nI N), .ref tb, .ref md, .ref rw0, .int sz, .ref cs, .ref va, .int lk, .ref rn, .ref kp])), (tb, jaR g 10 (fun i => some (tr i))), (tr k, jaI g 253 (jrw n f))] sz_)) (cc := cX5_change) (maxL := 5) (ret := (some .int)) (own := RX5) (L := [(0, .ref m0), (1, .int (nI k)), (2, .int 0), (3, .int (nI j)), (4, .int 0)]) (by decide) rfl rfl (Nat.le_of_ble_eq_true rfl) rfl (fun p e s m args below meth c C hr => ?_)
  refine j_aload_n 0 C dX5_change_0 rfl rfl ?_
  refine j_aload_n 0 C dX5_change_1 rfl rfl ?_
  refine j_iload_n 1 C dX5_change_2 rfl rfl ?_
  refine j_iload_n 2 C dX5_change_3 rfl rfl ?_
  refine j_iload_n 3 C dX5_change_4 rfl rfl ?_
  refine j_iload 4 C dX5_change_5 rfl ?_
  refine j_callRi (v := 0) (j_runV (ci := 0) (As := [.int (nI k), .int 0, .int (nI j), .int 0]) (rest := [.ref m0]) [0, 1, 2] C (c_X5_whyRange_0 l g m0 th N tb md rw0 sz cs va lk rn kp tr k n f j a b (by omega) (by omega) (by omega) (by omega) ha (by omega) hb (by omega)) gX5_change_X5_whyRange rfl rfl rfl hd_X5_whyRange ⟨Nat.le_of_ble_eq_true rfl, Nat.le_of_ble_eq_true rfl⟩ rfl rfl rfl rfl dX5_change_7 rfl (Nat.le_of_ble_eq_true rfl) ⟨Nat.le_of_ble_eq_true rfl, Nat.le_of_ble_eq_true rfl⟩) ?_
  refine j_put (Cn := RX5) (T := TX5) (N := 11) (ws' := [(m0, .inr (4, [.int 0, .int (nI N), .ref tb, .ref md, .ref rw0, .int sz, .ref cs, .ref va, .int lk, .ref rn, .ref kp])), (tb, jaR g 10 (fun i => some (tr i))), (tr k, jaI g 253 (jrw n f))]) tyX5 0 0 C dX5_change_10 hin_X5_change_X5 tyX5_ok nmX5 rfl rfl (by decide) (List.mem_of_getElem? (i := 1) rfl) rfl (tyX5_ok 0 (by decide)) rfl rfl (Nat.le_of_ble_eq_true rfl) rfl ?_
  refine j_aload_n 0 C dX5_change_13 rfl rfl ?_
  refine j_get (Cn := RX5) (T := TX5) (N := 11) 0 0 C dX5_change_14 hin_X5_change_X5 rfl rfl (by decide) (List.mem_of_getElem? (i := 1) rfl) rfl ?_
  refine j_if_eq (tgt := 22) C dX5_change_17 (by decide) (fun c_1 => ?_) (fun c_1 => ?_)
  · skip
    refine j_aload_n 0 C dX5_change_22 rfl rfl ?_
    refine j_get (Cn := RX5) (T := TX5) (N := 11) 0 2 C dX5_change_23 hin_X5_change_X5 rfl rfl (by decide) (List.mem_of_getElem? (i := 2) rfl) rfl ?_
    refine j_iload_n 1 C dX5_change_26 rfl rfl ?_
    refine j_aldR (x := k) 1 C dX5_change_27 rfl rfl (by omega) (by decide) ?_
    refine j_eq (pc' := 28) (L' := [(0, .ref m0), (1, .int (nI k)), (2, .int 0), (3, .int (nI j)), (4, .int 0)]) (st' := [.ref (tr k)]) (ws' := [(m0, .inr (4, [.int 0, .int (nI N), .ref tb, .ref md, .ref rw0, .int sz, .ref cs, .ref va, .int lk, .ref rn, .ref kp])), (tb, jaR g 10 (fun i => some (tr i))), (tr k, jaI g 253 (jrw n f))]) ?_ rfl rfl rfl rfl
    refine j_iload_n 2 C dX5_change_28 rfl rfl ?_
    refine j_iload_n 3 C dX5_change_29 rfl rfl ?_
    refine j_iload 4 C dX5_change_30 rfl ?_
    refine j_callRi (v := jRJ f j a b) (j_runS (As := [.ref (tr k), .int 0, .int (nI j), .int 0]) (rest := []) [2] C (c_X5_why_0 l g (tr k) n f j a b 0 (by omega) ha (by omega) hb (by omega)) gX5_change_X5_why rfl rfl rfl hd_X5_why ⟨Nat.le_of_ble_eq_true rfl, Nat.le_of_ble_eq_true rfl⟩ rfl rfl dX5_change_32 rfl (Nat.le_of_ble_eq_true rfl) ⟨Nat.le_of_ble_eq_true rfl, Nat.le_of_ble_eq_true rfl⟩) ?_
    refine j_if_ne (tgt := 47) C dX5_change_35 (by decide) (fun c_2 => ?_) (fun c_2 => ?_)
    · skip
      refine j_aload_n 0 C dX5_change_47 rfl rfl ?_
      refine j_iconst (v := 3) C dX5_change_48 rfl ?_
      refine j_callWi [0] (fun _ => [(m0, .inr (4, [.int 3, .int (nI N), .ref tb, .ref md, .ref rw0, .int sz, .ref cs, .ref va, .int lk, .ref rn, .ref kp])), (tb, jaR g 10 (fun i => some (tr i))), (tr k, jaI g 253 (jrw n f))]) C (j_runV (ci := 0) (As := [.int 3]) (rest := []) [0] C (c_X5_fail l g m0 0 (nI N) tb md rw0 sz cs va lk rn kp 3) gX5_change_X5_fail rfl rfl rfl hd_X5_fail ⟨Nat.le_of_ble_eq_true rfl, Nat.le_of_ble_eq_true rfl⟩ rfl rfl rfl rfl dX5_change_49 rfl (Nat.le_of_ble_eq_true rfl) ⟨Nat.le_of_ble_eq_true rfl, Nat.le_of_ble_eq_true rfl⟩) rfl (fun _ => rfl) (fun _ => rfl) (fun z _ hz => ?_)
      subst hz
      exact j_iretW (v := 0) C hr dX5_change_52 () rfl rfl
    · skip
      (first | exact absurd c_2 (by decide) | exact absurd c_2 (by omega) | simp_all)
  · skip
    exact absurd c_1 (by decide)
set_option maxHeartbeats 4000000 in
set_option maxRecDepth 100000 in
theorem c_X5_change_f0 (l : Launch) (g : jG) (m0 : Nat) (th : Int32) (tb md rw0 : Nat) (sz : Int32) (cs va : Nat) (lk : Int32) (rn kp : Nat) (tr : Nat → Nat) (k n : Nat) (f : Nat → Int32) (j a b : Nat) (hk : k < 10) (hj : j + 1 < n) (hn : n ≤ 8) (ha : f (j * 28 + 3) = nI a) (ha6 : a ≤ 6) (hb : f ((j + 1) * 28 + 3) = nI b) (hb6 : b ≤ 6) (hz : jRJ f j a b = 0) : jWi l yX5_change wsX5_change ({ frames := 7, cells := 0, slots := 0, locals := 158 }) g [.ref m0, .int (nI k), .int 0, .int (nI j), .int 0] [(m0, .inr (4, [.int th, .int 10, .ref tb, .ref md, .ref rw0, .int sz, .ref cs, .ref va, .int lk, .ref rn, .ref kp])), (tb, jaR g 10 (fun i => some (tr i))), (tr k, jaI g 253 (jrw n f))] [(m0, .inr (4, [.int 3, .int 10, .ref tb, .ref md, .ref rw0, .int sz, .ref cs, .ref va, .int lk, .ref rn, .ref kp])), (tb, jaR g 10 (fun i => some (tr i))), (tr k, jaI g 253 (jrw n f))] 0 := by
  refine j_enterW (Qc := fun sz_ => va_Qi (fun r (_ : Unit) => r = 0) (fun _ t => va_P g.1 vwCl [(m0, .inr (4, [.int 3, .int 10, .ref tb, .ref md, .ref rw0, .int sz, .ref cs, .ref va, .int lk, .ref rn, .ref kp])), (tb, jaR g 10 (fun i => some (tr i))), (tr k, jaI g 253 (jrw n f))] t.heap) (va_A [(m0, .inr (4, [.int th, .int 10, .ref tb, .ref md, .ref rw0, .int sz, .ref cs, .ref va, .int lk, .ref rn, .ref kp])), (tb, jaR g 10 (fun i => some (tr i))), (tr k, jaI g 253 (jrw n f))] sz_)) (cc := cX5_change) (maxL := 5) (ret := (some .int)) (own := RX5) (L := [(0, .ref m0), (1, .int (nI k)), (2, .int 0), (3, .int (nI j)), (4, .int 0)]) (by decide) rfl rfl (Nat.le_of_ble_eq_true rfl) rfl (fun p e s m args below meth c C hr => ?_)
  refine j_aload_n 0 C dX5_change_0 rfl rfl ?_
  refine j_aload_n 0 C dX5_change_1 rfl rfl ?_
  refine j_iload_n 1 C dX5_change_2 rfl rfl ?_
  refine j_iload_n 2 C dX5_change_3 rfl rfl ?_
  refine j_iload_n 3 C dX5_change_4 rfl rfl ?_
  refine j_iload 4 C dX5_change_5 rfl ?_
  refine j_callRi (v := 0) (j_runV (ci := 0) (As := [.int (nI k), .int 0, .int (nI j), .int 0]) (rest := [.ref m0]) [0, 1, 2] C (c_X5_whyRange_0 l g m0 th 10 tb md rw0 sz cs va lk rn kp tr k n f j a b (by omega) (by omega) (by omega) (by omega) ha (by omega) hb (by omega)) gX5_change_X5_whyRange rfl rfl rfl hd_X5_whyRange ⟨Nat.le_of_ble_eq_true rfl, Nat.le_of_ble_eq_true rfl⟩ rfl rfl rfl rfl dX5_change_7 rfl (Nat.le_of_ble_eq_true rfl) ⟨Nat.le_of_ble_eq_true rfl, Nat.le_of_ble_eq_true rfl⟩) ?_
  refine j_put (Cn := RX5) (T := TX5) (N := 11) (ws' := [(m0, .inr (4, [.int 0, .int 10, .ref tb, .ref md, .ref rw0, .int sz, .ref cs, .ref va, .int lk, .ref rn, .ref kp])), (tb, jaR g 10 (fun i => some (tr i))), (tr k, jaI g 253 (jrw n f))]) tyX5 0 0 C dX5_change_10 hin_X5_change_X5 tyX5_ok nmX5 rfl rfl (by decide) (List.mem_of_getElem? (i := 1) rfl) rfl (tyX5_ok 0 (by decide)) rfl rfl (Nat.le_of_ble_eq_true rfl) rfl ?_
  refine j_aload_n 0 C dX5_change_13 rfl rfl ?_
  refine j_get (Cn := RX5) (T := TX5) (N := 11) 0 0 C dX5_change_14 hin_X5_change_X5 rfl rfl (by decide) (List.mem_of_getElem? (i := 1) rfl) rfl ?_
  refine j_if_eq (tgt := 22) C dX5_change_17 (by decide) (fun c_1 => ?_) (fun c_1 => ?_)
  · skip
    refine j_aload_n 0 C dX5_change_22 rfl rfl ?_
    refine j_get (Cn := RX5) (T := TX5) (N := 11) 0 2 C dX5_change_23 hin_X5_change_X5 rfl rfl (by decide) (List.mem_of_getElem? (i := 2) rfl) rfl ?_
    refine j_iload_n 1 C dX5_change_26 rfl rfl ?_
    refine j_aldR (x := k) 1 C dX5_change_27 rfl rfl (by omega) (by decide) ?_
    refine j_eq (pc' := 28) (L' := [(0, .ref m0), (1, .int (nI k)), (2, .int 0), (3, .int (nI j)), (4, .int 0)]) (st' := [.ref (tr k)]) (ws' := [(m0, .inr (4, [.int 0, .int 10, .ref tb, .ref md, .ref rw0, .int sz, .ref cs, .ref va, .int lk, .ref rn, .ref kp])), (tb, jaR g 10 (fun i => some (tr i))), (tr k, jaI g 253 (jrw n f))]) ?_ rfl rfl rfl rfl
    refine j_iload_n 2 C dX5_change_28 rfl rfl ?_
    refine j_iload_n 3 C dX5_change_29 rfl rfl ?_
    refine j_iload 4 C dX5_change_30 rfl ?_
    refine j_callRi (v := jRJ f j a b) (j_runS (As := [.ref (tr k), .int 0, .int (nI j), .int 0]) (rest := []) [2] C (c_X5_why_0 l g (tr k) n f j a b 0 (by omega) ha (by omega) hb (by omega)) gX5_change_X5_why rfl rfl rfl hd_X5_why ⟨Nat.le_of_ble_eq_true rfl, Nat.le_of_ble_eq_true rfl⟩ rfl rfl dX5_change_32 rfl (Nat.le_of_ble_eq_true rfl) ⟨Nat.le_of_ble_eq_true rfl, Nat.le_of_ble_eq_true rfl⟩) ?_
    refine j_if_ne (tgt := 47) C dX5_change_35 (by decide) (fun c_2 => ?_) (fun c_2 => ?_)
    · skip
      (first | exact absurd c_2 (by decide) | exact absurd c_2 (by omega) | simp_all)
    · skip
      refine j_aload_n 0 C dX5_change_38 rfl rfl ?_
      refine j_get (Cn := RX5) (T := TX5) (N := 11) 0 1 C dX5_change_39 hin_X5_change_X5 rfl rfl (by decide) (List.mem_of_getElem? (i := 3) rfl) rfl ?_
      refine j_bipush (v := 10) C dX5_change_42 rfl ?_
      refine j_icmp_ne (tgt := 53) C dX5_change_44 (by decide) (fun c_3 => ?_) (fun c_3 => ?_)
      · skip
        exact absurd c_3 (by decide)
      · skip
        refine j_aload_n 0 C dX5_change_47 rfl rfl ?_
        refine j_iconst (v := 3) C dX5_change_48 rfl ?_
        refine j_callWi [0] (fun _ => [(m0, .inr (4, [.int 3, .int 10, .ref tb, .ref md, .ref rw0, .int sz, .ref cs, .ref va, .int lk, .ref rn, .ref kp])), (tb, jaR g 10 (fun i => some (tr i))), (tr k, jaI g 253 (jrw n f))]) C (j_runV (ci := 0) (As := [.int 3]) (rest := []) [0] C (c_X5_fail l g m0 0 10 tb md rw0 sz cs va lk rn kp 3) gX5_change_X5_fail rfl rfl rfl hd_X5_fail ⟨Nat.le_of_ble_eq_true rfl, Nat.le_of_ble_eq_true rfl⟩ rfl rfl rfl rfl dX5_change_49 rfl (Nat.le_of_ble_eq_true rfl) ⟨Nat.le_of_ble_eq_true rfl, Nat.le_of_ble_eq_true rfl⟩) rfl (fun _ => rfl) (fun _ => rfl) (fun z _ hz => ?_)
        subst hz
        exact j_iretW (v := 0) C hr dX5_change_52 () rfl rfl
  · skip
    exact absurd c_1 (by decide)
set_option maxHeartbeats 4000000 in
set_option maxRecDepth 100000 in
theorem c_X5_change_0 (l : Launch) (g : jG) (m0 : Nat) (th : Int32) (N tb md rw0 : Nat) (sz : Int32) (cs va : Nat) (lk : Int32) (rn kp : Nat) (tr : Nat → Nat) (k n : Nat) (f : Nat → Int32) (n0 : Nat) (f0 : Nat → Int32) (n1 : Nat) (f1 : Nat → Int32) (j a b : Nat) (hk : k < N) (hN : N < 10) (hj : j + 1 < n) (hn : n ≤ 8) (ha : f (j * 28 + 3) = nI a) (ha6 : a ≤ 6) (hb : f ((j + 1) * 28 + 3) = nI b) (hb6 : b ≤ 6) (hz : jRJ f j a b = 0) (hab : a + b ≤ 6) : jWi l yX5_change wsX5_change ({ frames := 7, cells := 0, slots := 0, locals := 158 }) g [.ref m0, .int (nI k), .int 0, .int (nI j), .int 0] [(m0, .inr (4, [.int th, .int (nI N), .ref tb, .ref md, .ref rw0, .int sz, .ref cs, .ref va, .int lk, .ref rn, .ref kp])), (tb, jaR g 10 (fun i => some (tr i))), (tr k, jaI g 253 (jrw n f)), (md, jaI g 253 (jrw n0 f0)), (tr N, jaI g 253 (jrw n1 f1))] [(m0, .inr (4, [.int 0, .int (nI (N + 1)), .ref tb, .ref md, .ref rw0, .int sz, .ref cs, .ref va, .int lk, .ref rn, .ref kp])), (tb, jaR g 10 (fun i => some (tr i))), (tr k, jaI g 253 (jrw n f)), (md, jaI g 253 (jrw (n - 1) (jRm (upd (va_cpy f f ((j + 1) * 28 + 4) (j * 28 + 4 + a * 4) (b * 4)) (j * 28 + 3) (nI (a + b))) ((j + 1) * 28) ((n - 1) * 28)))), (tr N, jaI g 253 (jrw (n - 1) (jRm (upd (va_cpy f f ((j + 1) * 28 + 4) (j * 28 + 4 + a * 4) (b * 4)) (j * 28 + 3) (nI (a + b))) ((j + 1) * 28) ((n - 1) * 28))))] (nI N) := by
  refine j_enterW (Qc := fun sz_ => va_Qi (fun r (_ : Unit) => r = nI N) (fun _ t => va_P g.1 vwCl [(m0, .inr (4, [.int 0, .int (nI (N + 1)), .ref tb, .ref md, .ref rw0, .int sz, .ref cs, .ref va, .int lk, .ref rn, .ref kp])), (tb, jaR g 10 (fun i => some (tr i))), (tr k, jaI g 253 (jrw n f)), (md, jaI g 253 (jrw (n - 1) (jRm (upd (va_cpy f f ((j + 1) * 28 + 4) (j * 28 + 4 + a * 4) (b * 4)) (j * 28 + 3) (nI (a + b))) ((j + 1) * 28) ((n - 1) * 28)))), (tr N, jaI g 253 (jrw (n - 1) (jRm (upd (va_cpy f f ((j + 1) * 28 + 4) (j * 28 + 4 + a * 4) (b * 4)) (j * 28 + 3) (nI (a + b))) ((j + 1) * 28) ((n - 1) * 28))))] t.heap) (va_A [(m0, .inr (4, [.int th, .int (nI N), .ref tb, .ref md, .ref rw0, .int sz, .ref cs, .ref va, .int lk, .ref rn, .ref kp])), (tb, jaR g 10 (fun i => some (tr i))), (tr k, jaI g 253 (jrw n f)), (md, jaI g 253 (jrw n0 f0)), (tr N, jaI g 253 (jrw n1 f1))] sz_)) (cc := cX5_change) (maxL := 5) (ret := (some .int)) (own := RX5) (L := [(0, .ref m0), (1, .int (nI k)), (2, .int 0), (3, .int (nI j)), (4, .int 0)]) (by decide) rfl rfl (Nat.le_of_ble_eq_true rfl) rfl (fun p e s m args below meth c C hr => ?_)
  refine j_aload_n 0 C dX5_change_0 rfl rfl ?_
  refine j_aload_n 0 C dX5_change_1 rfl rfl ?_
  refine j_iload_n 1 C dX5_change_2 rfl rfl ?_
  refine j_iload_n 2 C dX5_change_3 rfl rfl ?_
  refine j_iload_n 3 C dX5_change_4 rfl rfl ?_
  refine j_iload 4 C dX5_change_5 rfl ?_
  refine j_callRi (v := 0) (j_runV (ci := 0) (As := [.int (nI k), .int 0, .int (nI j), .int 0]) (rest := [.ref m0]) [0, 1, 2] C (c_X5_whyRange_0 l g m0 th N tb md rw0 sz cs va lk rn kp tr k n f j a b (by omega) (by omega) (by omega) (by omega) ha (by omega) hb (by omega)) gX5_change_X5_whyRange rfl rfl rfl hd_X5_whyRange ⟨Nat.le_of_ble_eq_true rfl, Nat.le_of_ble_eq_true rfl⟩ rfl rfl rfl rfl dX5_change_7 rfl (Nat.le_of_ble_eq_true rfl) ⟨Nat.le_of_ble_eq_true rfl, Nat.le_of_ble_eq_true rfl⟩) ?_
  refine j_put (Cn := RX5) (T := TX5) (N := 11) (ws' := [(m0, .inr (4, [.int 0, .int (nI N), .ref tb, .ref md, .ref rw0, .int sz, .ref cs, .ref va, .int lk, .ref rn, .ref kp])), (tb, jaR g 10 (fun i => some (tr i))), (tr k, jaI g 253 (jrw n f)), (md, jaI g 253 (jrw n0 f0)), (tr N, jaI g 253 (jrw n1 f1))]) tyX5 0 0 C dX5_change_10 hin_X5_change_X5 tyX5_ok nmX5 rfl rfl (by decide) (List.mem_of_getElem? (i := 1) rfl) rfl (tyX5_ok 0 (by decide)) rfl rfl (Nat.le_of_ble_eq_true rfl) rfl ?_
  refine j_aload_n 0 C dX5_change_13 rfl rfl ?_
  refine j_get (Cn := RX5) (T := TX5) (N := 11) 0 0 C dX5_change_14 hin_X5_change_X5 rfl rfl (by decide) (List.mem_of_getElem? (i := 1) rfl) rfl ?_
  refine j_if_eq (tgt := 22) C dX5_change_17 (by decide) (fun c_1 => ?_) (fun c_1 => ?_)
  · skip
    refine j_aload_n 0 C dX5_change_22 rfl rfl ?_
    refine j_get (Cn := RX5) (T := TX5) (N := 11) 0 2 C dX5_change_23 hin_X5_change_X5 rfl rfl (by decide) (List.mem_of_getElem? (i := 2) rfl) rfl ?_
    refine j_iload_n 1 C dX5_change_26 rfl rfl ?_
    refine j_aldR (x := k) 1 C dX5_change_27 rfl rfl (by omega) (by decide) ?_
    refine j_eq (pc' := 28) (L' := [(0, .ref m0), (1, .int (nI k)), (2, .int 0), (3, .int (nI j)), (4, .int 0)]) (st' := [.ref (tr k)]) (ws' := [(m0, .inr (4, [.int 0, .int (nI N), .ref tb, .ref md, .ref rw0, .int sz, .ref cs, .ref va, .int lk, .ref rn, .ref kp])), (tb, jaR g 10 (fun i => some (tr i))), (tr k, jaI g 253 (jrw n f)), (md, jaI g 253 (jrw n0 f0)), (tr N, jaI g 253 (jrw n1 f1))]) ?_ rfl rfl rfl rfl
    refine j_iload_n 2 C dX5_change_28 rfl rfl ?_
    refine j_iload_n 3 C dX5_change_29 rfl rfl ?_
    refine j_iload 4 C dX5_change_30 rfl ?_
    refine j_callRi (v := jRJ f j a b) (j_runS (As := [.ref (tr k), .int 0, .int (nI j), .int 0]) (rest := []) [2] C (c_X5_why_0 l g (tr k) n f j a b 0 (by omega) ha (by omega) hb (by omega)) gX5_change_X5_why rfl rfl rfl hd_X5_why ⟨Nat.le_of_ble_eq_true rfl, Nat.le_of_ble_eq_true rfl⟩ rfl rfl dX5_change_32 rfl (Nat.le_of_ble_eq_true rfl) ⟨Nat.le_of_ble_eq_true rfl, Nat.le_of_ble_eq_true rfl⟩) ?_
    refine j_if_ne (tgt := 47) C dX5_change_35 (by decide) (fun c_2 => ?_) (fun c_2 => ?_)
    · skip
      (first | exact absurd c_2 (by decide) | exact absurd c_2 (by omega) | simp_all)
    · skip
      refine j_aload_n 0 C dX5_change_38 rfl rfl ?_
      refine j_get (Cn := RX5) (T := TX5) (N := 11) 0 1 C dX5_change_39 hin_X5_change_X5 rfl rfl (by decide) (List.mem_of_getElem? (i := 3) rfl) rfl ?_
      refine j_bipush (v := 10) C dX5_change_42 rfl ?_
      refine j_icmp_ne (tgt := 53) C dX5_change_44 (by decide) (fun c_3 => ?_) (fun c_3 => ?_)
      · skip
        have c_3 : ¬ N = 10 := fun z => c_3 ((nI_eq (a := N) (b := 10) (by omega) (by omega)).mpr z)
        refine j_aload_n 0 C dX5_change_53 rfl rfl ?_
        refine j_get (Cn := RX5) (T := TX5) (N := 11) 0 2 C dX5_change_54 hin_X5_change_X5 rfl rfl (by decide) (List.mem_of_getElem? (i := 2) rfl) rfl ?_
        refine j_iload_n 1 C dX5_change_57 rfl rfl ?_
        refine j_aldR (x := k) 1 C dX5_change_58 rfl rfl (by omega) (by decide) ?_
        refine j_eq (pc' := 59) (L' := [(0, .ref m0), (1, .int (nI k)), (2, .int 0), (3, .int (nI j)), (4, .int 0)]) (st' := [.ref (tr k)]) (ws' := [(m0, .inr (4, [.int 0, .int (nI N), .ref tb, .ref md, .ref rw0, .int sz, .ref cs, .ref va, .int lk, .ref rn, .ref kp])), (tb, jaR g 10 (fun i => some (tr i))), (tr k, jaI g 253 (jrw n f)), (md, jaI g 253 (jrw n0 f0)), (tr N, jaI g 253 (jrw n1 f1))]) ?_ rfl rfl rfl rfl
        refine j_iconst (v := 0) C dX5_change_59 rfl ?_
        refine j_aload_n 0 C dX5_change_60 rfl rfl ?_
        refine j_get (Cn := RX5) (T := TX5) (N := 11) 0 3 C dX5_change_61 hin_X5_change_X5 rfl rfl (by decide) (List.mem_of_getElem? (i := 4) rfl) rfl ?_
        refine j_iconst (v := 0) C dX5_change_64 rfl ?_
        refine j_sipush (v := 253) C dX5_change_65 rfl ?_
        refine j_copyI (sp := 0) (dp := 0) (n := 253) (rest := []) (ws' := [(m0, .inr (4, [.int 0, .int (nI N), .ref tb, .ref md, .ref rw0, .int sz, .ref cs, .ref va, .int lk, .ref rn, .ref kp])), (tb, jaR g 10 (fun i => some (tr i))), (tr k, jaI g 253 (jrw n f)), (md, jaI g 253 (va_cpy (jrw n f) (jrw n0 f0) 0 0 253)), (tr N, jaI g 253 (jrw n1 f1))]) 2 3 C dX5_change_68 (List.mem_of_getElem? (i := 5) rfl) (List.mem_of_getElem? (i := 6) rfl) (List.mem_of_getElem? (i := 7) rfl) (List.mem_of_getElem? (i := 8) rfl) rfl rfl rfl rfl rfl (by omega) (by omega) (by decide) (by decide) (Nat.le_of_ble_eq_true rfl) (Nat.le_of_ble_eq_true rfl) rfl ?_
        refine j_arrI (f' := jrw n f) (ws' := [(m0, .inr (4, [.int 0, .int (nI N), .ref tb, .ref md, .ref rw0, .int sz, .ref cs, .ref va, .int lk, .ref rn, .ref kp])), (tb, jaR g 10 (fun i => some (tr i))), (tr k, jaI g 253 (jrw n f)), (md, jaI g 253 (jrw n f)), (tr N, jaI g 253 (jrw n1 f1))]) 3 rfl (fun i hi => jcp_all hi) rfl ?_
        refine j_aload_n 0 C dX5_change_71 rfl rfl ?_
        refine j_iload_n 2 C dX5_change_72 rfl rfl ?_
        refine j_iload_n 3 C dX5_change_73 rfl rfl ?_
        refine j_iload 4 C dX5_change_74 rfl ?_
        refine j_callWv [0, 3] (fun _ => [(m0, .inr (4, [.int 0, .int (nI N), .ref tb, .ref md, .ref rw0, .int sz, .ref cs, .ref va, .int lk, .ref rn, .ref kp])), (tb, jaR g 10 (fun i => some (tr i))), (tr k, jaI g 253 (jrw n f)), (md, jaI g 253 (jrw (n - 1) (jRm (upd (va_cpy f f ((j + 1) * 28 + 4) (j * 28 + 4 + a * 4) (b * 4)) (j * 28 + 3) (nI (a + b))) ((j + 1) * 28) ((n - 1) * 28)))), (tr N, jaI g 253 (jrw n1 f1))]) C (j_runV (ci := 0) (As := [.int 0, .int (nI j), .int 0]) (rest := []) [0, 3] C (c_X5_make_0 l g m0 0 (nI N) tb md rw0 sz cs va lk rn kp n f j a b 0 (by omega) (by omega) ha hb (by omega)) gX5_change_X5_make rfl rfl rfl hd_X5_make ⟨Nat.le_of_ble_eq_true rfl, Nat.le_of_ble_eq_true rfl⟩ rfl rfl rfl rfl dX5_change_76 rfl (Nat.le_of_ble_eq_true rfl) ⟨Nat.le_of_ble_eq_true rfl, Nat.le_of_ble_eq_true rfl⟩) rfl (fun _ => rfl) (fun _ => rfl) (fun _ _ => ?_)
        refine j_aload_n 0 C dX5_change_79 rfl rfl ?_
        refine j_get (Cn := RX5) (T := TX5) (N := 11) 0 3 C dX5_change_80 hin_X5_change_X5 rfl rfl (by decide) (List.mem_of_getElem? (i := 4) rfl) rfl ?_
        refine j_iconst (v := 0) C dX5_change_83 rfl ?_
        refine j_aload_n 0 C dX5_change_84 rfl rfl ?_
        refine j_get (Cn := RX5) (T := TX5) (N := 11) 0 2 C dX5_change_85 hin_X5_change_X5 rfl rfl (by decide) (List.mem_of_getElem? (i := 2) rfl) rfl ?_
        refine j_aload_n 0 C dX5_change_88 rfl rfl ?_
        refine j_get (Cn := RX5) (T := TX5) (N := 11) 0 1 C dX5_change_89 hin_X5_change_X5 rfl rfl (by decide) (List.mem_of_getElem? (i := 3) rfl) rfl ?_
        refine j_aldR (x := N) 1 C dX5_change_92 rfl rfl (by omega) (by decide) ?_
        refine j_eq (pc' := 93) (L' := [(0, .ref m0), (1, .int (nI k)), (2, .int 0), (3, .int (nI j)), (4, .int 0)]) (st' := [.ref (tr N), .int 0, .ref md]) (ws' := [(m0, .inr (4, [.int 0, .int (nI N), .ref tb, .ref md, .ref rw0, .int sz, .ref cs, .ref va, .int lk, .ref rn, .ref kp])), (tb, jaR g 10 (fun i => some (tr i))), (tr k, jaI g 253 (jrw n f)), (md, jaI g 253 (jrw (n - 1) (jRm (upd (va_cpy f f ((j + 1) * 28 + 4) (j * 28 + 4 + a * 4) (b * 4)) (j * 28 + 3) (nI (a + b))) ((j + 1) * 28) ((n - 1) * 28)))), (tr N, jaI g 253 (jrw n1 f1))]) ?_ rfl rfl rfl rfl
        refine j_iconst (v := 0) C dX5_change_93 rfl ?_
        refine j_sipush (v := 253) C dX5_change_94 rfl ?_
        refine j_copyI (sp := 0) (dp := 0) (n := 253) (rest := []) (ws' := [(m0, .inr (4, [.int 0, .int (nI N), .ref tb, .ref md, .ref rw0, .int sz, .ref cs, .ref va, .int lk, .ref rn, .ref kp])), (tb, jaR g 10 (fun i => some (tr i))), (tr k, jaI g 253 (jrw n f)), (md, jaI g 253 (jrw (n - 1) (jRm (upd (va_cpy f f ((j + 1) * 28 + 4) (j * 28 + 4 + a * 4) (b * 4)) (j * 28 + 3) (nI (a + b))) ((j + 1) * 28) ((n - 1) * 28)))), (tr N, jaI g 253 (va_cpy (jrw (n - 1) (jRm (upd (va_cpy f f ((j + 1) * 28 + 4) (j * 28 + 4 + a * 4) (b * 4)) (j * 28 + 3) (nI (a + b))) ((j + 1) * 28) ((n - 1) * 28))) (jrw n1 f1) 0 0 253))]) 3 4 C dX5_change_97 (List.mem_of_getElem? (i := 5) rfl) (List.mem_of_getElem? (i := 6) rfl) (List.mem_of_getElem? (i := 7) rfl) (List.mem_of_getElem? (i := 8) rfl) rfl rfl rfl rfl rfl (by omega) (by omega) (by decide) (by decide) (Nat.le_of_ble_eq_true rfl) (Nat.le_of_ble_eq_true rfl) rfl ?_
        refine j_arrI (f' := (jrw (n - 1) (jRm (upd (va_cpy f f ((j + 1) * 28 + 4) (j * 28 + 4 + a * 4) (b * 4)) (j * 28 + 3) (nI (a + b))) ((j + 1) * 28) ((n - 1) * 28)))) (ws' := [(m0, .inr (4, [.int 0, .int (nI N), .ref tb, .ref md, .ref rw0, .int sz, .ref cs, .ref va, .int lk, .ref rn, .ref kp])), (tb, jaR g 10 (fun i => some (tr i))), (tr k, jaI g 253 (jrw n f)), (md, jaI g 253 (jrw (n - 1) (jRm (upd (va_cpy f f ((j + 1) * 28 + 4) (j * 28 + 4 + a * 4) (b * 4)) (j * 28 + 3) (nI (a + b))) ((j + 1) * 28) ((n - 1) * 28)))), (tr N, jaI g 253 (jrw (n - 1) (jRm (upd (va_cpy f f ((j + 1) * 28 + 4) (j * 28 + 4 + a * 4) (b * 4)) (j * 28 + 3) (nI (a + b))) ((j + 1) * 28) ((n - 1) * 28))))]) 4 rfl (fun i hi => jcp_all hi) rfl ?_
        refine j_aload_n 0 C dX5_change_100 rfl rfl ?_
        refine j_dup C dX5_change_101 rfl ?_
        refine j_get (Cn := RX5) (T := TX5) (N := 11) 0 1 C dX5_change_102 hin_X5_change_X5 rfl rfl (by decide) (List.mem_of_getElem? (i := 3) rfl) rfl ?_
        refine j_iconst (v := 1) C dX5_change_105 rfl ?_
        refine j_iadd (x := nI N) (y := 1) (v := nI (N + 1)) C dX5_change_106 (nI_add N 1) ?_
        refine j_put (Cn := RX5) (T := TX5) (N := 11) (ws' := [(m0, .inr (4, [.int 0, .int (nI (N + 1)), .ref tb, .ref md, .ref rw0, .int sz, .ref cs, .ref va, .int lk, .ref rn, .ref kp])), (tb, jaR g 10 (fun i => some (tr i))), (tr k, jaI g 253 (jrw n f)), (md, jaI g 253 (jrw (n - 1) (jRm (upd (va_cpy f f ((j + 1) * 28 + 4) (j * 28 + 4 + a * 4) (b * 4)) (j * 28 + 3) (nI (a + b))) ((j + 1) * 28) ((n - 1) * 28)))), (tr N, jaI g 253 (jrw (n - 1) (jRm (upd (va_cpy f f ((j + 1) * 28 + 4) (j * 28 + 4 + a * 4) (b * 4)) (j * 28 + 3) (nI (a + b))) ((j + 1) * 28) ((n - 1) * 28))))]) tyX5 0 1 C dX5_change_107 hin_X5_change_X5 tyX5_ok nmX5 rfl rfl (by decide) (List.mem_of_getElem? (i := 3) rfl) rfl (tyX5_ok 1 (by decide)) rfl rfl (Nat.le_of_ble_eq_true rfl) rfl ?_
        refine j_aload_n 0 C dX5_change_110 rfl rfl ?_
        refine j_get (Cn := RX5) (T := TX5) (N := 11) 0 1 C dX5_change_111 hin_X5_change_X5 rfl rfl (by decide) (List.mem_of_getElem? (i := 3) rfl) rfl ?_
        refine j_iconst (v := 1) C dX5_change_114 rfl ?_
        refine j_isub (x := nI (N + 1)) (y := 1) (v := nI ((N + 1) - 1)) C dX5_change_115 (pk_sub (a := N + 1) (b := 1) (by omega)) ?_
        exact j_iretW (v := nI ((N + 1) - 1)) C hr dX5_change_116 () (by rfl) rfl
      · skip
        have c_3 : N = 10 := (nI_eq (a := N) (b := 10) (by omega) (by omega)).mp c_3
        exact absurd c_3 (by omega)
  · skip
    exact absurd c_1 (by decide)
set_option maxHeartbeats 4000000 in
set_option maxRecDepth 100000 in
theorem c_X5_reason_1 (l : Launch) (g : jG) (m0 : Nat) (th : Int32) (N tb md rw0 : Nat) (sz : Int32) (cs va : Nat) (lk : Int32) (rn kp : Nat) (tr : Nat → Nat) (k n : Nat) (f : Nat → Int32) (j i a : Nat) (hk : k < N) (hN : N ≤ 10) (hj : j < n) (hn : n ≤ 8) (ha : f (j * 28 + 3) = nI a) (ha6 : a ≤ 6) (hi1 : 1 ≤ i) (hi : i < a) : jWi l yX5_reason wsX5_reason ({ frames := 7, cells := 0, slots := 0, locals := 158 }) g [.ref m0, .int (nI k), .int 1, .int (nI j), .int (nI i)] [(m0, .inr (4, [.int th, .int (nI N), .ref tb, .ref md, .ref rw0, .int sz, .ref cs, .ref va, .int lk, .ref rn, .ref kp])), (tb, jaR g 10 (fun i => some (tr i))), (tr k, jaI g 253 (jrw n f))] [(m0, .inr (4, [.int 0, .int (nI N), .ref tb, .ref md, .ref rw0, .int sz, .ref cs, .ref va, .int lk, .ref rn, .ref kp])), (tb, jaR g 10 (fun i => some (tr i))), (tr k, jaI g 253 (jrw n f))] (jRD f n j i a) := by
  refine j_enterW (Qc := fun sz_ => va_Qi (fun r (_ : Unit) => r = jRD f n j i a) (fun _ t => va_P g.1 vwCl [(m0, .inr (4, [.int 0, .int (nI N), .ref tb, .ref md, .ref rw0, .int sz, .ref cs, .ref va, .int lk, .ref rn, .ref kp])), (tb, jaR g 10 (fun i => some (tr i))), (tr k, jaI g 253 (jrw n f))] t.heap) (va_A [(m0, .inr (4, [.int th, .int (nI N), .ref tb, .ref md, .ref rw0, .int sz, .ref cs, .ref va, .int lk, .ref rn, .ref kp])), (tb, jaR g 10 (fun i => some (tr i))), (tr k, jaI g 253 (jrw n f))] sz_)) (cc := cX5_reason) (maxL := 5) (ret := (some .int)) (own := RX5) (L := [(0, .ref m0), (1, .int (nI k)), (2, .int 1), (3, .int (nI j)), (4, .int (nI i))]) (by decide) rfl rfl (Nat.le_of_ble_eq_true rfl) rfl (fun p e s m args below meth c C hr => ?_)
  refine j_aload_n 0 C dX5_reason_0 rfl rfl ?_
  refine j_aload_n 0 C dX5_reason_1 rfl rfl ?_
  refine j_iload_n 1 C dX5_reason_2 rfl rfl ?_
  refine j_iload_n 2 C dX5_reason_3 rfl rfl ?_
  refine j_iload_n 3 C dX5_reason_4 rfl rfl ?_
  refine j_iload 4 C dX5_reason_5 rfl ?_
  refine j_callRi (v := 0) (j_runV (ci := 0) (As := [.int (nI k), .int 1, .int (nI j), .int (nI i)]) (rest := [.ref m0]) [0, 1, 2] C (c_X5_whyRange_1 l g m0 th N tb md rw0 sz cs va lk rn kp tr k n f j i a (by omega) (by omega) (by omega) (by omega) ha (by omega) (by omega) (by omega)) gX5_reason_X5_whyRange rfl rfl rfl hd_X5_whyRange ⟨Nat.le_of_ble_eq_true rfl, Nat.le_of_ble_eq_true rfl⟩ rfl rfl rfl rfl dX5_reason_7 rfl (Nat.le_of_ble_eq_true rfl) ⟨Nat.le_of_ble_eq_true rfl, Nat.le_of_ble_eq_true rfl⟩) ?_
  refine j_put (Cn := RX5) (T := TX5) (N := 11) (ws' := [(m0, .inr (4, [.int 0, .int (nI N), .ref tb, .ref md, .ref rw0, .int sz, .ref cs, .ref va, .int lk, .ref rn, .ref kp])), (tb, jaR g 10 (fun i => some (tr i))), (tr k, jaI g 253 (jrw n f))]) tyX5 0 0 C dX5_reason_10 hin_X5_reason_X5 tyX5_ok nmX5 rfl rfl (by decide) (List.mem_of_getElem? (i := 1) rfl) rfl (tyX5_ok 0 (by decide)) rfl rfl (Nat.le_of_ble_eq_true rfl) rfl ?_
  refine j_aload_n 0 C dX5_reason_13 rfl rfl ?_
  refine j_get (Cn := RX5) (T := TX5) (N := 11) 0 0 C dX5_reason_14 hin_X5_reason_X5 rfl rfl (by decide) (List.mem_of_getElem? (i := 1) rfl) rfl ?_
  refine j_if_ne (tgt := 36) C dX5_reason_17 (by decide) (fun c_1 => ?_) (fun c_1 => ?_)
  · skip
    exact absurd c_1 (by decide)
  · skip
    refine j_aload_n 0 C dX5_reason_20 rfl rfl ?_
    refine j_get (Cn := RX5) (T := TX5) (N := 11) 0 2 C dX5_reason_21 hin_X5_reason_X5 rfl rfl (by decide) (List.mem_of_getElem? (i := 2) rfl) rfl ?_
    refine j_iload_n 1 C dX5_reason_24 rfl rfl ?_
    refine j_aldR (x := k) 1 C dX5_reason_25 rfl rfl (by omega) (by decide) ?_
    refine j_eq (pc' := 26) (L' := [(0, .ref m0), (1, .int (nI k)), (2, .int 1), (3, .int (nI j)), (4, .int (nI i))]) (st' := [.ref (tr k)]) (ws' := [(m0, .inr (4, [.int 0, .int (nI N), .ref tb, .ref md, .ref rw0, .int sz, .ref cs, .ref va, .int lk, .ref rn, .ref kp])), (tb, jaR g 10 (fun i => some (tr i))), (tr k, jaI g 253 (jrw n f))]) ?_ rfl rfl rfl rfl
    refine j_iload_n 2 C dX5_reason_26 rfl rfl ?_
    refine j_iload_n 3 C dX5_reason_27 rfl rfl ?_
    refine j_iload 4 C dX5_reason_28 rfl ?_
    refine j_callRi (v := jRD f n j i a) (j_runS (As := [.ref (tr k), .int 1, .int (nI j), .int (nI i)]) (rest := []) [2] C (c_X5_why_1 l g (tr k) n f j i a (by omega) ha (by omega) (by omega) (by omega)) gX5_reason_X5_why rfl rfl rfl hd_X5_why ⟨Nat.le_of_ble_eq_true rfl, Nat.le_of_ble_eq_true rfl⟩ rfl rfl dX5_reason_30 rfl (Nat.le_of_ble_eq_true rfl) ⟨Nat.le_of_ble_eq_true rfl, Nat.le_of_ble_eq_true rfl⟩) ?_
    refine j_goto (tgt := 37) C dX5_reason_33 (by decide) ?_
    exact j_iretW (v := jRD f n j i a) C hr dX5_reason_37 () rfl rfl
set_option maxHeartbeats 4000000 in
set_option maxRecDepth 100000 in
theorem c_X5_change_r1 (l : Launch) (g : jG) (m0 : Nat) (th : Int32) (N tb md rw0 : Nat) (sz : Int32) (cs va : Nat) (lk : Int32) (rn kp : Nat) (tr : Nat → Nat) (k n : Nat) (f : Nat → Int32) (j i a : Nat) (hk : k < N) (hN : N ≤ 10) (hj : j < n) (hn : n ≤ 8) (ha : f (j * 28 + 3) = nI a) (ha6 : a ≤ 6) (hi1 : 1 ≤ i) (hi : i < a) (hz : ¬ jRD f n j i a = 0) : jWi l yX5_change wsX5_change ({ frames := 7, cells := 0, slots := 0, locals := 158 }) g [.ref m0, .int (nI k), .int 1, .int (nI j), .int (nI i)] [(m0, .inr (4, [.int th, .int (nI N), .ref tb, .ref md, .ref rw0, .int sz, .ref cs, .ref va, .int lk, .ref rn, .ref kp])), (tb, jaR g 10 (fun i => some (tr i))), (tr k, jaI g 253 (jrw n f))] [(m0, .inr (4, [.int 3, .int (nI N), .ref tb, .ref md, .ref rw0, .int sz, .ref cs, .ref va, .int lk, .ref rn, .ref kp])), (tb, jaR g 10 (fun i => some (tr i))), (tr k, jaI g 253 (jrw n f))] 0 := by
  refine j_enterW (Qc := fun sz_ => va_Qi (fun r (_ : Unit) => r = 0) (fun _ t => va_P g.1 vwCl [(m0, .inr (4, [.int 3, .int (nI N), .ref tb, .ref md, .ref rw0, .int sz, .ref cs, .ref va, .int lk, .ref rn, .ref kp])), (tb, jaR g 10 (fun i => some (tr i))), (tr k, jaI g 253 (jrw n f))] t.heap) (va_A [(m0, .inr (4, [.int th, .int (nI N), .ref tb, .ref md, .ref rw0, .int sz, .ref cs, .ref va, .int lk, .ref rn, .ref kp])), (tb, jaR g 10 (fun i => some (tr i))), (tr k, jaI g 253 (jrw n f))] sz_)) (cc := cX5_change) (maxL := 5) (ret := (some .int)) (own := RX5) (L := [(0, .ref m0), (1, .int (nI k)), (2, .int 1), (3, .int (nI j)), (4, .int (nI i))]) (by decide) rfl rfl (Nat.le_of_ble_eq_true rfl) rfl (fun p e s m args below meth c C hr => ?_)
  refine j_aload_n 0 C dX5_change_0 rfl rfl ?_
  refine j_aload_n 0 C dX5_change_1 rfl rfl ?_
  refine j_iload_n 1 C dX5_change_2 rfl rfl ?_
  refine j_iload_n 2 C dX5_change_3 rfl rfl ?_
  refine j_iload_n 3 C dX5_change_4 rfl rfl ?_
  refine j_iload 4 C dX5_change_5 rfl ?_
  refine j_callRi (v := 0) (j_runV (ci := 0) (As := [.int (nI k), .int 1, .int (nI j), .int (nI i)]) (rest := [.ref m0]) [0, 1, 2] C (c_X5_whyRange_1 l g m0 th N tb md rw0 sz cs va lk rn kp tr k n f j i a (by omega) (by omega) (by omega) (by omega) ha (by omega) (by omega) (by omega)) gX5_change_X5_whyRange rfl rfl rfl hd_X5_whyRange ⟨Nat.le_of_ble_eq_true rfl, Nat.le_of_ble_eq_true rfl⟩ rfl rfl rfl rfl dX5_change_7 rfl (Nat.le_of_ble_eq_true rfl) ⟨Nat.le_of_ble_eq_true rfl, Nat.le_of_ble_eq_true rfl⟩) ?_
  refine j_put (Cn := RX5) (T := TX5) (N := 11) (ws' := [(m0, .inr (4, [.int 0, .int (nI N), .ref tb, .ref md, .ref rw0, .int sz, .ref cs, .ref va, .int lk, .ref rn, .ref kp])), (tb, jaR g 10 (fun i => some (tr i))), (tr k, jaI g 253 (jrw n f))]) tyX5 0 0 C dX5_change_10 hin_X5_change_X5 tyX5_ok nmX5 rfl rfl (by decide) (List.mem_of_getElem? (i := 1) rfl) rfl (tyX5_ok 0 (by decide)) rfl rfl (Nat.le_of_ble_eq_true rfl) rfl ?_
  refine j_aload_n 0 C dX5_change_13 rfl rfl ?_
  refine j_get (Cn := RX5) (T := TX5) (N := 11) 0 0 C dX5_change_14 hin_X5_change_X5 rfl rfl (by decide) (List.mem_of_getElem? (i := 1) rfl) rfl ?_
  refine j_if_eq (tgt := 22) C dX5_change_17 (by decide) (fun c_1 => ?_) (fun c_1 => ?_)
  · skip
    refine j_aload_n 0 C dX5_change_22 rfl rfl ?_
    refine j_get (Cn := RX5) (T := TX5) (N := 11) 0 2 C dX5_change_23 hin_X5_change_X5 rfl rfl (by decide) (List.mem_of_getElem? (i := 2) rfl) rfl ?_
    refine j_iload_n 1 C dX5_change_26 rfl rfl ?_
    refine j_aldR (x := k) 1 C dX5_change_27 rfl rfl (by omega) (by decide) ?_
    refine j_eq (pc' := 28) (L' := [(0, .ref m0), (1, .int (nI k)), (2, .int 1), (3, .int (nI j)), (4, .int (nI i))]) (st' := [.ref (tr k)]) (ws' := [(m0, .inr (4, [.int 0, .int (nI N), .ref tb, .ref md, .ref rw0, .int sz, .ref cs, .ref va, .int lk, .ref rn, .ref kp])), (tb, jaR g 10 (fun i => some (tr i))), (tr k, jaI g 253 (jrw n f))]) ?_ rfl rfl rfl rfl
    refine j_iload_n 2 C dX5_change_28 rfl rfl ?_
    refine j_iload_n 3 C dX5_change_29 rfl rfl ?_
    refine j_iload 4 C dX5_change_30 rfl ?_
    refine j_callRi (v := jRD f n j i a) (j_runS (As := [.ref (tr k), .int 1, .int (nI j), .int (nI i)]) (rest := []) [2] C (c_X5_why_1 l g (tr k) n f j i a (by omega) ha (by omega) (by omega) (by omega)) gX5_change_X5_why rfl rfl rfl hd_X5_why ⟨Nat.le_of_ble_eq_true rfl, Nat.le_of_ble_eq_true rfl⟩ rfl rfl dX5_change_32 rfl (Nat.le_of_ble_eq_true rfl) ⟨Nat.le_of_ble_eq_true rfl, Nat.le_of_ble_eq_true rfl⟩) ?_
    refine j_if_ne (tgt := 47) C dX5_change_35 (by decide) (fun c_2 => ?_) (fun c_2 => ?_)
    · skip
      refine j_aload_n 0 C dX5_change_47 rfl rfl ?_
      refine j_iconst (v := 3) C dX5_change_48 rfl ?_
      refine j_callWi [0] (fun _ => [(m0, .inr (4, [.int 3, .int (nI N), .ref tb, .ref md, .ref rw0, .int sz, .ref cs, .ref va, .int lk, .ref rn, .ref kp])), (tb, jaR g 10 (fun i => some (tr i))), (tr k, jaI g 253 (jrw n f))]) C (j_runV (ci := 0) (As := [.int 3]) (rest := []) [0] C (c_X5_fail l g m0 0 (nI N) tb md rw0 sz cs va lk rn kp 3) gX5_change_X5_fail rfl rfl rfl hd_X5_fail ⟨Nat.le_of_ble_eq_true rfl, Nat.le_of_ble_eq_true rfl⟩ rfl rfl rfl rfl dX5_change_49 rfl (Nat.le_of_ble_eq_true rfl) ⟨Nat.le_of_ble_eq_true rfl, Nat.le_of_ble_eq_true rfl⟩) rfl (fun _ => rfl) (fun _ => rfl) (fun z _ hz => ?_)
      subst hz
      exact j_iretW (v := 0) C hr dX5_change_52 () rfl rfl
    · skip
      (first | exact absurd c_2 (by decide) | exact absurd c_2 (by omega) | simp_all)
  · skip
    exact absurd c_1 (by decide)
set_option maxHeartbeats 4000000 in
set_option maxRecDepth 100000 in
theorem c_X5_change_f1 (l : Launch) (g : jG) (m0 : Nat) (th : Int32) (tb md rw0 : Nat) (sz : Int32) (cs va : Nat) (lk : Int32) (rn kp : Nat) (tr : Nat → Nat) (k n : Nat) (f : Nat → Int32) (j i a : Nat) (hk : k < 10) (hj : j < n) (hn : n ≤ 8) (ha : f (j * 28 + 3) = nI a) (ha6 : a ≤ 6) (hi1 : 1 ≤ i) (hi : i < a) (hz : jRD f n j i a = 0) : jWi l yX5_change wsX5_change ({ frames := 7, cells := 0, slots := 0, locals := 158 }) g [.ref m0, .int (nI k), .int 1, .int (nI j), .int (nI i)] [(m0, .inr (4, [.int th, .int 10, .ref tb, .ref md, .ref rw0, .int sz, .ref cs, .ref va, .int lk, .ref rn, .ref kp])), (tb, jaR g 10 (fun i => some (tr i))), (tr k, jaI g 253 (jrw n f))] [(m0, .inr (4, [.int 3, .int 10, .ref tb, .ref md, .ref rw0, .int sz, .ref cs, .ref va, .int lk, .ref rn, .ref kp])), (tb, jaR g 10 (fun i => some (tr i))), (tr k, jaI g 253 (jrw n f))] 0 := by
  refine j_enterW (Qc := fun sz_ => va_Qi (fun r (_ : Unit) => r = 0) (fun _ t => va_P g.1 vwCl [(m0, .inr (4, [.int 3, .int 10, .ref tb, .ref md, .ref rw0, .int sz, .ref cs, .ref va, .int lk, .ref rn, .ref kp])), (tb, jaR g 10 (fun i => some (tr i))), (tr k, jaI g 253 (jrw n f))] t.heap) (va_A [(m0, .inr (4, [.int th, .int 10, .ref tb, .ref md, .ref rw0, .int sz, .ref cs, .ref va, .int lk, .ref rn, .ref kp])), (tb, jaR g 10 (fun i => some (tr i))), (tr k, jaI g 253 (jrw n f))] sz_)) (cc := cX5_change) (maxL := 5) (ret := (some .int)) (own := RX5) (L := [(0, .ref m0), (1, .int (nI k)), (2, .int 1), (3, .int (nI j)), (4, .int (nI i))]) (by decide) rfl rfl (Nat.le_of_ble_eq_true rfl) rfl (fun p e s m args below meth c C hr => ?_)
  refine j_aload_n 0 C dX5_change_0 rfl rfl ?_
  refine j_aload_n 0 C dX5_change_1 rfl rfl ?_
  refine j_iload_n 1 C dX5_change_2 rfl rfl ?_
  refine j_iload_n 2 C dX5_change_3 rfl rfl ?_
  refine j_iload_n 3 C dX5_change_4 rfl rfl ?_
  refine j_iload 4 C dX5_change_5 rfl ?_
  refine j_callRi (v := 0) (j_runV (ci := 0) (As := [.int (nI k), .int 1, .int (nI j), .int (nI i)]) (rest := [.ref m0]) [0, 1, 2] C (c_X5_whyRange_1 l g m0 th 10 tb md rw0 sz cs va lk rn kp tr k n f j i a (by omega) (by omega) (by omega) (by omega) ha (by omega) (by omega) (by omega)) gX5_change_X5_whyRange rfl rfl rfl hd_X5_whyRange ⟨Nat.le_of_ble_eq_true rfl, Nat.le_of_ble_eq_true rfl⟩ rfl rfl rfl rfl dX5_change_7 rfl (Nat.le_of_ble_eq_true rfl) ⟨Nat.le_of_ble_eq_true rfl, Nat.le_of_ble_eq_true rfl⟩) ?_
  refine j_put (Cn := RX5) (T := TX5) (N := 11) (ws' := [(m0, .inr (4, [.int 0, .int 10, .ref tb, .ref md, .ref rw0, .int sz, .ref cs, .ref va, .int lk, .ref rn, .ref kp])), (tb, jaR g 10 (fun i => some (tr i))), (tr k, jaI g 253 (jrw n f))]) tyX5 0 0 C dX5_change_10 hin_X5_change_X5 tyX5_ok nmX5 rfl rfl (by decide) (List.mem_of_getElem? (i := 1) rfl) rfl (tyX5_ok 0 (by decide)) rfl rfl (Nat.le_of_ble_eq_true rfl) rfl ?_
  refine j_aload_n 0 C dX5_change_13 rfl rfl ?_
  refine j_get (Cn := RX5) (T := TX5) (N := 11) 0 0 C dX5_change_14 hin_X5_change_X5 rfl rfl (by decide) (List.mem_of_getElem? (i := 1) rfl) rfl ?_
  refine j_if_eq (tgt := 22) C dX5_change_17 (by decide) (fun c_1 => ?_) (fun c_1 => ?_)
  · skip
    refine j_aload_n 0 C dX5_change_22 rfl rfl ?_
    refine j_get (Cn := RX5) (T := TX5) (N := 11) 0 2 C dX5_change_23 hin_X5_change_X5 rfl rfl (by decide) (List.mem_of_getElem? (i := 2) rfl) rfl ?_
    refine j_iload_n 1 C dX5_change_26 rfl rfl ?_
    refine j_aldR (x := k) 1 C dX5_change_27 rfl rfl (by omega) (by decide) ?_
    refine j_eq (pc' := 28) (L' := [(0, .ref m0), (1, .int (nI k)), (2, .int 1), (3, .int (nI j)), (4, .int (nI i))]) (st' := [.ref (tr k)]) (ws' := [(m0, .inr (4, [.int 0, .int 10, .ref tb, .ref md, .ref rw0, .int sz, .ref cs, .ref va, .int lk, .ref rn, .ref kp])), (tb, jaR g 10 (fun i => some (tr i))), (tr k, jaI g 253 (jrw n f))]) ?_ rfl rfl rfl rfl
    refine j_iload_n 2 C dX5_change_28 rfl rfl ?_
    refine j_iload_n 3 C dX5_change_29 rfl rfl ?_
    refine j_iload 4 C dX5_change_30 rfl ?_
    refine j_callRi (v := jRD f n j i a) (j_runS (As := [.ref (tr k), .int 1, .int (nI j), .int (nI i)]) (rest := []) [2] C (c_X5_why_1 l g (tr k) n f j i a (by omega) ha (by omega) (by omega) (by omega)) gX5_change_X5_why rfl rfl rfl hd_X5_why ⟨Nat.le_of_ble_eq_true rfl, Nat.le_of_ble_eq_true rfl⟩ rfl rfl dX5_change_32 rfl (Nat.le_of_ble_eq_true rfl) ⟨Nat.le_of_ble_eq_true rfl, Nat.le_of_ble_eq_true rfl⟩) ?_
    refine j_if_ne (tgt := 47) C dX5_change_35 (by decide) (fun c_2 => ?_) (fun c_2 => ?_)
    · skip
      (first | exact absurd c_2 (by decide) | exact absurd c_2 (by omega) | simp_all)
    · skip
      refine j_aload_n 0 C dX5_change_38 rfl rfl ?_
      refine j_get (Cn := RX5) (T := TX5) (N := 11) 0 1 C dX5_change_39 hin_X5_change_X5 rfl rfl (by decide) (List.mem_of_getElem? (i := 3) rfl) rfl ?_
      refine j_bipush (v := 10) C dX5_change_42 rfl ?_
      refine j_icmp_ne (tgt := 53) C dX5_change_44 (by decide) (fun c_3 => ?_) (fun c_3 => ?_)
      · skip
        exact absurd c_3 (by decide)
      · skip
        refine j_aload_n 0 C dX5_change_47 rfl rfl ?_
        refine j_iconst (v := 3) C dX5_change_48 rfl ?_
        refine j_callWi [0] (fun _ => [(m0, .inr (4, [.int 3, .int 10, .ref tb, .ref md, .ref rw0, .int sz, .ref cs, .ref va, .int lk, .ref rn, .ref kp])), (tb, jaR g 10 (fun i => some (tr i))), (tr k, jaI g 253 (jrw n f))]) C (j_runV (ci := 0) (As := [.int 3]) (rest := []) [0] C (c_X5_fail l g m0 0 10 tb md rw0 sz cs va lk rn kp 3) gX5_change_X5_fail rfl rfl rfl hd_X5_fail ⟨Nat.le_of_ble_eq_true rfl, Nat.le_of_ble_eq_true rfl⟩ rfl rfl rfl rfl dX5_change_49 rfl (Nat.le_of_ble_eq_true rfl) ⟨Nat.le_of_ble_eq_true rfl, Nat.le_of_ble_eq_true rfl⟩) rfl (fun _ => rfl) (fun _ => rfl) (fun z _ hz => ?_)
        subst hz
        exact j_iretW (v := 0) C hr dX5_change_52 () rfl rfl
  · skip
    exact absurd c_1 (by decide)
set_option maxHeartbeats 4000000 in
set_option maxRecDepth 100000 in
theorem c_X5_change_1 (l : Launch) (g : jG) (m0 : Nat) (th : Int32) (N tb md rw0 : Nat) (sz : Int32) (cs va : Nat) (lk : Int32) (rn kp : Nat) (tr : Nat → Nat) (k n : Nat) (f : Nat → Int32) (n0 : Nat) (f0 : Nat → Int32) (n1 : Nat) (f1 : Nat → Int32) (j i a : Nat) (hk : k < N) (hN : N < 10) (hj : j < n) (hn : n ≤ 8) (ha : f (j * 28 + 3) = nI a) (ha6 : a ≤ 6) (hi1 : 1 ≤ i) (hi : i < a) (hz : jRD f n j i a = 0) (hn8 : n < 8) : jWi l yX5_change wsX5_change ({ frames := 7, cells := 0, slots := 0, locals := 158 }) g [.ref m0, .int (nI k), .int 1, .int (nI j), .int (nI i)] [(m0, .inr (4, [.int th, .int (nI N), .ref tb, .ref md, .ref rw0, .int sz, .ref cs, .ref va, .int lk, .ref rn, .ref kp])), (tb, jaR g 10 (fun i => some (tr i))), (tr k, jaI g 253 (jrw n f)), (md, jaI g 253 (jrw n0 f0)), (tr N, jaI g 253 (jrw n1 f1))] [(m0, .inr (4, [.int 0, .int (nI (N + 1)), .ref tb, .ref md, .ref rw0, .int sz, .ref cs, .ref va, .int lk, .ref rn, .ref kp])), (tb, jaR g 10 (fun i => some (tr i))), (tr k, jaI g 253 (jrw n f)), (md, jaI g 253 (jrw (n + 1) (upd (va_cpy (upd (jRp f (n * 28) (j * 28)) (j * 28 + 3) (nI i)) (upd (jRp f (n * 28) (j * 28)) (j * 28 + 3) (nI i)) ((j + 1) * 28 + 4 + i * 4) ((j + 1) * 28 + 4) ((a - i) * 4)) ((j + 1) * 28 + 3) (nI (a - i))))), (tr N, jaI g 253 (jrw (n + 1) (upd (va_cpy (upd (jRp f (n * 28) (j * 28)) (j * 28 + 3) (nI i)) (upd (jRp f (n * 28) (j * 28)) (j * 28 + 3) (nI i)) ((j + 1) * 28 + 4 + i * 4) ((j + 1) * 28 + 4) ((a - i) * 4)) ((j + 1) * 28 + 3) (nI (a - i)))))] (nI N) := by
  refine j_enterW (Qc := fun sz_ => va_Qi (fun r (_ : Unit) => r = nI N) (fun _ t => va_P g.1 vwCl [(m0, .inr (4, [.int 0, .int (nI (N + 1)), .ref tb, .ref md, .ref rw0, .int sz, .ref cs, .ref va, .int lk, .ref rn, .ref kp])), (tb, jaR g 10 (fun i => some (tr i))), (tr k, jaI g 253 (jrw n f)), (md, jaI g 253 (jrw (n + 1) (upd (va_cpy (upd (jRp f (n * 28) (j * 28)) (j * 28 + 3) (nI i)) (upd (jRp f (n * 28) (j * 28)) (j * 28 + 3) (nI i)) ((j + 1) * 28 + 4 + i * 4) ((j + 1) * 28 + 4) ((a - i) * 4)) ((j + 1) * 28 + 3) (nI (a - i))))), (tr N, jaI g 253 (jrw (n + 1) (upd (va_cpy (upd (jRp f (n * 28) (j * 28)) (j * 28 + 3) (nI i)) (upd (jRp f (n * 28) (j * 28)) (j * 28 + 3) (nI i)) ((j + 1) * 28 + 4 + i * 4) ((j + 1) * 28 + 4) ((a - i) * 4)) ((j + 1) * 28 + 3) (nI (a - i)))))] t.heap) (va_A [(m0, .inr (4, [.int th, .int (nI N), .ref tb, .ref md, .ref rw0, .int sz, .ref cs, .ref va, .int lk, .ref rn, .ref kp])), (tb, jaR g 10 (fun i => some (tr i))), (tr k, jaI g 253 (jrw n f)), (md, jaI g 253 (jrw n0 f0)), (tr N, jaI g 253 (jrw n1 f1))] sz_)) (cc := cX5_change) (maxL := 5) (ret := (some .int)) (own := RX5) (L := [(0, .ref m0), (1, .int (nI k)), (2, .int 1), (3, .int (nI j)), (4, .int (nI i))]) (by decide) rfl rfl (Nat.le_of_ble_eq_true rfl) rfl (fun p e s m args below meth c C hr => ?_)
  refine j_aload_n 0 C dX5_change_0 rfl rfl ?_
  refine j_aload_n 0 C dX5_change_1 rfl rfl ?_
  refine j_iload_n 1 C dX5_change_2 rfl rfl ?_
  refine j_iload_n 2 C dX5_change_3 rfl rfl ?_
  refine j_iload_n 3 C dX5_change_4 rfl rfl ?_
  refine j_iload 4 C dX5_change_5 rfl ?_
  refine j_callRi (v := 0) (j_runV (ci := 0) (As := [.int (nI k), .int 1, .int (nI j), .int (nI i)]) (rest := [.ref m0]) [0, 1, 2] C (c_X5_whyRange_1 l g m0 th N tb md rw0 sz cs va lk rn kp tr k n f j i a (by omega) (by omega) (by omega) (by omega) ha (by omega) (by omega) (by omega)) gX5_change_X5_whyRange rfl rfl rfl hd_X5_whyRange ⟨Nat.le_of_ble_eq_true rfl, Nat.le_of_ble_eq_true rfl⟩ rfl rfl rfl rfl dX5_change_7 rfl (Nat.le_of_ble_eq_true rfl) ⟨Nat.le_of_ble_eq_true rfl, Nat.le_of_ble_eq_true rfl⟩) ?_
  refine j_put (Cn := RX5) (T := TX5) (N := 11) (ws' := [(m0, .inr (4, [.int 0, .int (nI N), .ref tb, .ref md, .ref rw0, .int sz, .ref cs, .ref va, .int lk, .ref rn, .ref kp])), (tb, jaR g 10 (fun i => some (tr i))), (tr k, jaI g 253 (jrw n f)), (md, jaI g 253 (jrw n0 f0)), (tr N, jaI g 253 (jrw n1 f1))]) tyX5 0 0 C dX5_change_10 hin_X5_change_X5 tyX5_ok nmX5 rfl rfl (by decide) (List.mem_of_getElem? (i := 1) rfl) rfl (tyX5_ok 0 (by decide)) rfl rfl (Nat.le_of_ble_eq_true rfl) rfl ?_
  refine j_aload_n 0 C dX5_change_13 rfl rfl ?_
  refine j_get (Cn := RX5) (T := TX5) (N := 11) 0 0 C dX5_change_14 hin_X5_change_X5 rfl rfl (by decide) (List.mem_of_getElem? (i := 1) rfl) rfl ?_
  refine j_if_eq (tgt := 22) C dX5_change_17 (by decide) (fun c_1 => ?_) (fun c_1 => ?_)
  · skip
    refine j_aload_n 0 C dX5_change_22 rfl rfl ?_
    refine j_get (Cn := RX5) (T := TX5) (N := 11) 0 2 C dX5_change_23 hin_X5_change_X5 rfl rfl (by decide) (List.mem_of_getElem? (i := 2) rfl) rfl ?_
    refine j_iload_n 1 C dX5_change_26 rfl rfl ?_
    refine j_aldR (x := k) 1 C dX5_change_27 rfl rfl (by omega) (by decide) ?_
    refine j_eq (pc' := 28) (L' := [(0, .ref m0), (1, .int (nI k)), (2, .int 1), (3, .int (nI j)), (4, .int (nI i))]) (st' := [.ref (tr k)]) (ws' := [(m0, .inr (4, [.int 0, .int (nI N), .ref tb, .ref md, .ref rw0, .int sz, .ref cs, .ref va, .int lk, .ref rn, .ref kp])), (tb, jaR g 10 (fun i => some (tr i))), (tr k, jaI g 253 (jrw n f)), (md, jaI g 253 (jrw n0 f0)), (tr N, jaI g 253 (jrw n1 f1))]) ?_ rfl rfl rfl rfl
    refine j_iload_n 2 C dX5_change_28 rfl rfl ?_
    refine j_iload_n 3 C dX5_change_29 rfl rfl ?_
    refine j_iload 4 C dX5_change_30 rfl ?_
    refine j_callRi (v := jRD f n j i a) (j_runS (As := [.ref (tr k), .int 1, .int (nI j), .int (nI i)]) (rest := []) [2] C (c_X5_why_1 l g (tr k) n f j i a (by omega) ha (by omega) (by omega) (by omega)) gX5_change_X5_why rfl rfl rfl hd_X5_why ⟨Nat.le_of_ble_eq_true rfl, Nat.le_of_ble_eq_true rfl⟩ rfl rfl dX5_change_32 rfl (Nat.le_of_ble_eq_true rfl) ⟨Nat.le_of_ble_eq_true rfl, Nat.le_of_ble_eq_true rfl⟩) ?_
    refine j_if_ne (tgt := 47) C dX5_change_35 (by decide) (fun c_2 => ?_) (fun c_2 => ?_)
    · skip
      (first | exact absurd c_2 (by decide) | exact absurd c_2 (by omega) | simp_all)
    · skip
      refine j_aload_n 0 C dX5_change_38 rfl rfl ?_
      refine j_get (Cn := RX5) (T := TX5) (N := 11) 0 1 C dX5_change_39 hin_X5_change_X5 rfl rfl (by decide) (List.mem_of_getElem? (i := 3) rfl) rfl ?_
      refine j_bipush (v := 10) C dX5_change_42 rfl ?_
      refine j_icmp_ne (tgt := 53) C dX5_change_44 (by decide) (fun c_3 => ?_) (fun c_3 => ?_)
      · skip
        have c_3 : ¬ N = 10 := fun z => c_3 ((nI_eq (a := N) (b := 10) (by omega) (by omega)).mpr z)
        refine j_aload_n 0 C dX5_change_53 rfl rfl ?_
        refine j_get (Cn := RX5) (T := TX5) (N := 11) 0 2 C dX5_change_54 hin_X5_change_X5 rfl rfl (by decide) (List.mem_of_getElem? (i := 2) rfl) rfl ?_
        refine j_iload_n 1 C dX5_change_57 rfl rfl ?_
        refine j_aldR (x := k) 1 C dX5_change_58 rfl rfl (by omega) (by decide) ?_
        refine j_eq (pc' := 59) (L' := [(0, .ref m0), (1, .int (nI k)), (2, .int 1), (3, .int (nI j)), (4, .int (nI i))]) (st' := [.ref (tr k)]) (ws' := [(m0, .inr (4, [.int 0, .int (nI N), .ref tb, .ref md, .ref rw0, .int sz, .ref cs, .ref va, .int lk, .ref rn, .ref kp])), (tb, jaR g 10 (fun i => some (tr i))), (tr k, jaI g 253 (jrw n f)), (md, jaI g 253 (jrw n0 f0)), (tr N, jaI g 253 (jrw n1 f1))]) ?_ rfl rfl rfl rfl
        refine j_iconst (v := 0) C dX5_change_59 rfl ?_
        refine j_aload_n 0 C dX5_change_60 rfl rfl ?_
        refine j_get (Cn := RX5) (T := TX5) (N := 11) 0 3 C dX5_change_61 hin_X5_change_X5 rfl rfl (by decide) (List.mem_of_getElem? (i := 4) rfl) rfl ?_
        refine j_iconst (v := 0) C dX5_change_64 rfl ?_
        refine j_sipush (v := 253) C dX5_change_65 rfl ?_
        refine j_copyI (sp := 0) (dp := 0) (n := 253) (rest := []) (ws' := [(m0, .inr (4, [.int 0, .int (nI N), .ref tb, .ref md, .ref rw0, .int sz, .ref cs, .ref va, .int lk, .ref rn, .ref kp])), (tb, jaR g 10 (fun i => some (tr i))), (tr k, jaI g 253 (jrw n f)), (md, jaI g 253 (va_cpy (jrw n f) (jrw n0 f0) 0 0 253)), (tr N, jaI g 253 (jrw n1 f1))]) 2 3 C dX5_change_68 (List.mem_of_getElem? (i := 5) rfl) (List.mem_of_getElem? (i := 6) rfl) (List.mem_of_getElem? (i := 7) rfl) (List.mem_of_getElem? (i := 8) rfl) rfl rfl rfl rfl rfl (by omega) (by omega) (by decide) (by decide) (Nat.le_of_ble_eq_true rfl) (Nat.le_of_ble_eq_true rfl) rfl ?_
        refine j_arrI (f' := jrw n f) (ws' := [(m0, .inr (4, [.int 0, .int (nI N), .ref tb, .ref md, .ref rw0, .int sz, .ref cs, .ref va, .int lk, .ref rn, .ref kp])), (tb, jaR g 10 (fun i => some (tr i))), (tr k, jaI g 253 (jrw n f)), (md, jaI g 253 (jrw n f)), (tr N, jaI g 253 (jrw n1 f1))]) 3 rfl (fun i hi => jcp_all hi) rfl ?_
        refine j_aload_n 0 C dX5_change_71 rfl rfl ?_
        refine j_iload_n 2 C dX5_change_72 rfl rfl ?_
        refine j_iload_n 3 C dX5_change_73 rfl rfl ?_
        refine j_iload 4 C dX5_change_74 rfl ?_
        refine j_callWv [0, 3] (fun _ => [(m0, .inr (4, [.int 0, .int (nI N), .ref tb, .ref md, .ref rw0, .int sz, .ref cs, .ref va, .int lk, .ref rn, .ref kp])), (tb, jaR g 10 (fun i => some (tr i))), (tr k, jaI g 253 (jrw n f)), (md, jaI g 253 (jrw (n + 1) (upd (va_cpy (upd (jRp f (n * 28) (j * 28)) (j * 28 + 3) (nI i)) (upd (jRp f (n * 28) (j * 28)) (j * 28 + 3) (nI i)) ((j + 1) * 28 + 4 + i * 4) ((j + 1) * 28 + 4) ((a - i) * 4)) ((j + 1) * 28 + 3) (nI (a - i))))), (tr N, jaI g 253 (jrw n1 f1))]) C (j_runV (ci := 0) (As := [.int 1, .int (nI j), .int (nI i)]) (rest := []) [0, 3] C (c_X5_make_1 l g m0 0 (nI N) tb md rw0 sz cs va lk rn kp n f j i a (by omega) (by omega) ha (by omega) (by omega)) gX5_change_X5_make rfl rfl rfl hd_X5_make ⟨Nat.le_of_ble_eq_true rfl, Nat.le_of_ble_eq_true rfl⟩ rfl rfl rfl rfl dX5_change_76 rfl (Nat.le_of_ble_eq_true rfl) ⟨Nat.le_of_ble_eq_true rfl, Nat.le_of_ble_eq_true rfl⟩) rfl (fun _ => rfl) (fun _ => rfl) (fun _ _ => ?_)
        refine j_aload_n 0 C dX5_change_79 rfl rfl ?_
        refine j_get (Cn := RX5) (T := TX5) (N := 11) 0 3 C dX5_change_80 hin_X5_change_X5 rfl rfl (by decide) (List.mem_of_getElem? (i := 4) rfl) rfl ?_
        refine j_iconst (v := 0) C dX5_change_83 rfl ?_
        refine j_aload_n 0 C dX5_change_84 rfl rfl ?_
        refine j_get (Cn := RX5) (T := TX5) (N := 11) 0 2 C dX5_change_85 hin_X5_change_X5 rfl rfl (by decide) (List.mem_of_getElem? (i := 2) rfl) rfl ?_
        refine j_aload_n 0 C dX5_change_88 rfl rfl ?_
        refine j_get (Cn := RX5) (T := TX5) (N := 11) 0 1 C dX5_change_89 hin_X5_change_X5 rfl rfl (by decide) (List.mem_of_getElem? (i := 3) rfl) rfl ?_
        refine j_aldR (x := N) 1 C dX5_change_92 rfl rfl (by omega) (by decide) ?_
        refine j_eq (pc' := 93) (L' := [(0, .ref m0), (1, .int (nI k)), (2, .int 1), (3, .int (nI j)), (4, .int (nI i))]) (st' := [.ref (tr N), .int 0, .ref md]) (ws' := [(m0, .inr (4, [.int 0, .int (nI N), .ref tb, .ref md, .ref rw0, .int sz, .ref cs, .ref va, .int lk, .ref rn, .ref kp])), (tb, jaR g 10 (fun i => some (tr i))), (tr k, jaI g 253 (jrw n f)), (md, jaI g 253 (jrw (n + 1) (upd (va_cpy (upd (jRp f (n * 28) (j * 28)) (j * 28 + 3) (nI i)) (upd (jRp f (n * 28) (j * 28)) (j * 28 + 3) (nI i)) ((j + 1) * 28 + 4 + i * 4) ((j + 1) * 28 + 4) ((a - i) * 4)) ((j + 1) * 28 + 3) (nI (a - i))))), (tr N, jaI g 253 (jrw n1 f1))]) ?_ rfl rfl rfl rfl
        refine j_iconst (v := 0) C dX5_change_93 rfl ?_
        refine j_sipush (v := 253) C dX5_change_94 rfl ?_
        refine j_copyI (sp := 0) (dp := 0) (n := 253) (rest := []) (ws' := [(m0, .inr (4, [.int 0, .int (nI N), .ref tb, .ref md, .ref rw0, .int sz, .ref cs, .ref va, .int lk, .ref rn, .ref kp])), (tb, jaR g 10 (fun i => some (tr i))), (tr k, jaI g 253 (jrw n f)), (md, jaI g 253 (jrw (n + 1) (upd (va_cpy (upd (jRp f (n * 28) (j * 28)) (j * 28 + 3) (nI i)) (upd (jRp f (n * 28) (j * 28)) (j * 28 + 3) (nI i)) ((j + 1) * 28 + 4 + i * 4) ((j + 1) * 28 + 4) ((a - i) * 4)) ((j + 1) * 28 + 3) (nI (a - i))))), (tr N, jaI g 253 (va_cpy (jrw (n + 1) (upd (va_cpy (upd (jRp f (n * 28) (j * 28)) (j * 28 + 3) (nI i)) (upd (jRp f (n * 28) (j * 28)) (j * 28 + 3) (nI i)) ((j + 1) * 28 + 4 + i * 4) ((j + 1) * 28 + 4) ((a - i) * 4)) ((j + 1) * 28 + 3) (nI (a - i)))) (jrw n1 f1) 0 0 253))]) 3 4 C dX5_change_97 (List.mem_of_getElem? (i := 5) rfl) (List.mem_of_getElem? (i := 6) rfl) (List.mem_of_getElem? (i := 7) rfl) (List.mem_of_getElem? (i := 8) rfl) rfl rfl rfl rfl rfl (by omega) (by omega) (by decide) (by decide) (Nat.le_of_ble_eq_true rfl) (Nat.le_of_ble_eq_true rfl) rfl ?_
        refine j_arrI (f' := (jrw (n + 1) (upd (va_cpy (upd (jRp f (n * 28) (j * 28)) (j * 28 + 3) (nI i)) (upd (jRp f (n * 28) (j * 28)) (j * 28 + 3) (nI i)) ((j + 1) * 28 + 4 + i * 4) ((j + 1) * 28 + 4) ((a - i) * 4)) ((j + 1) * 28 + 3) (nI (a - i))))) (ws' := [(m0, .inr (4, [.int 0, .int (nI N), .ref tb, .ref md, .ref rw0, .int sz, .ref cs, .ref va, .int lk, .ref rn, .ref kp])), (tb, jaR g 10 (fun i => some (tr i))), (tr k, jaI g 253 (jrw n f)), (md, jaI g 253 (jrw (n + 1) (upd (va_cpy (upd (jRp f (n * 28) (j * 28)) (j * 28 + 3) (nI i)) (upd (jRp f (n * 28) (j * 28)) (j * 28 + 3) (nI i)) ((j + 1) * 28 + 4 + i * 4) ((j + 1) * 28 + 4) ((a - i) * 4)) ((j + 1) * 28 + 3) (nI (a - i))))), (tr N, jaI g 253 (jrw (n + 1) (upd (va_cpy (upd (jRp f (n * 28) (j * 28)) (j * 28 + 3) (nI i)) (upd (jRp f (n * 28) (j * 28)) (j * 28 + 3) (nI i)) ((j + 1) * 28 + 4 + i * 4) ((j + 1) * 28 + 4) ((a - i) * 4)) ((j + 1) * 28 + 3) (nI (a - i)))))]) 4 rfl (fun i hi => jcp_all hi) rfl ?_
        refine j_aload_n 0 C dX5_change_100 rfl rfl ?_
        refine j_dup C dX5_change_101 rfl ?_
        refine j_get (Cn := RX5) (T := TX5) (N := 11) 0 1 C dX5_change_102 hin_X5_change_X5 rfl rfl (by decide) (List.mem_of_getElem? (i := 3) rfl) rfl ?_
        refine j_iconst (v := 1) C dX5_change_105 rfl ?_
        refine j_iadd (x := nI N) (y := 1) (v := nI (N + 1)) C dX5_change_106 (nI_add N 1) ?_
        refine j_put (Cn := RX5) (T := TX5) (N := 11) (ws' := [(m0, .inr (4, [.int 0, .int (nI (N + 1)), .ref tb, .ref md, .ref rw0, .int sz, .ref cs, .ref va, .int lk, .ref rn, .ref kp])), (tb, jaR g 10 (fun i => some (tr i))), (tr k, jaI g 253 (jrw n f)), (md, jaI g 253 (jrw (n + 1) (upd (va_cpy (upd (jRp f (n * 28) (j * 28)) (j * 28 + 3) (nI i)) (upd (jRp f (n * 28) (j * 28)) (j * 28 + 3) (nI i)) ((j + 1) * 28 + 4 + i * 4) ((j + 1) * 28 + 4) ((a - i) * 4)) ((j + 1) * 28 + 3) (nI (a - i))))), (tr N, jaI g 253 (jrw (n + 1) (upd (va_cpy (upd (jRp f (n * 28) (j * 28)) (j * 28 + 3) (nI i)) (upd (jRp f (n * 28) (j * 28)) (j * 28 + 3) (nI i)) ((j + 1) * 28 + 4 + i * 4) ((j + 1) * 28 + 4) ((a - i) * 4)) ((j + 1) * 28 + 3) (nI (a - i)))))]) tyX5 0 1 C dX5_change_107 hin_X5_change_X5 tyX5_ok nmX5 rfl rfl (by decide) (List.mem_of_getElem? (i := 3) rfl) rfl (tyX5_ok 1 (by decide)) rfl rfl (Nat.le_of_ble_eq_true rfl) rfl ?_
        refine j_aload_n 0 C dX5_change_110 rfl rfl ?_
        refine j_get (Cn := RX5) (T := TX5) (N := 11) 0 1 C dX5_change_111 hin_X5_change_X5 rfl rfl (by decide) (List.mem_of_getElem? (i := 3) rfl) rfl ?_
        refine j_iconst (v := 1) C dX5_change_114 rfl ?_
        refine j_isub (x := nI (N + 1)) (y := 1) (v := nI ((N + 1) - 1)) C dX5_change_115 (pk_sub (a := N + 1) (b := 1) (by omega)) ?_
        exact j_iretW (v := nI ((N + 1) - 1)) C hr dX5_change_116 () (by rfl) rfl
      · skip
        have c_3 : N = 10 := (nI_eq (a := N) (b := 10) (by omega) (by omega)).mp c_3
        exact absurd c_3 (by omega)
  · skip
    exact absurd c_1 (by decide)
set_option maxHeartbeats 4000000 in
set_option maxRecDepth 100000 in
theorem c_X5_reason_2 (l : Launch) (g : jG) (m0 : Nat) (th : Int32) (N tb md rw0 : Nat) (sz : Int32) (cs va : Nat) (lk : Int32) (rn kp : Nat) (tr : Nat → Nat) (k n : Nat) (f : Nat → Int32) (j w a v u : Nat) (hk : k < N) (hN : N ≤ 10) (hj : j < n) (hn : n ≤ 8) (ha : f (j * 28 + 3) = nI a) (ha6 : a ≤ 6) (hw1 : 1 ≤ w) (hw2 : w ≤ 10) (hv : f (j * 28 + 0) = nI v) (hv5 : v ≤ 5) (hu : f (j * 28 + 1) = nI u) (hu5 : u ≤ 5) : jWi l yX5_reason wsX5_reason ({ frames := 7, cells := 0, slots := 0, locals := 159 }) g [.ref m0, .int (nI k), .int 2, .int (nI j), .int (nI w)] [(m0, .inr (4, [.int th, .int (nI N), .ref tb, .ref md, .ref rw0, .int sz, .ref cs, .ref va, .int lk, .ref rn, .ref kp])), (tb, jaR g 10 (fun i => some (tr i))), (tr k, jaI g 253 (jrw n f))] [(m0, .inr (4, [.int 0, .int (nI N), .ref tb, .ref md, .ref rw0, .int sz, .ref cs, .ref va, .int lk, .ref rn, .ref kp])), (tb, jaR g 10 (fun i => some (tr i))), (tr k, jaI g 253 (jrw n f))] (jRP f n j w a v u) := by
  refine j_enterW (Qc := fun sz_ => va_Qi (fun r (_ : Unit) => r = jRP f n j w a v u) (fun _ t => va_P g.1 vwCl [(m0, .inr (4, [.int 0, .int (nI N), .ref tb, .ref md, .ref rw0, .int sz, .ref cs, .ref va, .int lk, .ref rn, .ref kp])), (tb, jaR g 10 (fun i => some (tr i))), (tr k, jaI g 253 (jrw n f))] t.heap) (va_A [(m0, .inr (4, [.int th, .int (nI N), .ref tb, .ref md, .ref rw0, .int sz, .ref cs, .ref va, .int lk, .ref rn, .ref kp])), (tb, jaR g 10 (fun i => some (tr i))), (tr k, jaI g 253 (jrw n f))] sz_)) (cc := cX5_reason) (maxL := 5) (ret := (some .int)) (own := RX5) (L := [(0, .ref m0), (1, .int (nI k)), (2, .int 2), (3, .int (nI j)), (4, .int (nI w))]) (by decide) rfl rfl (Nat.le_of_ble_eq_true rfl) rfl (fun p e s m args below meth c C hr => ?_)
  refine j_aload_n 0 C dX5_reason_0 rfl rfl ?_
  refine j_aload_n 0 C dX5_reason_1 rfl rfl ?_
  refine j_iload_n 1 C dX5_reason_2 rfl rfl ?_
  refine j_iload_n 2 C dX5_reason_3 rfl rfl ?_
  refine j_iload_n 3 C dX5_reason_4 rfl rfl ?_
  refine j_iload 4 C dX5_reason_5 rfl ?_
  refine j_callRi (v := 0) (j_runV (ci := 0) (As := [.int (nI k), .int 2, .int (nI j), .int (nI w)]) (rest := [.ref m0]) [0, 1, 2] C (c_X5_whyRange_2 l g m0 th N tb md rw0 sz cs va lk rn kp tr k n f j w a v u (by omega) (by omega) (by omega) (by omega) ha (by omega) (by omega) (by omega) hv (by omega) hu (by omega)) gX5_reason_X5_whyRange rfl rfl rfl hd_X5_whyRange ⟨Nat.le_of_ble_eq_true rfl, Nat.le_of_ble_eq_true rfl⟩ rfl rfl rfl rfl dX5_reason_7 rfl (Nat.le_of_ble_eq_true rfl) ⟨Nat.le_of_ble_eq_true rfl, Nat.le_of_ble_eq_true rfl⟩) ?_
  refine j_put (Cn := RX5) (T := TX5) (N := 11) (ws' := [(m0, .inr (4, [.int 0, .int (nI N), .ref tb, .ref md, .ref rw0, .int sz, .ref cs, .ref va, .int lk, .ref rn, .ref kp])), (tb, jaR g 10 (fun i => some (tr i))), (tr k, jaI g 253 (jrw n f))]) tyX5 0 0 C dX5_reason_10 hin_X5_reason_X5 tyX5_ok nmX5 rfl rfl (by decide) (List.mem_of_getElem? (i := 1) rfl) rfl (tyX5_ok 0 (by decide)) rfl rfl (Nat.le_of_ble_eq_true rfl) rfl ?_
  refine j_aload_n 0 C dX5_reason_13 rfl rfl ?_
  refine j_get (Cn := RX5) (T := TX5) (N := 11) 0 0 C dX5_reason_14 hin_X5_reason_X5 rfl rfl (by decide) (List.mem_of_getElem? (i := 1) rfl) rfl ?_
  refine j_if_ne (tgt := 36) C dX5_reason_17 (by decide) (fun c_1 => ?_) (fun c_1 => ?_)
  · skip
    exact absurd c_1 (by decide)
  · skip
    refine j_aload_n 0 C dX5_reason_20 rfl rfl ?_
    refine j_get (Cn := RX5) (T := TX5) (N := 11) 0 2 C dX5_reason_21 hin_X5_reason_X5 rfl rfl (by decide) (List.mem_of_getElem? (i := 2) rfl) rfl ?_
    refine j_iload_n 1 C dX5_reason_24 rfl rfl ?_
    refine j_aldR (x := k) 1 C dX5_reason_25 rfl rfl (by omega) (by decide) ?_
    refine j_eq (pc' := 26) (L' := [(0, .ref m0), (1, .int (nI k)), (2, .int 2), (3, .int (nI j)), (4, .int (nI w))]) (st' := [.ref (tr k)]) (ws' := [(m0, .inr (4, [.int 0, .int (nI N), .ref tb, .ref md, .ref rw0, .int sz, .ref cs, .ref va, .int lk, .ref rn, .ref kp])), (tb, jaR g 10 (fun i => some (tr i))), (tr k, jaI g 253 (jrw n f))]) ?_ rfl rfl rfl rfl
    refine j_iload_n 2 C dX5_reason_26 rfl rfl ?_
    refine j_iload_n 3 C dX5_reason_27 rfl rfl ?_
    refine j_iload 4 C dX5_reason_28 rfl ?_
    refine j_callRi (v := jRP f n j w a v u) (j_runS (As := [.ref (tr k), .int 2, .int (nI j), .int (nI w)]) (rest := []) [2] C (c_X5_why_2 l g (tr k) n f j w a v u (by omega) ha (by omega) (by omega) (by omega) (by omega) hv (by omega) hu (by omega)) gX5_reason_X5_why rfl rfl rfl hd_X5_why ⟨Nat.le_of_ble_eq_true rfl, Nat.le_of_ble_eq_true rfl⟩ rfl rfl dX5_reason_30 rfl (Nat.le_of_ble_eq_true rfl) ⟨Nat.le_of_ble_eq_true rfl, Nat.le_of_ble_eq_true rfl⟩) ?_
    refine j_goto (tgt := 37) C dX5_reason_33 (by decide) ?_
    exact j_iretW (v := jRP f n j w a v u) C hr dX5_reason_37 () rfl rfl
set_option maxHeartbeats 4000000 in
set_option maxRecDepth 100000 in
theorem c_X5_change_r2 (l : Launch) (g : jG) (m0 : Nat) (th : Int32) (N tb md rw0 : Nat) (sz : Int32) (cs va : Nat) (lk : Int32) (rn kp : Nat) (tr : Nat → Nat) (k n : Nat) (f : Nat → Int32) (j w a v u : Nat) (hk : k < N) (hN : N ≤ 10) (hj : j < n) (hn : n ≤ 8) (ha : f (j * 28 + 3) = nI a) (ha6 : a ≤ 6) (hw1 : 1 ≤ w) (hw2 : w ≤ 10) (hv : f (j * 28 + 0) = nI v) (hv5 : v ≤ 5) (hu : f (j * 28 + 1) = nI u) (hu5 : u ≤ 5) (hz : ¬ jRP f n j w a v u = 0) : jWi l yX5_change wsX5_change ({ frames := 7, cells := 0, slots := 0, locals := 159 }) g [.ref m0, .int (nI k), .int 2, .int (nI j), .int (nI w)] [(m0, .inr (4, [.int th, .int (nI N), .ref tb, .ref md, .ref rw0, .int sz, .ref cs, .ref va, .int lk, .ref rn, .ref kp])), (tb, jaR g 10 (fun i => some (tr i))), (tr k, jaI g 253 (jrw n f))] [(m0, .inr (4, [.int 3, .int (nI N), .ref tb, .ref md, .ref rw0, .int sz, .ref cs, .ref va, .int lk, .ref rn, .ref kp])), (tb, jaR g 10 (fun i => some (tr i))), (tr k, jaI g 253 (jrw n f))] 0 := by
  refine j_enterW (Qc := fun sz_ => va_Qi (fun r (_ : Unit) => r = 0) (fun _ t => va_P g.1 vwCl [(m0, .inr (4, [.int 3, .int (nI N), .ref tb, .ref md, .ref rw0, .int sz, .ref cs, .ref va, .int lk, .ref rn, .ref kp])), (tb, jaR g 10 (fun i => some (tr i))), (tr k, jaI g 253 (jrw n f))] t.heap) (va_A [(m0, .inr (4, [.int th, .int (nI N), .ref tb, .ref md, .ref rw0, .int sz, .ref cs, .ref va, .int lk, .ref rn, .ref kp])), (tb, jaR g 10 (fun i => some (tr i))), (tr k, jaI g 253 (jrw n f))] sz_)) (cc := cX5_change) (maxL := 5) (ret := (some .int)) (own := RX5) (L := [(0, .ref m0), (1, .int (nI k)), (2, .int 2), (3, .int (nI j)), (4, .int (nI w))]) (by decide) rfl rfl (Nat.le_of_ble_eq_true rfl) rfl (fun p e s m args below meth c C hr => ?_)
  refine j_aload_n 0 C dX5_change_0 rfl rfl ?_
  refine j_aload_n 0 C dX5_change_1 rfl rfl ?_
  refine j_iload_n 1 C dX5_change_2 rfl rfl ?_
  refine j_iload_n 2 C dX5_change_3 rfl rfl ?_
  refine j_iload_n 3 C dX5_change_4 rfl rfl ?_
  refine j_iload 4 C dX5_change_5 rfl ?_
  refine j_callRi (v := 0) (j_runV (ci := 0) (As := [.int (nI k), .int 2, .int (nI j), .int (nI w)]) (rest := [.ref m0]) [0, 1, 2] C (c_X5_whyRange_2 l g m0 th N tb md rw0 sz cs va lk rn kp tr k n f j w a v u (by omega) (by omega) (by omega) (by omega) ha (by omega) (by omega) (by omega) hv (by omega) hu (by omega)) gX5_change_X5_whyRange rfl rfl rfl hd_X5_whyRange ⟨Nat.le_of_ble_eq_true rfl, Nat.le_of_ble_eq_true rfl⟩ rfl rfl rfl rfl dX5_change_7 rfl (Nat.le_of_ble_eq_true rfl) ⟨Nat.le_of_ble_eq_true rfl, Nat.le_of_ble_eq_true rfl⟩) ?_
  refine j_put (Cn := RX5) (T := TX5) (N := 11) (ws' := [(m0, .inr (4, [.int 0, .int (nI N), .ref tb, .ref md, .ref rw0, .int sz, .ref cs, .ref va, .int lk, .ref rn, .ref kp])), (tb, jaR g 10 (fun i => some (tr i))), (tr k, jaI g 253 (jrw n f))]) tyX5 0 0 C dX5_change_10 hin_X5_change_X5 tyX5_ok nmX5 rfl rfl (by decide) (List.mem_of_getElem? (i := 1) rfl) rfl (tyX5_ok 0 (by decide)) rfl rfl (Nat.le_of_ble_eq_true rfl) rfl ?_
  refine j_aload_n 0 C dX5_change_13 rfl rfl ?_
  refine j_get (Cn := RX5) (T := TX5) (N := 11) 0 0 C dX5_change_14 hin_X5_change_X5 rfl rfl (by decide) (List.mem_of_getElem? (i := 1) rfl) rfl ?_
  refine j_if_eq (tgt := 22) C dX5_change_17 (by decide) (fun c_1 => ?_) (fun c_1 => ?_)
  · skip
    refine j_aload_n 0 C dX5_change_22 rfl rfl ?_
    refine j_get (Cn := RX5) (T := TX5) (N := 11) 0 2 C dX5_change_23 hin_X5_change_X5 rfl rfl (by decide) (List.mem_of_getElem? (i := 2) rfl) rfl ?_
    refine j_iload_n 1 C dX5_change_26 rfl rfl ?_
    refine j_aldR (x := k) 1 C dX5_change_27 rfl rfl (by omega) (by decide) ?_
    refine j_eq (pc' := 28) (L' := [(0, .ref m0), (1, .int (nI k)), (2, .int 2), (3, .int (nI j)), (4, .int (nI w))]) (st' := [.ref (tr k)]) (ws' := [(m0, .inr (4, [.int 0, .int (nI N), .ref tb, .ref md, .ref rw0, .int sz, .ref cs, .ref va, .int lk, .ref rn, .ref kp])), (tb, jaR g 10 (fun i => some (tr i))), (tr k, jaI g 253 (jrw n f))]) ?_ rfl rfl rfl rfl
    refine j_iload_n 2 C dX5_change_28 rfl rfl ?_
    refine j_iload_n 3 C dX5_change_29 rfl rfl ?_
    refine j_iload 4 C dX5_change_30 rfl ?_
    refine j_callRi (v := jRP f n j w a v u) (j_runS (As := [.ref (tr k), .int 2, .int (nI j), .int (nI w)]) (rest := []) [2] C (c_X5_why_2 l g (tr k) n f j w a v u (by omega) ha (by omega) (by omega) (by omega) (by omega) hv (by omega) hu (by omega)) gX5_change_X5_why rfl rfl rfl hd_X5_why ⟨Nat.le_of_ble_eq_true rfl, Nat.le_of_ble_eq_true rfl⟩ rfl rfl dX5_change_32 rfl (Nat.le_of_ble_eq_true rfl) ⟨Nat.le_of_ble_eq_true rfl, Nat.le_of_ble_eq_true rfl⟩) ?_
    refine j_if_ne (tgt := 47) C dX5_change_35 (by decide) (fun c_2 => ?_) (fun c_2 => ?_)
    · skip
      refine j_aload_n 0 C dX5_change_47 rfl rfl ?_
      refine j_iconst (v := 3) C dX5_change_48 rfl ?_
      refine j_callWi [0] (fun _ => [(m0, .inr (4, [.int 3, .int (nI N), .ref tb, .ref md, .ref rw0, .int sz, .ref cs, .ref va, .int lk, .ref rn, .ref kp])), (tb, jaR g 10 (fun i => some (tr i))), (tr k, jaI g 253 (jrw n f))]) C (j_runV (ci := 0) (As := [.int 3]) (rest := []) [0] C (c_X5_fail l g m0 0 (nI N) tb md rw0 sz cs va lk rn kp 3) gX5_change_X5_fail rfl rfl rfl hd_X5_fail ⟨Nat.le_of_ble_eq_true rfl, Nat.le_of_ble_eq_true rfl⟩ rfl rfl rfl rfl dX5_change_49 rfl (Nat.le_of_ble_eq_true rfl) ⟨Nat.le_of_ble_eq_true rfl, Nat.le_of_ble_eq_true rfl⟩) rfl (fun _ => rfl) (fun _ => rfl) (fun z _ hz => ?_)
      subst hz
      exact j_iretW (v := 0) C hr dX5_change_52 () rfl rfl
    · skip
      (first | exact absurd c_2 (by decide) | exact absurd c_2 (by omega) | simp_all)
  · skip
    exact absurd c_1 (by decide)
set_option maxHeartbeats 4000000 in
set_option maxRecDepth 100000 in
theorem c_X5_change_f2 (l : Launch) (g : jG) (m0 : Nat) (th : Int32) (tb md rw0 : Nat) (sz : Int32) (cs va : Nat) (lk : Int32) (rn kp : Nat) (tr : Nat → Nat) (k n : Nat) (f : Nat → Int32) (j w a v u : Nat) (hk : k < 10) (hj : j < n) (hn : n ≤ 8) (ha : f (j * 28 + 3) = nI a) (ha6 : a ≤ 6) (hw1 : 1 ≤ w) (hw2 : w ≤ 10) (hv : f (j * 28 + 0) = nI v) (hv5 : v ≤ 5) (hu : f (j * 28 + 1) = nI u) (hu5 : u ≤ 5) (hz : jRP f n j w a v u = 0) : jWi l yX5_change wsX5_change ({ frames := 7, cells := 0, slots := 0, locals := 159 }) g [.ref m0, .int (nI k), .int 2, .int (nI j), .int (nI w)] [(m0, .inr (4, [.int th, .int 10, .ref tb, .ref md, .ref rw0, .int sz, .ref cs, .ref va, .int lk, .ref rn, .ref kp])), (tb, jaR g 10 (fun i => some (tr i))), (tr k, jaI g 253 (jrw n f))] [(m0, .inr (4, [.int 3, .int 10, .ref tb, .ref md, .ref rw0, .int sz, .ref cs, .ref va, .int lk, .ref rn, .ref kp])), (tb, jaR g 10 (fun i => some (tr i))), (tr k, jaI g 253 (jrw n f))] 0 := by
  refine j_enterW (Qc := fun sz_ => va_Qi (fun r (_ : Unit) => r = 0) (fun _ t => va_P g.1 vwCl [(m0, .inr (4, [.int 3, .int 10, .ref tb, .ref md, .ref rw0, .int sz, .ref cs, .ref va, .int lk, .ref rn, .ref kp])), (tb, jaR g 10 (fun i => some (tr i))), (tr k, jaI g 253 (jrw n f))] t.heap) (va_A [(m0, .inr (4, [.int th, .int 10, .ref tb, .ref md, .ref rw0, .int sz, .ref cs, .ref va, .int lk, .ref rn, .ref kp])), (tb, jaR g 10 (fun i => some (tr i))), (tr k, jaI g 253 (jrw n f))] sz_)) (cc := cX5_change) (maxL := 5) (ret := (some .int)) (own := RX5) (L := [(0, .ref m0), (1, .int (nI k)), (2, .int 2), (3, .int (nI j)), (4, .int (nI w))]) (by decide) rfl rfl (Nat.le_of_ble_eq_true rfl) rfl (fun p e s m args below meth c C hr => ?_)
  refine j_aload_n 0 C dX5_change_0 rfl rfl ?_
  refine j_aload_n 0 C dX5_change_1 rfl rfl ?_
  refine j_iload_n 1 C dX5_change_2 rfl rfl ?_
  refine j_iload_n 2 C dX5_change_3 rfl rfl ?_
  refine j_iload_n 3 C dX5_change_4 rfl rfl ?_
  refine j_iload 4 C dX5_change_5 rfl ?_
  refine j_callRi (v := 0) (j_runV (ci := 0) (As := [.int (nI k), .int 2, .int (nI j), .int (nI w)]) (rest := [.ref m0]) [0, 1, 2] C (c_X5_whyRange_2 l g m0 th 10 tb md rw0 sz cs va lk rn kp tr k n f j w a v u (by omega) (by omega) (by omega) (by omega) ha (by omega) (by omega) (by omega) hv (by omega) hu (by omega)) gX5_change_X5_whyRange rfl rfl rfl hd_X5_whyRange ⟨Nat.le_of_ble_eq_true rfl, Nat.le_of_ble_eq_true rfl⟩ rfl rfl rfl rfl dX5_change_7 rfl (Nat.le_of_ble_eq_true rfl) ⟨Nat.le_of_ble_eq_true rfl, Nat.le_of_ble_eq_true rfl⟩) ?_
  refine j_put (Cn := RX5) (T := TX5) (N := 11) (ws' := [(m0, .inr (4, [.int 0, .int 10, .ref tb, .ref md, .ref rw0, .int sz, .ref cs, .ref va, .int lk, .ref rn, .ref kp])), (tb, jaR g 10 (fun i => some (tr i))), (tr k, jaI g 253 (jrw n f))]) tyX5 0 0 C dX5_change_10 hin_X5_change_X5 tyX5_ok nmX5 rfl rfl (by decide) (List.mem_of_getElem? (i := 1) rfl) rfl (tyX5_ok 0 (by decide)) rfl rfl (Nat.le_of_ble_eq_true rfl) rfl ?_
  refine j_aload_n 0 C dX5_change_13 rfl rfl ?_
  refine j_get (Cn := RX5) (T := TX5) (N := 11) 0 0 C dX5_change_14 hin_X5_change_X5 rfl rfl (by decide) (List.mem_of_getElem? (i := 1) rfl) rfl ?_
  refine j_if_eq (tgt := 22) C dX5_change_17 (by decide) (fun c_1 => ?_) (fun c_1 => ?_)
  · skip
    refine j_aload_n 0 C dX5_change_22 rfl rfl ?_
    refine j_get (Cn := RX5) (T := TX5) (N := 11) 0 2 C dX5_change_23 hin_X5_change_X5 rfl rfl (by decide) (List.mem_of_getElem? (i := 2) rfl) rfl ?_
    refine j_iload_n 1 C dX5_change_26 rfl rfl ?_
    refine j_aldR (x := k) 1 C dX5_change_27 rfl rfl (by omega) (by decide) ?_
    refine j_eq (pc' := 28) (L' := [(0, .ref m0), (1, .int (nI k)), (2, .int 2), (3, .int (nI j)), (4, .int (nI w))]) (st' := [.ref (tr k)]) (ws' := [(m0, .inr (4, [.int 0, .int 10, .ref tb, .ref md, .ref rw0, .int sz, .ref cs, .ref va, .int lk, .ref rn, .ref kp])), (tb, jaR g 10 (fun i => some (tr i))), (tr k, jaI g 253 (jrw n f))]) ?_ rfl rfl rfl rfl
    refine j_iload_n 2 C dX5_change_28 rfl rfl ?_
    refine j_iload_n 3 C dX5_change_29 rfl rfl ?_
    refine j_iload 4 C dX5_change_30 rfl ?_
    refine j_callRi (v := jRP f n j w a v u) (j_runS (As := [.ref (tr k), .int 2, .int (nI j), .int (nI w)]) (rest := []) [2] C (c_X5_why_2 l g (tr k) n f j w a v u (by omega) ha (by omega) (by omega) (by omega) (by omega) hv (by omega) hu (by omega)) gX5_change_X5_why rfl rfl rfl hd_X5_why ⟨Nat.le_of_ble_eq_true rfl, Nat.le_of_ble_eq_true rfl⟩ rfl rfl dX5_change_32 rfl (Nat.le_of_ble_eq_true rfl) ⟨Nat.le_of_ble_eq_true rfl, Nat.le_of_ble_eq_true rfl⟩) ?_
    refine j_if_ne (tgt := 47) C dX5_change_35 (by decide) (fun c_2 => ?_) (fun c_2 => ?_)
    · skip
      (first | exact absurd c_2 (by decide) | exact absurd c_2 (by omega) | simp_all)
    · skip
      refine j_aload_n 0 C dX5_change_38 rfl rfl ?_
      refine j_get (Cn := RX5) (T := TX5) (N := 11) 0 1 C dX5_change_39 hin_X5_change_X5 rfl rfl (by decide) (List.mem_of_getElem? (i := 3) rfl) rfl ?_
      refine j_bipush (v := 10) C dX5_change_42 rfl ?_
      refine j_icmp_ne (tgt := 53) C dX5_change_44 (by decide) (fun c_3 => ?_) (fun c_3 => ?_)
      · skip
        exact absurd c_3 (by decide)
      · skip
        refine j_aload_n 0 C dX5_change_47 rfl rfl ?_
        refine j_iconst (v := 3) C dX5_change_48 rfl ?_
        refine j_callWi [0] (fun _ => [(m0, .inr (4, [.int 3, .int 10, .ref tb, .ref md, .ref rw0, .int sz, .ref cs, .ref va, .int lk, .ref rn, .ref kp])), (tb, jaR g 10 (fun i => some (tr i))), (tr k, jaI g 253 (jrw n f))]) C (j_runV (ci := 0) (As := [.int 3]) (rest := []) [0] C (c_X5_fail l g m0 0 10 tb md rw0 sz cs va lk rn kp 3) gX5_change_X5_fail rfl rfl rfl hd_X5_fail ⟨Nat.le_of_ble_eq_true rfl, Nat.le_of_ble_eq_true rfl⟩ rfl rfl rfl rfl dX5_change_49 rfl (Nat.le_of_ble_eq_true rfl) ⟨Nat.le_of_ble_eq_true rfl, Nat.le_of_ble_eq_true rfl⟩) rfl (fun _ => rfl) (fun _ => rfl) (fun z _ hz => ?_)
        subst hz
        exact j_iretW (v := 0) C hr dX5_change_52 () rfl rfl
  · skip
    exact absurd c_1 (by decide)
set_option maxHeartbeats 4000000 in
set_option maxRecDepth 100000 in
theorem c_X5_change_2 (l : Launch) (g : jG) (m0 : Nat) (th : Int32) (N tb md rw0 : Nat) (sz : Int32) (cs va : Nat) (lk : Int32) (rn kp : Nat) (tr : Nat → Nat) (k n : Nat) (f : Nat → Int32) (n0 : Nat) (f0 : Nat → Int32) (n1 : Nat) (f1 : Nat → Int32) (j w a v u : Nat) (hk : k < N) (hN : N < 10) (hj : j < n) (hn : n ≤ 8) (ha : f (j * 28 + 3) = nI a) (ha6 : a ≤ 6) (hw1 : 1 ≤ w) (hw2 : w ≤ 10) (hv : f (j * 28 + 0) = nI v) (hv5 : v ≤ 5) (hu : f (j * 28 + 1) = nI u) (hu5 : u ≤ 5) (hz : jRP f n j w a v u = 0) (hn8 : n < 8) (hv9 : v + 1 ≤ w) : jWi l yX5_change wsX5_change ({ frames := 7, cells := 0, slots := 0, locals := 159 }) g [.ref m0, .int (nI k), .int 2, .int (nI j), .int (nI w)] [(m0, .inr (4, [.int th, .int (nI N), .ref tb, .ref md, .ref rw0, .int sz, .ref cs, .ref va, .int lk, .ref rn, .ref kp])), (tb, jaR g 10 (fun i => some (tr i))), (tr k, jaI g 253 (jrw n f)), (md, jaI g 253 (jrw n0 f0)), (tr N, jaI g 253 (jrw n1 f1))] [(m0, .inr (4, [.int 0, .int (nI (N + 1)), .ref tb, .ref md, .ref rw0, .int sz, .ref cs, .ref va, .int lk, .ref rn, .ref kp])), (tb, jaR g 10 (fun i => some (tr i))), (tr k, jaI g 253 (jrw n f)), (md, jaI g 253 (jrw (n + 1) (upd (upd (jRp f (n * 28) (j * 28)) (j * 28 + 1) (nI (w - 1 - v))) ((j + 1) * 28 + 0) (nI (v + 1))))), (tr N, jaI g 253 (jrw (n + 1) (upd (upd (jRp f (n * 28) (j * 28)) (j * 28 + 1) (nI (w - 1 - v))) ((j + 1) * 28 + 0) (nI (v + 1)))))] (nI N) := by
  refine j_enterW (Qc := fun sz_ => va_Qi (fun r (_ : Unit) => r = nI N) (fun _ t => va_P g.1 vwCl [(m0, .inr (4, [.int 0, .int (nI (N + 1)), .ref tb, .ref md, .ref rw0, .int sz, .ref cs, .ref va, .int lk, .ref rn, .ref kp])), (tb, jaR g 10 (fun i => some (tr i))), (tr k, jaI g 253 (jrw n f)), (md, jaI g 253 (jrw (n + 1) (upd (upd (jRp f (n * 28) (j * 28)) (j * 28 + 1) (nI (w - 1 - v))) ((j + 1) * 28 + 0) (nI (v + 1))))), (tr N, jaI g 253 (jrw (n + 1) (upd (upd (jRp f (n * 28) (j * 28)) (j * 28 + 1) (nI (w - 1 - v))) ((j + 1) * 28 + 0) (nI (v + 1)))))] t.heap) (va_A [(m0, .inr (4, [.int th, .int (nI N), .ref tb, .ref md, .ref rw0, .int sz, .ref cs, .ref va, .int lk, .ref rn, .ref kp])), (tb, jaR g 10 (fun i => some (tr i))), (tr k, jaI g 253 (jrw n f)), (md, jaI g 253 (jrw n0 f0)), (tr N, jaI g 253 (jrw n1 f1))] sz_)) (cc := cX5_change) (maxL := 5) (ret := (some .int)) (own := RX5) (L := [(0, .ref m0), (1, .int (nI k)), (2, .int 2), (3, .int (nI j)), (4, .int (nI w))]) (by decide) rfl rfl (Nat.le_of_ble_eq_true rfl) rfl (fun p e s m args below meth c C hr => ?_)
  refine j_aload_n 0 C dX5_change_0 rfl rfl ?_
  refine j_aload_n 0 C dX5_change_1 rfl rfl ?_
  refine j_iload_n 1 C dX5_change_2 rfl rfl ?_
  refine j_iload_n 2 C dX5_change_3 rfl rfl ?_
  refine j_iload_n 3 C dX5_change_4 rfl rfl ?_
  refine j_iload 4 C dX5_change_5 rfl ?_
  refine j_callRi (v := 0) (j_runV (ci := 0) (As := [.int (nI k), .int 2, .int (nI j), .int (nI w)]) (rest := [.ref m0]) [0, 1, 2] C (c_X5_whyRange_2 l g m0 th N tb md rw0 sz cs va lk rn kp tr k n f j w a v u (by omega) (by omega) (by omega) (by omega) ha (by omega) (by omega) (by omega) hv (by omega) hu (by omega)) gX5_change_X5_whyRange rfl rfl rfl hd_X5_whyRange ⟨Nat.le_of_ble_eq_true rfl, Nat.le_of_ble_eq_true rfl⟩ rfl rfl rfl rfl dX5_change_7 rfl (Nat.le_of_ble_eq_true rfl) ⟨Nat.le_of_ble_eq_true rfl, Nat.le_of_ble_eq_true rfl⟩) ?_
  refine j_put (Cn := RX5) (T := TX5) (N := 11) (ws' := [(m0, .inr (4, [.int 0, .int (nI N), .ref tb, .ref md, .ref rw0, .int sz, .ref cs, .ref va, .int lk, .ref rn, .ref kp])), (tb, jaR g 10 (fun i => some (tr i))), (tr k, jaI g 253 (jrw n f)), (md, jaI g 253 (jrw n0 f0)), (tr N, jaI g 253 (jrw n1 f1))]) tyX5 0 0 C dX5_change_10 hin_X5_change_X5 tyX5_ok nmX5 rfl rfl (by decide) (List.mem_of_getElem? (i := 1) rfl) rfl (tyX5_ok 0 (by decide)) rfl rfl (Nat.le_of_ble_eq_true rfl) rfl ?_
  refine j_aload_n 0 C dX5_change_13 rfl rfl ?_
  refine j_get (Cn := RX5) (T := TX5) (N := 11) 0 0 C dX5_change_14 hin_X5_change_X5 rfl rfl (by decide) (List.mem_of_getElem? (i := 1) rfl) rfl ?_
  refine j_if_eq (tgt := 22) C dX5_change_17 (by decide) (fun c_1 => ?_) (fun c_1 => ?_)
  · skip
    refine j_aload_n 0 C dX5_change_22 rfl rfl ?_
    refine j_get (Cn := RX5) (T := TX5) (N := 11) 0 2 C dX5_change_23 hin_X5_change_X5 rfl rfl (by decide) (List.mem_of_getElem? (i := 2) rfl) rfl ?_
    refine j_iload_n 1 C dX5_change_26 rfl rfl ?_
    refine j_aldR (x := k) 1 C dX5_change_27 rfl rfl (by omega) (by decide) ?_
    refine j_eq (pc' := 28) (L' := [(0, .ref m0), (1, .int (nI k)), (2, .int 2), (3, .int (nI j)), (4, .int (nI w))]) (st' := [.ref (tr k)]) (ws' := [(m0, .inr (4, [.int 0, .int (nI N), .ref tb, .ref md, .ref rw0, .int sz, .ref cs, .ref va, .int lk, .ref rn, .ref kp])), (tb, jaR g 10 (fun i => some (tr i))), (tr k, jaI g 253 (jrw n f)), (md, jaI g 253 (jrw n0 f0)), (tr N, jaI g 253 (jrw n1 f1))]) ?_ rfl rfl rfl rfl
    refine j_iload_n 2 C dX5_change_28 rfl rfl ?_
    refine j_iload_n 3 C dX5_change_29 rfl rfl ?_
    refine j_iload 4 C dX5_change_30 rfl ?_
    refine j_callRi (v := jRP f n j w a v u) (j_runS (As := [.ref (tr k), .int 2, .int (nI j), .int (nI w)]) (rest := []) [2] C (c_X5_why_2 l g (tr k) n f j w a v u (by omega) ha (by omega) (by omega) (by omega) (by omega) hv (by omega) hu (by omega)) gX5_change_X5_why rfl rfl rfl hd_X5_why ⟨Nat.le_of_ble_eq_true rfl, Nat.le_of_ble_eq_true rfl⟩ rfl rfl dX5_change_32 rfl (Nat.le_of_ble_eq_true rfl) ⟨Nat.le_of_ble_eq_true rfl, Nat.le_of_ble_eq_true rfl⟩) ?_
    refine j_if_ne (tgt := 47) C dX5_change_35 (by decide) (fun c_2 => ?_) (fun c_2 => ?_)
    · skip
      (first | exact absurd c_2 (by decide) | exact absurd c_2 (by omega) | simp_all)
    · skip
      refine j_aload_n 0 C dX5_change_38 rfl rfl ?_
      refine j_get (Cn := RX5) (T := TX5) (N := 11) 0 1 C dX5_change_39 hin_X5_change_X5 rfl rfl (by decide) (List.mem_of_getElem? (i := 3) rfl) rfl ?_
      refine j_bipush (v := 10) C dX5_change_42 rfl ?_
      refine j_icmp_ne (tgt := 53) C dX5_change_44 (by decide) (fun c_3 => ?_) (fun c_3 => ?_)
      · skip
        have c_3 : ¬ N = 10 := fun z => c_3 ((nI_eq (a := N) (b := 10) (by omega) (by omega)).mpr z)
        refine j_aload_n 0 C dX5_change_53 rfl rfl ?_
        refine j_get (Cn := RX5) (T := TX5) (N := 11) 0 2 C dX5_change_54 hin_X5_change_X5 rfl rfl (by decide) (List.mem_of_getElem? (i := 2) rfl) rfl ?_
        refine j_iload_n 1 C dX5_change_57 rfl rfl ?_
        refine j_aldR (x := k) 1 C dX5_change_58 rfl rfl (by omega) (by decide) ?_
        refine j_eq (pc' := 59) (L' := [(0, .ref m0), (1, .int (nI k)), (2, .int 2), (3, .int (nI j)), (4, .int (nI w))]) (st' := [.ref (tr k)]) (ws' := [(m0, .inr (4, [.int 0, .int (nI N), .ref tb, .ref md, .ref rw0, .int sz, .ref cs, .ref va, .int lk, .ref rn, .ref kp])), (tb, jaR g 10 (fun i => some (tr i))), (tr k, jaI g 253 (jrw n f)), (md, jaI g 253 (jrw n0 f0)), (tr N, jaI g 253 (jrw n1 f1))]) ?_ rfl rfl rfl rfl
        refine j_iconst (v := 0) C dX5_change_59 rfl ?_
        refine j_aload_n 0 C dX5_change_60 rfl rfl ?_
        refine j_get (Cn := RX5) (T := TX5) (N := 11) 0 3 C dX5_change_61 hin_X5_change_X5 rfl rfl (by decide) (List.mem_of_getElem? (i := 4) rfl) rfl ?_
        refine j_iconst (v := 0) C dX5_change_64 rfl ?_
        refine j_sipush (v := 253) C dX5_change_65 rfl ?_
        refine j_copyI (sp := 0) (dp := 0) (n := 253) (rest := []) (ws' := [(m0, .inr (4, [.int 0, .int (nI N), .ref tb, .ref md, .ref rw0, .int sz, .ref cs, .ref va, .int lk, .ref rn, .ref kp])), (tb, jaR g 10 (fun i => some (tr i))), (tr k, jaI g 253 (jrw n f)), (md, jaI g 253 (va_cpy (jrw n f) (jrw n0 f0) 0 0 253)), (tr N, jaI g 253 (jrw n1 f1))]) 2 3 C dX5_change_68 (List.mem_of_getElem? (i := 5) rfl) (List.mem_of_getElem? (i := 6) rfl) (List.mem_of_getElem? (i := 7) rfl) (List.mem_of_getElem? (i := 8) rfl) rfl rfl rfl rfl rfl (by omega) (by omega) (by decide) (by decide) (Nat.le_of_ble_eq_true rfl) (Nat.le_of_ble_eq_true rfl) rfl ?_
        refine j_arrI (f' := jrw n f) (ws' := [(m0, .inr (4, [.int 0, .int (nI N), .ref tb, .ref md, .ref rw0, .int sz, .ref cs, .ref va, .int lk, .ref rn, .ref kp])), (tb, jaR g 10 (fun i => some (tr i))), (tr k, jaI g 253 (jrw n f)), (md, jaI g 253 (jrw n f)), (tr N, jaI g 253 (jrw n1 f1))]) 3 rfl (fun i hi => jcp_all hi) rfl ?_
        refine j_aload_n 0 C dX5_change_71 rfl rfl ?_
        refine j_iload_n 2 C dX5_change_72 rfl rfl ?_
        refine j_iload_n 3 C dX5_change_73 rfl rfl ?_
        refine j_iload 4 C dX5_change_74 rfl ?_
        refine j_callWv [0, 3] (fun _ => [(m0, .inr (4, [.int 0, .int (nI N), .ref tb, .ref md, .ref rw0, .int sz, .ref cs, .ref va, .int lk, .ref rn, .ref kp])), (tb, jaR g 10 (fun i => some (tr i))), (tr k, jaI g 253 (jrw n f)), (md, jaI g 253 (jrw (n + 1) (upd (upd (jRp f (n * 28) (j * 28)) (j * 28 + 1) (nI (w - 1 - v))) ((j + 1) * 28 + 0) (nI (v + 1))))), (tr N, jaI g 253 (jrw n1 f1))]) C (j_runV (ci := 0) (As := [.int 2, .int (nI j), .int (nI w)]) (rest := []) [0, 3] C (c_X5_make_2 l g m0 0 (nI N) tb md rw0 sz cs va lk rn kp n f j w v (by omega) (by omega) hv (by omega)) gX5_change_X5_make rfl rfl rfl hd_X5_make ⟨Nat.le_of_ble_eq_true rfl, Nat.le_of_ble_eq_true rfl⟩ rfl rfl rfl rfl dX5_change_76 rfl (Nat.le_of_ble_eq_true rfl) ⟨Nat.le_of_ble_eq_true rfl, Nat.le_of_ble_eq_true rfl⟩) rfl (fun _ => rfl) (fun _ => rfl) (fun _ _ => ?_)
        refine j_aload_n 0 C dX5_change_79 rfl rfl ?_
        refine j_get (Cn := RX5) (T := TX5) (N := 11) 0 3 C dX5_change_80 hin_X5_change_X5 rfl rfl (by decide) (List.mem_of_getElem? (i := 4) rfl) rfl ?_
        refine j_iconst (v := 0) C dX5_change_83 rfl ?_
        refine j_aload_n 0 C dX5_change_84 rfl rfl ?_
        refine j_get (Cn := RX5) (T := TX5) (N := 11) 0 2 C dX5_change_85 hin_X5_change_X5 rfl rfl (by decide) (List.mem_of_getElem? (i := 2) rfl) rfl ?_
        refine j_aload_n 0 C dX5_change_88 rfl rfl ?_
        refine j_get (Cn := RX5) (T := TX5) (N := 11) 0 1 C dX5_change_89 hin_X5_change_X5 rfl rfl (by decide) (List.mem_of_getElem? (i := 3) rfl) rfl ?_
        refine j_aldR (x := N) 1 C dX5_change_92 rfl rfl (by omega) (by decide) ?_
        refine j_eq (pc' := 93) (L' := [(0, .ref m0), (1, .int (nI k)), (2, .int 2), (3, .int (nI j)), (4, .int (nI w))]) (st' := [.ref (tr N), .int 0, .ref md]) (ws' := [(m0, .inr (4, [.int 0, .int (nI N), .ref tb, .ref md, .ref rw0, .int sz, .ref cs, .ref va, .int lk, .ref rn, .ref kp])), (tb, jaR g 10 (fun i => some (tr i))), (tr k, jaI g 253 (jrw n f)), (md, jaI g 253 (jrw (n + 1) (upd (upd (jRp f (n * 28) (j * 28)) (j * 28 + 1) (nI (w - 1 - v))) ((j + 1) * 28 + 0) (nI (v + 1))))), (tr N, jaI g 253 (jrw n1 f1))]) ?_ rfl rfl rfl rfl
        refine j_iconst (v := 0) C dX5_change_93 rfl ?_
        refine j_sipush (v := 253) C dX5_change_94 rfl ?_
        refine j_copyI (sp := 0) (dp := 0) (n := 253) (rest := []) (ws' := [(m0, .inr (4, [.int 0, .int (nI N), .ref tb, .ref md, .ref rw0, .int sz, .ref cs, .ref va, .int lk, .ref rn, .ref kp])), (tb, jaR g 10 (fun i => some (tr i))), (tr k, jaI g 253 (jrw n f)), (md, jaI g 253 (jrw (n + 1) (upd (upd (jRp f (n * 28) (j * 28)) (j * 28 + 1) (nI (w - 1 - v))) ((j + 1) * 28 + 0) (nI (v + 1))))), (tr N, jaI g 253 (va_cpy (jrw (n + 1) (upd (upd (jRp f (n * 28) (j * 28)) (j * 28 + 1) (nI (w - 1 - v))) ((j + 1) * 28 + 0) (nI (v + 1)))) (jrw n1 f1) 0 0 253))]) 3 4 C dX5_change_97 (List.mem_of_getElem? (i := 5) rfl) (List.mem_of_getElem? (i := 6) rfl) (List.mem_of_getElem? (i := 7) rfl) (List.mem_of_getElem? (i := 8) rfl) rfl rfl rfl rfl rfl (by omega) (by omega) (by decide) (by decide) (Nat.le_of_ble_eq_true rfl) (Nat.le_of_ble_eq_true rfl) rfl ?_
        refine j_arrI (f' := (jrw (n + 1) (upd (upd (jRp f (n * 28) (j * 28)) (j * 28 + 1) (nI (w - 1 - v))) ((j + 1) * 28 + 0) (nI (v + 1))))) (ws' := [(m0, .inr (4, [.int 0, .int (nI N), .ref tb, .ref md, .ref rw0, .int sz, .ref cs, .ref va, .int lk, .ref rn, .ref kp])), (tb, jaR g 10 (fun i => some (tr i))), (tr k, jaI g 253 (jrw n f)), (md, jaI g 253 (jrw (n + 1) (upd (upd (jRp f (n * 28) (j * 28)) (j * 28 + 1) (nI (w - 1 - v))) ((j + 1) * 28 + 0) (nI (v + 1))))), (tr N, jaI g 253 (jrw (n + 1) (upd (upd (jRp f (n * 28) (j * 28)) (j * 28 + 1) (nI (w - 1 - v))) ((j + 1) * 28 + 0) (nI (v + 1)))))]) 4 rfl (fun i hi => jcp_all hi) rfl ?_
        refine j_aload_n 0 C dX5_change_100 rfl rfl ?_
        refine j_dup C dX5_change_101 rfl ?_
        refine j_get (Cn := RX5) (T := TX5) (N := 11) 0 1 C dX5_change_102 hin_X5_change_X5 rfl rfl (by decide) (List.mem_of_getElem? (i := 3) rfl) rfl ?_
        refine j_iconst (v := 1) C dX5_change_105 rfl ?_
        refine j_iadd (x := nI N) (y := 1) (v := nI (N + 1)) C dX5_change_106 (nI_add N 1) ?_
        refine j_put (Cn := RX5) (T := TX5) (N := 11) (ws' := [(m0, .inr (4, [.int 0, .int (nI (N + 1)), .ref tb, .ref md, .ref rw0, .int sz, .ref cs, .ref va, .int lk, .ref rn, .ref kp])), (tb, jaR g 10 (fun i => some (tr i))), (tr k, jaI g 253 (jrw n f)), (md, jaI g 253 (jrw (n + 1) (upd (upd (jRp f (n * 28) (j * 28)) (j * 28 + 1) (nI (w - 1 - v))) ((j + 1) * 28 + 0) (nI (v + 1))))), (tr N, jaI g 253 (jrw (n + 1) (upd (upd (jRp f (n * 28) (j * 28)) (j * 28 + 1) (nI (w - 1 - v))) ((j + 1) * 28 + 0) (nI (v + 1)))))]) tyX5 0 1 C dX5_change_107 hin_X5_change_X5 tyX5_ok nmX5 rfl rfl (by decide) (List.mem_of_getElem? (i := 3) rfl) rfl (tyX5_ok 1 (by decide)) rfl rfl (Nat.le_of_ble_eq_true rfl) rfl ?_
        refine j_aload_n 0 C dX5_change_110 rfl rfl ?_
        refine j_get (Cn := RX5) (T := TX5) (N := 11) 0 1 C dX5_change_111 hin_X5_change_X5 rfl rfl (by decide) (List.mem_of_getElem? (i := 3) rfl) rfl ?_
        refine j_iconst (v := 1) C dX5_change_114 rfl ?_
        refine j_isub (x := nI (N + 1)) (y := 1) (v := nI ((N + 1) - 1)) C dX5_change_115 (pk_sub (a := N + 1) (b := 1) (by omega)) ?_
        exact j_iretW (v := nI ((N + 1) - 1)) C hr dX5_change_116 () (by rfl) rfl
      · skip
        have c_3 : N = 10 := (nI_eq (a := N) (b := 10) (by omega) (by omega)).mp c_3
        exact absurd c_3 (by omega)
  · skip
    exact absurd c_1 (by decide)
set_option maxHeartbeats 4000000 in
set_option maxRecDepth 100000 in
theorem c_X5_reason_3 (l : Launch) (g : jG) (m0 : Nat) (th : Int32) (N tb md rw0 : Nat) (sz : Int32) (cs va : Nat) (lk : Int32) (rn kp : Nat) (tr : Nat → Nat) (k n : Nat) (f : Nat → Int32) (j a : Nat) (hk : k < N) (hN : N ≤ 10) (hj : j < n) (hn : n ≤ 8) (ha : f (j * 28 + 3) = nI a) (ha6 : a ≤ 6) : jWi l yX5_reason wsX5_reason ({ frames := 7, cells := 0, slots := 0, locals := 160 }) g [.ref m0, .int (nI k), .int 3, .int (nI j), .int 0] [(m0, .inr (4, [.int th, .int (nI N), .ref tb, .ref md, .ref rw0, .int sz, .ref cs, .ref va, .int lk, .ref rn, .ref kp])), (tb, jaR g 10 (fun i => some (tr i))), (tr k, jaI g 253 (jrw n f))] [(m0, .inr (4, [.int 0, .int (nI N), .ref tb, .ref md, .ref rw0, .int sz, .ref cs, .ref va, .int lk, .ref rn, .ref kp])), (tb, jaR g 10 (fun i => some (tr i))), (tr k, jaI g 253 (jrw n f))] (jRT f j a) := by
  refine j_enterW (Qc := fun sz_ => va_Qi (fun r (_ : Unit) => r = jRT f j a) (fun _ t => va_P g.1 vwCl [(m0, .inr (4, [.int 0, .int (nI N), .ref tb, .ref md, .ref rw0, .int sz, .ref cs, .ref va, .int lk, .ref rn, .ref kp])), (tb, jaR g 10 (fun i => some (tr i))), (tr k, jaI g 253 (jrw n f))] t.heap) (va_A [(m0, .inr (4, [.int th, .int (nI N), .ref tb, .ref md, .ref rw0, .int sz, .ref cs, .ref va, .int lk, .ref rn, .ref kp])), (tb, jaR g 10 (fun i => some (tr i))), (tr k, jaI g 253 (jrw n f))] sz_)) (cc := cX5_reason) (maxL := 5) (ret := (some .int)) (own := RX5) (L := [(0, .ref m0), (1, .int (nI k)), (2, .int 3), (3, .int (nI j)), (4, .int 0)]) (by decide) rfl rfl (Nat.le_of_ble_eq_true rfl) rfl (fun p e s m args below meth c C hr => ?_)
  refine j_aload_n 0 C dX5_reason_0 rfl rfl ?_
  refine j_aload_n 0 C dX5_reason_1 rfl rfl ?_
  refine j_iload_n 1 C dX5_reason_2 rfl rfl ?_
  refine j_iload_n 2 C dX5_reason_3 rfl rfl ?_
  refine j_iload_n 3 C dX5_reason_4 rfl rfl ?_
  refine j_iload 4 C dX5_reason_5 rfl ?_
  refine j_callRi (v := 0) (j_runV (ci := 0) (As := [.int (nI k), .int 3, .int (nI j), .int 0]) (rest := [.ref m0]) [0, 1, 2] C (c_X5_whyRange_3 l g m0 th N tb md rw0 sz cs va lk rn kp tr k n f j a (by omega) (by omega) (by omega) (by omega) ha (by omega)) gX5_reason_X5_whyRange rfl rfl rfl hd_X5_whyRange ⟨Nat.le_of_ble_eq_true rfl, Nat.le_of_ble_eq_true rfl⟩ rfl rfl rfl rfl dX5_reason_7 rfl (Nat.le_of_ble_eq_true rfl) ⟨Nat.le_of_ble_eq_true rfl, Nat.le_of_ble_eq_true rfl⟩) ?_
  refine j_put (Cn := RX5) (T := TX5) (N := 11) (ws' := [(m0, .inr (4, [.int 0, .int (nI N), .ref tb, .ref md, .ref rw0, .int sz, .ref cs, .ref va, .int lk, .ref rn, .ref kp])), (tb, jaR g 10 (fun i => some (tr i))), (tr k, jaI g 253 (jrw n f))]) tyX5 0 0 C dX5_reason_10 hin_X5_reason_X5 tyX5_ok nmX5 rfl rfl (by decide) (List.mem_of_getElem? (i := 1) rfl) rfl (tyX5_ok 0 (by decide)) rfl rfl (Nat.le_of_ble_eq_true rfl) rfl ?_
  refine j_aload_n 0 C dX5_reason_13 rfl rfl ?_
  refine j_get (Cn := RX5) (T := TX5) (N := 11) 0 0 C dX5_reason_14 hin_X5_reason_X5 rfl rfl (by decide) (List.mem_of_getElem? (i := 1) rfl) rfl ?_
  refine j_if_ne (tgt := 36) C dX5_reason_17 (by decide) (fun c_1 => ?_) (fun c_1 => ?_)
  · skip
    exact absurd c_1 (by decide)
  · skip
    refine j_aload_n 0 C dX5_reason_20 rfl rfl ?_
    refine j_get (Cn := RX5) (T := TX5) (N := 11) 0 2 C dX5_reason_21 hin_X5_reason_X5 rfl rfl (by decide) (List.mem_of_getElem? (i := 2) rfl) rfl ?_
    refine j_iload_n 1 C dX5_reason_24 rfl rfl ?_
    refine j_aldR (x := k) 1 C dX5_reason_25 rfl rfl (by omega) (by decide) ?_
    refine j_eq (pc' := 26) (L' := [(0, .ref m0), (1, .int (nI k)), (2, .int 3), (3, .int (nI j)), (4, .int 0)]) (st' := [.ref (tr k)]) (ws' := [(m0, .inr (4, [.int 0, .int (nI N), .ref tb, .ref md, .ref rw0, .int sz, .ref cs, .ref va, .int lk, .ref rn, .ref kp])), (tb, jaR g 10 (fun i => some (tr i))), (tr k, jaI g 253 (jrw n f))]) ?_ rfl rfl rfl rfl
    refine j_iload_n 2 C dX5_reason_26 rfl rfl ?_
    refine j_iload_n 3 C dX5_reason_27 rfl rfl ?_
    refine j_iload 4 C dX5_reason_28 rfl ?_
    refine j_callRi (v := jRT f j a) (j_runS (As := [.ref (tr k), .int 3, .int (nI j), .int 0]) (rest := []) [2] C (c_X5_why_3 l g (tr k) n f j a 0 (by omega) ha (by omega)) gX5_reason_X5_why rfl rfl rfl hd_X5_why ⟨Nat.le_of_ble_eq_true rfl, Nat.le_of_ble_eq_true rfl⟩ rfl rfl dX5_reason_30 rfl (Nat.le_of_ble_eq_true rfl) ⟨Nat.le_of_ble_eq_true rfl, Nat.le_of_ble_eq_true rfl⟩) ?_
    refine j_goto (tgt := 37) C dX5_reason_33 (by decide) ?_
    exact j_iretW (v := jRT f j a) C hr dX5_reason_37 () rfl rfl
set_option maxHeartbeats 4000000 in
set_option maxRecDepth 100000 in
theorem c_X5_change_r3 (l : Launch) (g : jG) (m0 : Nat) (th : Int32) (N tb md rw0 : Nat) (sz : Int32) (cs va : Nat) (lk : Int32) (rn kp : Nat) (tr : Nat → Nat) (k n : Nat) (f : Nat → Int32) (j a : Nat) (hk : k < N) (hN : N ≤ 10) (hj : j < n) (hn : n ≤ 8) (ha : f (j * 28 + 3) = nI a) (ha6 : a ≤ 6) (hz : ¬ jRT f j a = 0) : jWi l yX5_change wsX5_change ({ frames := 7, cells := 0, slots := 0, locals := 160 }) g [.ref m0, .int (nI k), .int 3, .int (nI j), .int 0] [(m0, .inr (4, [.int th, .int (nI N), .ref tb, .ref md, .ref rw0, .int sz, .ref cs, .ref va, .int lk, .ref rn, .ref kp])), (tb, jaR g 10 (fun i => some (tr i))), (tr k, jaI g 253 (jrw n f))] [(m0, .inr (4, [.int 3, .int (nI N), .ref tb, .ref md, .ref rw0, .int sz, .ref cs, .ref va, .int lk, .ref rn, .ref kp])), (tb, jaR g 10 (fun i => some (tr i))), (tr k, jaI g 253 (jrw n f))] 0 := by
  refine j_enterW (Qc := fun sz_ => va_Qi (fun r (_ : Unit) => r = 0) (fun _ t => va_P g.1 vwCl [(m0, .inr (4, [.int 3, .int (nI N), .ref tb, .ref md, .ref rw0, .int sz, .ref cs, .ref va, .int lk, .ref rn, .ref kp])), (tb, jaR g 10 (fun i => some (tr i))), (tr k, jaI g 253 (jrw n f))] t.heap) (va_A [(m0, .inr (4, [.int th, .int (nI N), .ref tb, .ref md, .ref rw0, .int sz, .ref cs, .ref va, .int lk, .ref rn, .ref kp])), (tb, jaR g 10 (fun i => some (tr i))), (tr k, jaI g 253 (jrw n f))] sz_)) (cc := cX5_change) (maxL := 5) (ret := (some .int)) (own := RX5) (L := [(0, .ref m0), (1, .int (nI k)), (2, .int 3), (3, .int (nI j)), (4, .int 0)]) (by decide) rfl rfl (Nat.le_of_ble_eq_true rfl) rfl (fun p e s m args below meth c C hr => ?_)
  refine j_aload_n 0 C dX5_change_0 rfl rfl ?_
  refine j_aload_n 0 C dX5_change_1 rfl rfl ?_
  refine j_iload_n 1 C dX5_change_2 rfl rfl ?_
  refine j_iload_n 2 C dX5_change_3 rfl rfl ?_
  refine j_iload_n 3 C dX5_change_4 rfl rfl ?_
  refine j_iload 4 C dX5_change_5 rfl ?_
  refine j_callRi (v := 0) (j_runV (ci := 0) (As := [.int (nI k), .int 3, .int (nI j), .int 0]) (rest := [.ref m0]) [0, 1, 2] C (c_X5_whyRange_3 l g m0 th N tb md rw0 sz cs va lk rn kp tr k n f j a (by omega) (by omega) (by omega) (by omega) ha (by omega)) gX5_change_X5_whyRange rfl rfl rfl hd_X5_whyRange ⟨Nat.le_of_ble_eq_true rfl, Nat.le_of_ble_eq_true rfl⟩ rfl rfl rfl rfl dX5_change_7 rfl (Nat.le_of_ble_eq_true rfl) ⟨Nat.le_of_ble_eq_true rfl, Nat.le_of_ble_eq_true rfl⟩) ?_
  refine j_put (Cn := RX5) (T := TX5) (N := 11) (ws' := [(m0, .inr (4, [.int 0, .int (nI N), .ref tb, .ref md, .ref rw0, .int sz, .ref cs, .ref va, .int lk, .ref rn, .ref kp])), (tb, jaR g 10 (fun i => some (tr i))), (tr k, jaI g 253 (jrw n f))]) tyX5 0 0 C dX5_change_10 hin_X5_change_X5 tyX5_ok nmX5 rfl rfl (by decide) (List.mem_of_getElem? (i := 1) rfl) rfl (tyX5_ok 0 (by decide)) rfl rfl (Nat.le_of_ble_eq_true rfl) rfl ?_
  refine j_aload_n 0 C dX5_change_13 rfl rfl ?_
  refine j_get (Cn := RX5) (T := TX5) (N := 11) 0 0 C dX5_change_14 hin_X5_change_X5 rfl rfl (by decide) (List.mem_of_getElem? (i := 1) rfl) rfl ?_
  refine j_if_eq (tgt := 22) C dX5_change_17 (by decide) (fun c_1 => ?_) (fun c_1 => ?_)
  · skip
    refine j_aload_n 0 C dX5_change_22 rfl rfl ?_
    refine j_get (Cn := RX5) (T := TX5) (N := 11) 0 2 C dX5_change_23 hin_X5_change_X5 rfl rfl (by decide) (List.mem_of_getElem? (i := 2) rfl) rfl ?_
    refine j_iload_n 1 C dX5_change_26 rfl rfl ?_
    refine j_aldR (x := k) 1 C dX5_change_27 rfl rfl (by omega) (by decide) ?_
    refine j_eq (pc' := 28) (L' := [(0, .ref m0), (1, .int (nI k)), (2, .int 3), (3, .int (nI j)), (4, .int 0)]) (st' := [.ref (tr k)]) (ws' := [(m0, .inr (4, [.int 0, .int (nI N), .ref tb, .ref md, .ref rw0, .int sz, .ref cs, .ref va, .int lk, .ref rn, .ref kp])), (tb, jaR g 10 (fun i => some (tr i))), (tr k, jaI g 253 (jrw n f))]) ?_ rfl rfl rfl rfl
    refine j_iload_n 2 C dX5_change_28 rfl rfl ?_
    refine j_iload_n 3 C dX5_change_29 rfl rfl ?_
    refine j_iload 4 C dX5_change_30 rfl ?_
    refine j_callRi (v := jRT f j a) (j_runS (As := [.ref (tr k), .int 3, .int (nI j), .int 0]) (rest := []) [2] C (c_X5_why_3 l g (tr k) n f j a 0 (by omega) ha (by omega)) gX5_change_X5_why rfl rfl rfl hd_X5_why ⟨Nat.le_of_ble_eq_true rfl, Nat.le_of_ble_eq_true rfl⟩ rfl rfl dX5_change_32 rfl (Nat.le_of_ble_eq_true rfl) ⟨Nat.le_of_ble_eq_true rfl, Nat.le_of_ble_eq_true rfl⟩) ?_
    refine j_if_ne (tgt := 47) C dX5_change_35 (by decide) (fun c_2 => ?_) (fun c_2 => ?_)
    · skip
      refine j_aload_n 0 C dX5_change_47 rfl rfl ?_
      refine j_iconst (v := 3) C dX5_change_48 rfl ?_
      refine j_callWi [0] (fun _ => [(m0, .inr (4, [.int 3, .int (nI N), .ref tb, .ref md, .ref rw0, .int sz, .ref cs, .ref va, .int lk, .ref rn, .ref kp])), (tb, jaR g 10 (fun i => some (tr i))), (tr k, jaI g 253 (jrw n f))]) C (j_runV (ci := 0) (As := [.int 3]) (rest := []) [0] C (c_X5_fail l g m0 0 (nI N) tb md rw0 sz cs va lk rn kp 3) gX5_change_X5_fail rfl rfl rfl hd_X5_fail ⟨Nat.le_of_ble_eq_true rfl, Nat.le_of_ble_eq_true rfl⟩ rfl rfl rfl rfl dX5_change_49 rfl (Nat.le_of_ble_eq_true rfl) ⟨Nat.le_of_ble_eq_true rfl, Nat.le_of_ble_eq_true rfl⟩) rfl (fun _ => rfl) (fun _ => rfl) (fun z _ hz => ?_)
      subst hz
      exact j_iretW (v := 0) C hr dX5_change_52 () rfl rfl
    · skip
      (first | exact absurd c_2 (by decide) | exact absurd c_2 (by omega) | simp_all)
  · skip
    exact absurd c_1 (by decide)
set_option maxHeartbeats 4000000 in
set_option maxRecDepth 100000 in
theorem c_X5_change_f3 (l : Launch) (g : jG) (m0 : Nat) (th : Int32) (tb md rw0 : Nat) (sz : Int32) (cs va : Nat) (lk : Int32) (rn kp : Nat) (tr : Nat → Nat) (k n : Nat) (f : Nat → Int32) (j a : Nat) (hk : k < 10) (hj : j < n) (hn : n ≤ 8) (ha : f (j * 28 + 3) = nI a) (ha6 : a ≤ 6) (hz : jRT f j a = 0) : jWi l yX5_change wsX5_change ({ frames := 7, cells := 0, slots := 0, locals := 160 }) g [.ref m0, .int (nI k), .int 3, .int (nI j), .int 0] [(m0, .inr (4, [.int th, .int 10, .ref tb, .ref md, .ref rw0, .int sz, .ref cs, .ref va, .int lk, .ref rn, .ref kp])), (tb, jaR g 10 (fun i => some (tr i))), (tr k, jaI g 253 (jrw n f))] [(m0, .inr (4, [.int 3, .int 10, .ref tb, .ref md, .ref rw0, .int sz, .ref cs, .ref va, .int lk, .ref rn, .ref kp])), (tb, jaR g 10 (fun i => some (tr i))), (tr k, jaI g 253 (jrw n f))] 0 := by
  refine j_enterW (Qc := fun sz_ => va_Qi (fun r (_ : Unit) => r = 0) (fun _ t => va_P g.1 vwCl [(m0, .inr (4, [.int 3, .int 10, .ref tb, .ref md, .ref rw0, .int sz, .ref cs, .ref va, .int lk, .ref rn, .ref kp])), (tb, jaR g 10 (fun i => some (tr i))), (tr k, jaI g 253 (jrw n f))] t.heap) (va_A [(m0, .inr (4, [.int th, .int 10, .ref tb, .ref md, .ref rw0, .int sz, .ref cs, .ref va, .int lk, .ref rn, .ref kp])), (tb, jaR g 10 (fun i => some (tr i))), (tr k, jaI g 253 (jrw n f))] sz_)) (cc := cX5_change) (maxL := 5) (ret := (some .int)) (own := RX5) (L := [(0, .ref m0), (1, .int (nI k)), (2, .int 3), (3, .int (nI j)), (4, .int 0)]) (by decide) rfl rfl (Nat.le_of_ble_eq_true rfl) rfl (fun p e s m args below meth c C hr => ?_)
  refine j_aload_n 0 C dX5_change_0 rfl rfl ?_
  refine j_aload_n 0 C dX5_change_1 rfl rfl ?_
  refine j_iload_n 1 C dX5_change_2 rfl rfl ?_
  refine j_iload_n 2 C dX5_change_3 rfl rfl ?_
  refine j_iload_n 3 C dX5_change_4 rfl rfl ?_
  refine j_iload 4 C dX5_change_5 rfl ?_
  refine j_callRi (v := 0) (j_runV (ci := 0) (As := [.int (nI k), .int 3, .int (nI j), .int 0]) (rest := [.ref m0]) [0, 1, 2] C (c_X5_whyRange_3 l g m0 th 10 tb md rw0 sz cs va lk rn kp tr k n f j a (by omega) (by omega) (by omega) (by omega) ha (by omega)) gX5_change_X5_whyRange rfl rfl rfl hd_X5_whyRange ⟨Nat.le_of_ble_eq_true rfl, Nat.le_of_ble_eq_true rfl⟩ rfl rfl rfl rfl dX5_change_7 rfl (Nat.le_of_ble_eq_true rfl) ⟨Nat.le_of_ble_eq_true rfl, Nat.le_of_ble_eq_true rfl⟩) ?_
  refine j_put (Cn := RX5) (T := TX5) (N := 11) (ws' := [(m0, .inr (4, [.int 0, .int 10, .ref tb, .ref md, .ref rw0, .int sz, .ref cs, .ref va, .int lk, .ref rn, .ref kp])), (tb, jaR g 10 (fun i => some (tr i))), (tr k, jaI g 253 (jrw n f))]) tyX5 0 0 C dX5_change_10 hin_X5_change_X5 tyX5_ok nmX5 rfl rfl (by decide) (List.mem_of_getElem? (i := 1) rfl) rfl (tyX5_ok 0 (by decide)) rfl rfl (Nat.le_of_ble_eq_true rfl) rfl ?_
  refine j_aload_n 0 C dX5_change_13 rfl rfl ?_
  refine j_get (Cn := RX5) (T := TX5) (N := 11) 0 0 C dX5_change_14 hin_X5_change_X5 rfl rfl (by decide) (List.mem_of_getElem? (i := 1) rfl) rfl ?_
  refine j_if_eq (tgt := 22) C dX5_change_17 (by decide) (fun c_1 => ?_) (fun c_1 => ?_)
  · skip
    refine j_aload_n 0 C dX5_change_22 rfl rfl ?_
    refine j_get (Cn := RX5) (T := TX5) (N := 11) 0 2 C dX5_change_23 hin_X5_change_X5 rfl rfl (by decide) (List.mem_of_getElem? (i := 2) rfl) rfl ?_
    refine j_iload_n 1 C dX5_change_26 rfl rfl ?_
    refine j_aldR (x := k) 1 C dX5_change_27 rfl rfl (by omega) (by decide) ?_
    refine j_eq (pc' := 28) (L' := [(0, .ref m0), (1, .int (nI k)), (2, .int 3), (3, .int (nI j)), (4, .int 0)]) (st' := [.ref (tr k)]) (ws' := [(m0, .inr (4, [.int 0, .int 10, .ref tb, .ref md, .ref rw0, .int sz, .ref cs, .ref va, .int lk, .ref rn, .ref kp])), (tb, jaR g 10 (fun i => some (tr i))), (tr k, jaI g 253 (jrw n f))]) ?_ rfl rfl rfl rfl
    refine j_iload_n 2 C dX5_change_28 rfl rfl ?_
    refine j_iload_n 3 C dX5_change_29 rfl rfl ?_
    refine j_iload 4 C dX5_change_30 rfl ?_
    refine j_callRi (v := jRT f j a) (j_runS (As := [.ref (tr k), .int 3, .int (nI j), .int 0]) (rest := []) [2] C (c_X5_why_3 l g (tr k) n f j a 0 (by omega) ha (by omega)) gX5_change_X5_why rfl rfl rfl hd_X5_why ⟨Nat.le_of_ble_eq_true rfl, Nat.le_of_ble_eq_true rfl⟩ rfl rfl dX5_change_32 rfl (Nat.le_of_ble_eq_true rfl) ⟨Nat.le_of_ble_eq_true rfl, Nat.le_of_ble_eq_true rfl⟩) ?_
    refine j_if_ne (tgt := 47) C dX5_change_35 (by decide) (fun c_2 => ?_) (fun c_2 => ?_)
    · skip
      (first | exact absurd c_2 (by decide) | exact absurd c_2 (by omega) | simp_all)
    · skip
      refine j_aload_n 0 C dX5_change_38 rfl rfl ?_
      refine j_get (Cn := RX5) (T := TX5) (N := 11) 0 1 C dX5_change_39 hin_X5_change_X5 rfl rfl (by decide) (List.mem_of_getElem? (i := 3) rfl) rfl ?_
      refine j_bipush (v := 10) C dX5_change_42 rfl ?_
      refine j_icmp_ne (tgt := 53) C dX5_change_44 (by decide) (fun c_3 => ?_) (fun c_3 => ?_)
      · skip
        exact absurd c_3 (by decide)
      · skip
        refine j_aload_n 0 C dX5_change_47 rfl rfl ?_
        refine j_iconst (v := 3) C dX5_change_48 rfl ?_
        refine j_callWi [0] (fun _ => [(m0, .inr (4, [.int 3, .int 10, .ref tb, .ref md, .ref rw0, .int sz, .ref cs, .ref va, .int lk, .ref rn, .ref kp])), (tb, jaR g 10 (fun i => some (tr i))), (tr k, jaI g 253 (jrw n f))]) C (j_runV (ci := 0) (As := [.int 3]) (rest := []) [0] C (c_X5_fail l g m0 0 10 tb md rw0 sz cs va lk rn kp 3) gX5_change_X5_fail rfl rfl rfl hd_X5_fail ⟨Nat.le_of_ble_eq_true rfl, Nat.le_of_ble_eq_true rfl⟩ rfl rfl rfl rfl dX5_change_49 rfl (Nat.le_of_ble_eq_true rfl) ⟨Nat.le_of_ble_eq_true rfl, Nat.le_of_ble_eq_true rfl⟩) rfl (fun _ => rfl) (fun _ => rfl) (fun z _ hz => ?_)
        subst hz
        exact j_iretW (v := 0) C hr dX5_change_52 () rfl rfl
  · skip
    exact absurd c_1 (by decide)
set_option maxHeartbeats 4000000 in
set_option maxRecDepth 100000 in
theorem c_X5_change_3 (l : Launch) (g : jG) (m0 : Nat) (th : Int32) (N tb md rw0 : Nat) (sz : Int32) (cs va : Nat) (lk : Int32) (rn kp : Nat) (tr : Nat → Nat) (k n : Nat) (f : Nat → Int32) (n0 : Nat) (f0 : Nat → Int32) (n1 : Nat) (f1 : Nat → Int32) (j a : Nat) (hk : k < N) (hN : N < 10) (hj : j < n) (hn : n ≤ 8) (ha : f (j * 28 + 3) = nI a) (ha6 : a ≤ 6) (hz : jRT f j a = 0) : jWi l yX5_change wsX5_change ({ frames := 7, cells := 0, slots := 0, locals := 160 }) g [.ref m0, .int (nI k), .int 3, .int (nI j), .int 0] [(m0, .inr (4, [.int th, .int (nI N), .ref tb, .ref md, .ref rw0, .int sz, .ref cs, .ref va, .int lk, .ref rn, .ref kp])), (tb, jaR g 10 (fun i => some (tr i))), (tr k, jaI g 253 (jrw n f)), (md, jaI g 253 (jrw n0 f0)), (tr N, jaI g 253 (jrw n1 f1))] [(m0, .inr (4, [.int 0, .int (nI (N + 1)), .ref tb, .ref md, .ref rw0, .int sz, .ref cs, .ref va, .int lk, .ref rn, .ref kp])), (tb, jaR g 10 (fun i => some (tr i))), (tr k, jaI g 253 (jrw n f)), (md, jaI g 253 (jrw n (upd f (j * 28 + 2) (1 - f (j * 28 + 2))))), (tr N, jaI g 253 (jrw n (upd f (j * 28 + 2) (1 - f (j * 28 + 2)))))] (nI N) := by
  refine j_enterW (Qc := fun sz_ => va_Qi (fun r (_ : Unit) => r = nI N) (fun _ t => va_P g.1 vwCl [(m0, .inr (4, [.int 0, .int (nI (N + 1)), .ref tb, .ref md, .ref rw0, .int sz, .ref cs, .ref va, .int lk, .ref rn, .ref kp])), (tb, jaR g 10 (fun i => some (tr i))), (tr k, jaI g 253 (jrw n f)), (md, jaI g 253 (jrw n (upd f (j * 28 + 2) (1 - f (j * 28 + 2))))), (tr N, jaI g 253 (jrw n (upd f (j * 28 + 2) (1 - f (j * 28 + 2)))))] t.heap) (va_A [(m0, .inr (4, [.int th, .int (nI N), .ref tb, .ref md, .ref rw0, .int sz, .ref cs, .ref va, .int lk, .ref rn, .ref kp])), (tb, jaR g 10 (fun i => some (tr i))), (tr k, jaI g 253 (jrw n f)), (md, jaI g 253 (jrw n0 f0)), (tr N, jaI g 253 (jrw n1 f1))] sz_)) (cc := cX5_change) (maxL := 5) (ret := (some .int)) (own := RX5) (L := [(0, .ref m0), (1, .int (nI k)), (2, .int 3), (3, .int (nI j)), (4, .int 0)]) (by decide) rfl rfl (Nat.le_of_ble_eq_true rfl) rfl (fun p e s m args below meth c C hr => ?_)
  refine j_aload_n 0 C dX5_change_0 rfl rfl ?_
  refine j_aload_n 0 C dX5_change_1 rfl rfl ?_
  refine j_iload_n 1 C dX5_change_2 rfl rfl ?_
  refine j_iload_n 2 C dX5_change_3 rfl rfl ?_
  refine j_iload_n 3 C dX5_change_4 rfl rfl ?_
  refine j_iload 4 C dX5_change_5 rfl ?_
  refine j_callRi (v := 0) (j_runV (ci := 0) (As := [.int (nI k), .int 3, .int (nI j), .int 0]) (rest := [.ref m0]) [0, 1, 2] C (c_X5_whyRange_3 l g m0 th N tb md rw0 sz cs va lk rn kp tr k n f j a (by omega) (by omega) (by omega) (by omega) ha (by omega)) gX5_change_X5_whyRange rfl rfl rfl hd_X5_whyRange ⟨Nat.le_of_ble_eq_true rfl, Nat.le_of_ble_eq_true rfl⟩ rfl rfl rfl rfl dX5_change_7 rfl (Nat.le_of_ble_eq_true rfl) ⟨Nat.le_of_ble_eq_true rfl, Nat.le_of_ble_eq_true rfl⟩) ?_
  refine j_put (Cn := RX5) (T := TX5) (N := 11) (ws' := [(m0, .inr (4, [.int 0, .int (nI N), .ref tb, .ref md, .ref rw0, .int sz, .ref cs, .ref va, .int lk, .ref rn, .ref kp])), (tb, jaR g 10 (fun i => some (tr i))), (tr k, jaI g 253 (jrw n f)), (md, jaI g 253 (jrw n0 f0)), (tr N, jaI g 253 (jrw n1 f1))]) tyX5 0 0 C dX5_change_10 hin_X5_change_X5 tyX5_ok nmX5 rfl rfl (by decide) (List.mem_of_getElem? (i := 1) rfl) rfl (tyX5_ok 0 (by decide)) rfl rfl (Nat.le_of_ble_eq_true rfl) rfl ?_
  refine j_aload_n 0 C dX5_change_13 rfl rfl ?_
  refine j_get (Cn := RX5) (T := TX5) (N := 11) 0 0 C dX5_change_14 hin_X5_change_X5 rfl rfl (by decide) (List.mem_of_getElem? (i := 1) rfl) rfl ?_
  refine j_if_eq (tgt := 22) C dX5_change_17 (by decide) (fun c_1 => ?_) (fun c_1 => ?_)
  · skip
    refine j_aload_n 0 C dX5_change_22 rfl rfl ?_
    refine j_get (Cn := RX5) (T := TX5) (N := 11) 0 2 C dX5_change_23 hin_X5_change_X5 rfl rfl (by decide) (List.mem_of_getElem? (i := 2) rfl) rfl ?_
    refine j_iload_n 1 C dX5_change_26 rfl rfl ?_
    refine j_aldR (x := k) 1 C dX5_change_27 rfl rfl (by omega) (by decide) ?_
    refine j_eq (pc' := 28) (L' := [(0, .ref m0), (1, .int (nI k)), (2, .int 3), (3, .int (nI j)), (4, .int 0)]) (st' := [.ref (tr k)]) (ws' := [(m0, .inr (4, [.int 0, .int (nI N), .ref tb, .ref md, .ref rw0, .int sz, .ref cs, .ref va, .int lk, .ref rn, .ref kp])), (tb, jaR g 10 (fun i => some (tr i))), (tr k, jaI g 253 (jrw n f)), (md, jaI g 253 (jrw n0 f0)), (tr N, jaI g 253 (jrw n1 f1))]) ?_ rfl rfl rfl rfl
    refine j_iload_n 2 C dX5_change_28 rfl rfl ?_
    refine j_iload_n 3 C dX5_change_29 rfl rfl ?_
    refine j_iload 4 C dX5_change_30 rfl ?_
    refine j_callRi (v := jRT f j a) (j_runS (As := [.ref (tr k), .int 3, .int (nI j), .int 0]) (rest := []) [2] C (c_X5_why_3 l g (tr k) n f j a 0 (by omega) ha (by omega)) gX5_change_X5_why rfl rfl rfl hd_X5_why ⟨Nat.le_of_ble_eq_true rfl, Nat.le_of_ble_eq_true rfl⟩ rfl rfl dX5_change_32 rfl (Nat.le_of_ble_eq_true rfl) ⟨Nat.le_of_ble_eq_true rfl, Nat.le_of_ble_eq_true rfl⟩) ?_
    refine j_if_ne (tgt := 47) C dX5_change_35 (by decide) (fun c_2 => ?_) (fun c_2 => ?_)
    · skip
      (first | exact absurd c_2 (by decide) | exact absurd c_2 (by omega) | simp_all)
    · skip
      refine j_aload_n 0 C dX5_change_38 rfl rfl ?_
      refine j_get (Cn := RX5) (T := TX5) (N := 11) 0 1 C dX5_change_39 hin_X5_change_X5 rfl rfl (by decide) (List.mem_of_getElem? (i := 3) rfl) rfl ?_
      refine j_bipush (v := 10) C dX5_change_42 rfl ?_
      refine j_icmp_ne (tgt := 53) C dX5_change_44 (by decide) (fun c_3 => ?_) (fun c_3 => ?_)
      · skip
        have c_3 : ¬ N = 10 := fun z => c_3 ((nI_eq (a := N) (b := 10) (by omega) (by omega)).mpr z)
        refine j_aload_n 0 C dX5_change_53 rfl rfl ?_
        refine j_get (Cn := RX5) (T := TX5) (N := 11) 0 2 C dX5_change_54 hin_X5_change_X5 rfl rfl (by decide) (List.mem_of_getElem? (i := 2) rfl) rfl ?_
        refine j_iload_n 1 C dX5_change_57 rfl rfl ?_
        refine j_aldR (x := k) 1 C dX5_change_58 rfl rfl (by omega) (by decide) ?_
        refine j_eq (pc' := 59) (L' := [(0, .ref m0), (1, .int (nI k)), (2, .int 3), (3, .int (nI j)), (4, .int 0)]) (st' := [.ref (tr k)]) (ws' := [(m0, .inr (4, [.int 0, .int (nI N), .ref tb, .ref md, .ref rw0, .int sz, .ref cs, .ref va, .int lk, .ref rn, .ref kp])), (tb, jaR g 10 (fun i => some (tr i))), (tr k, jaI g 253 (jrw n f)), (md, jaI g 253 (jrw n0 f0)), (tr N, jaI g 253 (jrw n1 f1))]) ?_ rfl rfl rfl rfl
        refine j_iconst (v := 0) C dX5_change_59 rfl ?_
        refine j_aload_n 0 C dX5_change_60 rfl rfl ?_
        refine j_get (Cn := RX5) (T := TX5) (N := 11) 0 3 C dX5_change_61 hin_X5_change_X5 rfl rfl (by decide) (List.mem_of_getElem? (i := 4) rfl) rfl ?_
        refine j_iconst (v := 0) C dX5_change_64 rfl ?_
        refine j_sipush (v := 253) C dX5_change_65 rfl ?_
        refine j_copyI (sp := 0) (dp := 0) (n := 253) (rest := []) (ws' := [(m0, .inr (4, [.int 0, .int (nI N), .ref tb, .ref md, .ref rw0, .int sz, .ref cs, .ref va, .int lk, .ref rn, .ref kp])), (tb, jaR g 10 (fun i => some (tr i))), (tr k, jaI g 253 (jrw n f)), (md, jaI g 253 (va_cpy (jrw n f) (jrw n0 f0) 0 0 253)), (tr N, jaI g 253 (jrw n1 f1))]) 2 3 C dX5_change_68 (List.mem_of_getElem? (i := 5) rfl) (List.mem_of_getElem? (i := 6) rfl) (List.mem_of_getElem? (i := 7) rfl) (List.mem_of_getElem? (i := 8) rfl) rfl rfl rfl rfl rfl (by omega) (by omega) (by decide) (by decide) (Nat.le_of_ble_eq_true rfl) (Nat.le_of_ble_eq_true rfl) rfl ?_
        refine j_arrI (f' := jrw n f) (ws' := [(m0, .inr (4, [.int 0, .int (nI N), .ref tb, .ref md, .ref rw0, .int sz, .ref cs, .ref va, .int lk, .ref rn, .ref kp])), (tb, jaR g 10 (fun i => some (tr i))), (tr k, jaI g 253 (jrw n f)), (md, jaI g 253 (jrw n f)), (tr N, jaI g 253 (jrw n1 f1))]) 3 rfl (fun i hi => jcp_all hi) rfl ?_
        refine j_aload_n 0 C dX5_change_71 rfl rfl ?_
        refine j_iload_n 2 C dX5_change_72 rfl rfl ?_
        refine j_iload_n 3 C dX5_change_73 rfl rfl ?_
        refine j_iload 4 C dX5_change_74 rfl ?_
        refine j_callWv [0, 3] (fun _ => [(m0, .inr (4, [.int 0, .int (nI N), .ref tb, .ref md, .ref rw0, .int sz, .ref cs, .ref va, .int lk, .ref rn, .ref kp])), (tb, jaR g 10 (fun i => some (tr i))), (tr k, jaI g 253 (jrw n f)), (md, jaI g 253 (jrw n (upd f (j * 28 + 2) (1 - f (j * 28 + 2))))), (tr N, jaI g 253 (jrw n1 f1))]) C (j_runV (ci := 0) (As := [.int 3, .int (nI j), .int 0]) (rest := []) [0, 3] C (c_X5_make_3 l g m0 0 (nI N) tb md rw0 sz cs va lk rn kp n f j 0 (by omega)) gX5_change_X5_make rfl rfl rfl hd_X5_make ⟨Nat.le_of_ble_eq_true rfl, Nat.le_of_ble_eq_true rfl⟩ rfl rfl rfl rfl dX5_change_76 rfl (Nat.le_of_ble_eq_true rfl) ⟨Nat.le_of_ble_eq_true rfl, Nat.le_of_ble_eq_true rfl⟩) rfl (fun _ => rfl) (fun _ => rfl) (fun _ _ => ?_)
        refine j_aload_n 0 C dX5_change_79 rfl rfl ?_
        refine j_get (Cn := RX5) (T := TX5) (N := 11) 0 3 C dX5_change_80 hin_X5_change_X5 rfl rfl (by decide) (List.mem_of_getElem? (i := 4) rfl) rfl ?_
        refine j_iconst (v := 0) C dX5_change_83 rfl ?_
        refine j_aload_n 0 C dX5_change_84 rfl rfl ?_
        refine j_get (Cn := RX5) (T := TX5) (N := 11) 0 2 C dX5_change_85 hin_X5_change_X5 rfl rfl (by decide) (List.mem_of_getElem? (i := 2) rfl) rfl ?_
        refine j_aload_n 0 C dX5_change_88 rfl rfl ?_
        refine j_get (Cn := RX5) (T := TX5) (N := 11) 0 1 C dX5_change_89 hin_X5_change_X5 rfl rfl (by decide) (List.mem_of_getElem? (i := 3) rfl) rfl ?_
        refine j_aldR (x := N) 1 C dX5_change_92 rfl rfl (by omega) (by decide) ?_
        refine j_eq (pc' := 93) (L' := [(0, .ref m0), (1, .int (nI k)), (2, .int 3), (3, .int (nI j)), (4, .int 0)]) (st' := [.ref (tr N), .int 0, .ref md]) (ws' := [(m0, .inr (4, [.int 0, .int (nI N), .ref tb, .ref md, .ref rw0, .int sz, .ref cs, .ref va, .int lk, .ref rn, .ref kp])), (tb, jaR g 10 (fun i => some (tr i))), (tr k, jaI g 253 (jrw n f)), (md, jaI g 253 (jrw n (upd f (j * 28 + 2) (1 - f (j * 28 + 2))))), (tr N, jaI g 253 (jrw n1 f1))]) ?_ rfl rfl rfl rfl
        refine j_iconst (v := 0) C dX5_change_93 rfl ?_
        refine j_sipush (v := 253) C dX5_change_94 rfl ?_
        refine j_copyI (sp := 0) (dp := 0) (n := 253) (rest := []) (ws' := [(m0, .inr (4, [.int 0, .int (nI N), .ref tb, .ref md, .ref rw0, .int sz, .ref cs, .ref va, .int lk, .ref rn, .ref kp])), (tb, jaR g 10 (fun i => some (tr i))), (tr k, jaI g 253 (jrw n f)), (md, jaI g 253 (jrw n (upd f (j * 28 + 2) (1 - f (j * 28 + 2))))), (tr N, jaI g 253 (va_cpy (jrw n (upd f (j * 28 + 2) (1 - f (j * 28 + 2)))) (jrw n1 f1) 0 0 253))]) 3 4 C dX5_change_97 (List.mem_of_getElem? (i := 5) rfl) (List.mem_of_getElem? (i := 6) rfl) (List.mem_of_getElem? (i := 7) rfl) (List.mem_of_getElem? (i := 8) rfl) rfl rfl rfl rfl rfl (by omega) (by omega) (by decide) (by decide) (Nat.le_of_ble_eq_true rfl) (Nat.le_of_ble_eq_true rfl) rfl ?_
        refine j_arrI (f' := (jrw n (upd f (j * 28 + 2) (1 - f (j * 28 + 2))))) (ws' := [(m0, .inr (4, [.int 0, .int (nI N), .ref tb, .ref md, .ref rw0, .int sz, .ref cs, .ref va, .int lk, .ref rn, .ref kp])), (tb, jaR g 10 (fun i => some (tr i))), (tr k, jaI g 253 (jrw n f)), (md, jaI g 253 (jrw n (upd f (j * 28 + 2) (1 - f (j * 28 + 2))))), (tr N, jaI g 253 (jrw n (upd f (j * 28 + 2) (1 - f (j * 28 + 2)))))]) 4 rfl (fun i hi => jcp_all hi) rfl ?_
        refine j_aload_n 0 C dX5_change_100 rfl rfl ?_
        refine j_dup C dX5_change_101 rfl ?_
        refine j_get (Cn := RX5) (T := TX5) (N := 11) 0 1 C dX5_change_102 hin_X5_change_X5 rfl rfl (by decide) (List.mem_of_getElem? (i := 3) rfl) rfl ?_
        refine j_iconst (v := 1) C dX5_change_105 rfl ?_
        refine j_iadd (x := nI N) (y := 1) (v := nI (N + 1)) C dX5_change_106 (nI_add N 1) ?_
        refine j_put (Cn := RX5) (T := TX5) (N := 11) (ws' := [(m0, .inr (4, [.int 0, .int (nI (N + 1)), .ref tb, .ref md, .ref rw0, .int sz, .ref cs, .ref va, .int lk, .ref rn, .ref kp])), (tb, jaR g 10 (fun i => some (tr i))), (tr k, jaI g 253 (jrw n f)), (md, jaI g 253 (jrw n (upd f (j * 28 + 2) (1 - f (j * 28 + 2))))), (tr N, jaI g 253 (jrw n (upd f (j * 28 + 2) (1 - f (j * 28 + 2)))))]) tyX5 0 1 C dX5_change_107 hin_X5_change_X5 tyX5_ok nmX5 rfl rfl (by decide) (List.mem_of_getElem? (i := 3) rfl) rfl (tyX5_ok 1 (by decide)) rfl rfl (Nat.le_of_ble_eq_true rfl) rfl ?_
        refine j_aload_n 0 C dX5_change_110 rfl rfl ?_
        refine j_get (Cn := RX5) (T := TX5) (N := 11) 0 1 C dX5_change_111 hin_X5_change_X5 rfl rfl (by decide) (List.mem_of_getElem? (i := 3) rfl) rfl ?_
        refine j_iconst (v := 1) C dX5_change_114 rfl ?_
        refine j_isub (x := nI (N + 1)) (y := 1) (v := nI ((N + 1) - 1)) C dX5_change_115 (pk_sub (a := N + 1) (b := 1) (by omega)) ?_
        exact j_iretW (v := nI ((N + 1) - 1)) C hr dX5_change_116 () (by rfl) rfl
      · skip
        have c_3 : N = 10 := (nI_eq (a := N) (b := 10) (by omega) (by omega)).mp c_3
        exact absurd c_3 (by omega)
  · skip
    exact absurd c_1 (by decide)
set_option maxHeartbeats 4000000 in
set_option maxRecDepth 100000 in
theorem c_X5_reason_4 (l : Launch) (g : jG) (m0 : Nat) (th : Int32) (N tb md rw0 : Nat) (sz : Int32) (cs va : Nat) (lk : Int32) (rn kp : Nat) (tr : Nat → Nat) (k n : Nat) (f : Nat → Int32) (j a b : Nat) (hk : k < N) (hN : N ≤ 10) (hj : j + 1 < n) (hn : n ≤ 8) (ha : f (j * 28 + 3) = nI a) (ha6 : a ≤ 6) (hb : f ((j + 1) * 28 + 3) = nI b) (hb6 : b ≤ 6) : jWi l yX5_reason wsX5_reason ({ frames := 7, cells := 0, slots := 0, locals := 157 }) g [.ref m0, .int (nI k), .int 4, .int (nI j), .int 0] [(m0, .inr (4, [.int th, .int (nI N), .ref tb, .ref md, .ref rw0, .int sz, .ref cs, .ref va, .int lk, .ref rn, .ref kp])), (tb, jaR g 10 (fun i => some (tr i))), (tr k, jaI g 253 (jrw n f))] [(m0, .inr (4, [.int 0, .int (nI N), .ref tb, .ref md, .ref rw0, .int sz, .ref cs, .ref va, .int lk, .ref rn, .ref kp])), (tb, jaR g 10 (fun i => some (tr i))), (tr k, jaI g 253 (jrw n f))] (jRS f j a b) := by
  refine j_enterW (Qc := fun sz_ => va_Qi (fun r (_ : Unit) => r = jRS f j a b) (fun _ t => va_P g.1 vwCl [(m0, .inr (4, [.int 0, .int (nI N), .ref tb, .ref md, .ref rw0, .int sz, .ref cs, .ref va, .int lk, .ref rn, .ref kp])), (tb, jaR g 10 (fun i => some (tr i))), (tr k, jaI g 253 (jrw n f))] t.heap) (va_A [(m0, .inr (4, [.int th, .int (nI N), .ref tb, .ref md, .ref rw0, .int sz, .ref cs, .ref va, .int lk, .ref rn, .ref kp])), (tb, jaR g 10 (fun i => some (tr i))), (tr k, jaI g 253 (jrw n f))] sz_)) (cc := cX5_reason) (maxL := 5) (ret := (some .int)) (own := RX5) (L := [(0, .ref m0), (1, .int (nI k)), (2, .int 4), (3, .int (nI j)), (4, .int 0)]) (by decide) rfl rfl (Nat.le_of_ble_eq_true rfl) rfl (fun p e s m args below meth c C hr => ?_)
  refine j_aload_n 0 C dX5_reason_0 rfl rfl ?_
  refine j_aload_n 0 C dX5_reason_1 rfl rfl ?_
  refine j_iload_n 1 C dX5_reason_2 rfl rfl ?_
  refine j_iload_n 2 C dX5_reason_3 rfl rfl ?_
  refine j_iload_n 3 C dX5_reason_4 rfl rfl ?_
  refine j_iload 4 C dX5_reason_5 rfl ?_
  refine j_callRi (v := 0) (j_runV (ci := 0) (As := [.int (nI k), .int 4, .int (nI j), .int 0]) (rest := [.ref m0]) [0, 1, 2] C (c_X5_whyRange_4 l g m0 th N tb md rw0 sz cs va lk rn kp tr k n f j a b (by omega) (by omega) (by omega) (by omega) ha (by omega) hb (by omega)) gX5_reason_X5_whyRange rfl rfl rfl hd_X5_whyRange ⟨Nat.le_of_ble_eq_true rfl, Nat.le_of_ble_eq_true rfl⟩ rfl rfl rfl rfl dX5_reason_7 rfl (Nat.le_of_ble_eq_true rfl) ⟨Nat.le_of_ble_eq_true rfl, Nat.le_of_ble_eq_true rfl⟩) ?_
  refine j_put (Cn := RX5) (T := TX5) (N := 11) (ws' := [(m0, .inr (4, [.int 0, .int (nI N), .ref tb, .ref md, .ref rw0, .int sz, .ref cs, .ref va, .int lk, .ref rn, .ref kp])), (tb, jaR g 10 (fun i => some (tr i))), (tr k, jaI g 253 (jrw n f))]) tyX5 0 0 C dX5_reason_10 hin_X5_reason_X5 tyX5_ok nmX5 rfl rfl (by decide) (List.mem_of_getElem? (i := 1) rfl) rfl (tyX5_ok 0 (by decide)) rfl rfl (Nat.le_of_ble_eq_true rfl) rfl ?_
  refine j_aload_n 0 C dX5_reason_13 rfl rfl ?_
  refine j_get (Cn := RX5) (T := TX5) (N := 11) 0 0 C dX5_reason_14 hin_X5_reason_X5 rfl rfl (by decide) (List.mem_of_getElem? (i := 1) rfl) rfl ?_
  refine j_if_ne (tgt := 36) C dX5_reason_17 (by decide) (fun c_1 => ?_) (fun c_1 => ?_)
  · skip
    exact absurd c_1 (by decide)
  · skip
    refine j_aload_n 0 C dX5_reason_20 rfl rfl ?_
    refine j_get (Cn := RX5) (T := TX5) (N := 11) 0 2 C dX5_reason_21 hin_X5_reason_X5 rfl rfl (by decide) (List.mem_of_getElem? (i := 2) rfl) rfl ?_
    refine j_iload_n 1 C dX5_reason_24 rfl rfl ?_
    refine j_aldR (x := k) 1 C dX5_reason_25 rfl rfl (by omega) (by decide) ?_
    refine j_eq (pc' := 26) (L' := [(0, .ref m0), (1, .int (nI k)), (2, .int 4), (3, .int (nI j)), (4, .int 0)]) (st' := [.ref (tr k)]) (ws' := [(m0, .inr (4, [.int 0, .int (nI N), .ref tb, .ref md, .ref rw0, .int sz, .ref cs, .ref va, .int lk, .ref rn, .ref kp])), (tb, jaR g 10 (fun i => some (tr i))), (tr k, jaI g 253 (jrw n f))]) ?_ rfl rfl rfl rfl
    refine j_iload_n 2 C dX5_reason_26 rfl rfl ?_
    refine j_iload_n 3 C dX5_reason_27 rfl rfl ?_
    refine j_iload 4 C dX5_reason_28 rfl ?_
    refine j_callRi (v := jRS f j a b) (j_runS (As := [.ref (tr k), .int 4, .int (nI j), .int 0]) (rest := []) [2] C (c_X5_why_4 l g (tr k) n f j a b 0 (by omega) ha (by omega) hb (by omega)) gX5_reason_X5_why rfl rfl rfl hd_X5_why ⟨Nat.le_of_ble_eq_true rfl, Nat.le_of_ble_eq_true rfl⟩ rfl rfl dX5_reason_30 rfl (Nat.le_of_ble_eq_true rfl) ⟨Nat.le_of_ble_eq_true rfl, Nat.le_of_ble_eq_true rfl⟩) ?_
    refine j_goto (tgt := 37) C dX5_reason_33 (by decide) ?_
    exact j_iretW (v := jRS f j a b) C hr dX5_reason_37 () rfl rfl
set_option maxHeartbeats 4000000 in
set_option maxRecDepth 100000 in
theorem c_X5_change_r4 (l : Launch) (g : jG) (m0 : Nat) (th : Int32) (N tb md rw0 : Nat) (sz : Int32) (cs va : Nat) (lk : Int32) (rn kp : Nat) (tr : Nat → Nat) (k n : Nat) (f : Nat → Int32) (j a b : Nat) (hk : k < N) (hN : N ≤ 10) (hj : j + 1 < n) (hn : n ≤ 8) (ha : f (j * 28 + 3) = nI a) (ha6 : a ≤ 6) (hb : f ((j + 1) * 28 + 3) = nI b) (hb6 : b ≤ 6) (hz : ¬ jRS f j a b = 0) : jWi l yX5_change wsX5_change ({ frames := 7, cells := 0, slots := 0, locals := 157 }) g [.ref m0, .int (nI k), .int 4, .int (nI j), .int 0] [(m0, .inr (4, [.int th, .int (nI N), .ref tb, .ref md, .ref rw0, .int sz, .ref cs, .ref va, .int lk, .ref rn, .ref kp])), (tb, jaR g 10 (fun i => some (tr i))), (tr k, jaI g 253 (jrw n f))] [(m0, .inr (4, [.int 3, .int (nI N), .ref tb, .ref md, .ref rw0, .int sz, .ref cs, .ref va, .int lk, .ref rn, .ref kp])), (tb, jaR g 10 (fun i => some (tr i))), (tr k, jaI g 253 (jrw n f))] 0 := by
  refine j_enterW (Qc := fun sz_ => va_Qi (fun r (_ : Unit) => r = 0) (fun _ t => va_P g.1 vwCl [(m0, .inr (4, [.int 3, .int (nI N), .ref tb, .ref md, .ref rw0, .int sz, .ref cs, .ref va, .int lk, .ref rn, .ref kp])), (tb, jaR g 10 (fun i => some (tr i))), (tr k, jaI g 253 (jrw n f))] t.heap) (va_A [(m0, .inr (4, [.int th, .int (nI N), .ref tb, .ref md, .ref rw0, .int sz, .ref cs, .ref va, .int lk, .ref rn, .ref kp])), (tb, jaR g 10 (fun i => some (tr i))), (tr k, jaI g 253 (jrw n f))] sz_)) (cc := cX5_change) (maxL := 5) (ret := (some .int)) (own := RX5) (L := [(0, .ref m0), (1, .int (nI k)), (2, .int 4), (3, .int (nI j)), (4, .int 0)]) (by decide) rfl rfl (Nat.le_of_ble_eq_true rfl) rfl (fun p e s m args below meth c C hr => ?_)
  refine j_aload_n 0 C dX5_change_0 rfl rfl ?_
  refine j_aload_n 0 C dX5_change_1 rfl rfl ?_
  refine j_iload_n 1 C dX5_change_2 rfl rfl ?_
  refine j_iload_n 2 C dX5_change_3 rfl rfl ?_
  refine j_iload_n 3 C dX5_change_4 rfl rfl ?_
  refine j_iload 4 C dX5_change_5 rfl ?_
  refine j_callRi (v := 0) (j_runV (ci := 0) (As := [.int (nI k), .int 4, .int (nI j), .int 0]) (rest := [.ref m0]) [0, 1, 2] C (c_X5_whyRange_4 l g m0 th N tb md rw0 sz cs va lk rn kp tr k n f j a b (by omega) (by omega) (by omega) (by omega) ha (by omega) hb (by omega)) gX5_change_X5_whyRange rfl rfl rfl hd_X5_whyRange ⟨Nat.le_of_ble_eq_true rfl, Nat.le_of_ble_eq_true rfl⟩ rfl rfl rfl rfl dX5_change_7 rfl (Nat.le_of_ble_eq_true rfl) ⟨Nat.le_of_ble_eq_true rfl, Nat.le_of_ble_eq_true rfl⟩) ?_
  refine j_put (Cn := RX5) (T := TX5) (N := 11) (ws' := [(m0, .inr (4, [.int 0, .int (nI N), .ref tb, .ref md, .ref rw0, .int sz, .ref cs, .ref va, .int lk, .ref rn, .ref kp])), (tb, jaR g 10 (fun i => some (tr i))), (tr k, jaI g 253 (jrw n f))]) tyX5 0 0 C dX5_change_10 hin_X5_change_X5 tyX5_ok nmX5 rfl rfl (by decide) (List.mem_of_getElem? (i := 1) rfl) rfl (tyX5_ok 0 (by decide)) rfl rfl (Nat.le_of_ble_eq_true rfl) rfl ?_
  refine j_aload_n 0 C dX5_change_13 rfl rfl ?_
  refine j_get (Cn := RX5) (T := TX5) (N := 11) 0 0 C dX5_change_14 hin_X5_change_X5 rfl rfl (by decide) (List.mem_of_getElem? (i := 1) rfl) rfl ?_
  refine j_if_eq (tgt := 22) C dX5_change_17 (by decide) (fun c_1 => ?_) (fun c_1 => ?_)
  · skip
    refine j_aload_n 0 C dX5_change_22 rfl rfl ?_
    refine j_get (Cn := RX5) (T := TX5) (N := 11) 0 2 C dX5_change_23 hin_X5_change_X5 rfl rfl (by decide) (List.mem_of_getElem? (i := 2) rfl) rfl ?_
    refine j_iload_n 1 C dX5_change_26 rfl rfl ?_
    refine j_aldR (x := k) 1 C dX5_change_27 rfl rfl (by omega) (by decide) ?_
    refine j_eq (pc' := 28) (L' := [(0, .ref m0), (1, .int (nI k)), (2, .int 4), (3, .int (nI j)), (4, .int 0)]) (st' := [.ref (tr k)]) (ws' := [(m0, .inr (4, [.int 0, .int (nI N), .ref tb, .ref md, .ref rw0, .int sz, .ref cs, .ref va, .int lk, .ref rn, .ref kp])), (tb, jaR g 10 (fun i => some (tr i))), (tr k, jaI g 253 (jrw n f))]) ?_ rfl rfl rfl rfl
    refine j_iload_n 2 C dX5_change_28 rfl rfl ?_
    refine j_iload_n 3 C dX5_change_29 rfl rfl ?_
    refine j_iload 4 C dX5_change_30 rfl ?_
    refine j_callRi (v := jRS f j a b) (j_runS (As := [.ref (tr k), .int 4, .int (nI j), .int 0]) (rest := []) [2] C (c_X5_why_4 l g (tr k) n f j a b 0 (by omega) ha (by omega) hb (by omega)) gX5_change_X5_why rfl rfl rfl hd_X5_why ⟨Nat.le_of_ble_eq_true rfl, Nat.le_of_ble_eq_true rfl⟩ rfl rfl dX5_change_32 rfl (Nat.le_of_ble_eq_true rfl) ⟨Nat.le_of_ble_eq_true rfl, Nat.le_of_ble_eq_true rfl⟩) ?_
    refine j_if_ne (tgt := 47) C dX5_change_35 (by decide) (fun c_2 => ?_) (fun c_2 => ?_)
    · skip
      refine j_aload_n 0 C dX5_change_47 rfl rfl ?_
      refine j_iconst (v := 3) C dX5_change_48 rfl ?_
      refine j_callWi [0] (fun _ => [(m0, .inr (4, [.int 3, .int (nI N), .ref tb, .ref md, .ref rw0, .int sz, .ref cs, .ref va, .int lk, .ref rn, .ref kp])), (tb, jaR g 10 (fun i => some (tr i))), (tr k, jaI g 253 (jrw n f))]) C (j_runV (ci := 0) (As := [.int 3]) (rest := []) [0] C (c_X5_fail l g m0 0 (nI N) tb md rw0 sz cs va lk rn kp 3) gX5_change_X5_fail rfl rfl rfl hd_X5_fail ⟨Nat.le_of_ble_eq_true rfl, Nat.le_of_ble_eq_true rfl⟩ rfl rfl rfl rfl dX5_change_49 rfl (Nat.le_of_ble_eq_true rfl) ⟨Nat.le_of_ble_eq_true rfl, Nat.le_of_ble_eq_true rfl⟩) rfl (fun _ => rfl) (fun _ => rfl) (fun z _ hz => ?_)
      subst hz
      exact j_iretW (v := 0) C hr dX5_change_52 () rfl rfl
    · skip
      (first | exact absurd c_2 (by decide) | exact absurd c_2 (by omega) | simp_all)
  · skip
    exact absurd c_1 (by decide)
set_option maxHeartbeats 4000000 in
set_option maxRecDepth 100000 in
theorem c_X5_change_f4 (l : Launch) (g : jG) (m0 : Nat) (th : Int32) (tb md rw0 : Nat) (sz : Int32) (cs va : Nat) (lk : Int32) (rn kp : Nat) (tr : Nat → Nat) (k n : Nat) (f : Nat → Int32) (j a b : Nat) (hk : k < 10) (hj : j + 1 < n) (hn : n ≤ 8) (ha : f (j * 28 + 3) = nI a) (ha6 : a ≤ 6) (hb : f ((j + 1) * 28 + 3) = nI b) (hb6 : b ≤ 6) (hz : jRS f j a b = 0) : jWi l yX5_change wsX5_change ({ frames := 7, cells := 0, slots := 0, locals := 157 }) g [.ref m0, .int (nI k), .int 4, .int (nI j), .int 0] [(m0, .inr (4, [.int th, .int 10, .ref tb, .ref md, .ref rw0, .int sz, .ref cs, .ref va, .int lk, .ref rn, .ref kp])), (tb, jaR g 10 (fun i => some (tr i))), (tr k, jaI g 253 (jrw n f))] [(m0, .inr (4, [.int 3, .int 10, .ref tb, .ref md, .ref rw0, .int sz, .ref cs, .ref va, .int lk, .ref rn, .ref kp])), (tb, jaR g 10 (fun i => some (tr i))), (tr k, jaI g 253 (jrw n f))] 0 := by
  refine j_enterW (Qc := fun sz_ => va_Qi (fun r (_ : Unit) => r = 0) (fun _ t => va_P g.1 vwCl [(m0, .inr (4, [.int 3, .int 10, .ref tb, .ref md, .ref rw0, .int sz, .ref cs, .ref va, .int lk, .ref rn, .ref kp])), (tb, jaR g 10 (fun i => some (tr i))), (tr k, jaI g 253 (jrw n f))] t.heap) (va_A [(m0, .inr (4, [.int th, .int 10, .ref tb, .ref md, .ref rw0, .int sz, .ref cs, .ref va, .int lk, .ref rn, .ref kp])), (tb, jaR g 10 (fun i => some (tr i))), (tr k, jaI g 253 (jrw n f))] sz_)) (cc := cX5_change) (maxL := 5) (ret := (some .int)) (own := RX5) (L := [(0, .ref m0), (1, .int (nI k)), (2, .int 4), (3, .int (nI j)), (4, .int 0)]) (by decide) rfl rfl (Nat.le_of_ble_eq_true rfl) rfl (fun p e s m args below meth c C hr => ?_)
  refine j_aload_n 0 C dX5_change_0 rfl rfl ?_
  refine j_aload_n 0 C dX5_change_1 rfl rfl ?_
  refine j_iload_n 1 C dX5_change_2 rfl rfl ?_
  refine j_iload_n 2 C dX5_change_3 rfl rfl ?_
  refine j_iload_n 3 C dX5_change_4 rfl rfl ?_
  refine j_iload 4 C dX5_change_5 rfl ?_
  refine j_callRi (v := 0) (j_runV (ci := 0) (As := [.int (nI k), .int 4, .int (nI j), .int 0]) (rest := [.ref m0]) [0, 1, 2] C (c_X5_whyRange_4 l g m0 th 10 tb md rw0 sz cs va lk rn kp tr k n f j a b (by omega) (by omega) (by omega) (by omega) ha (by omega) hb (by omega)) gX5_change_X5_whyRange rfl rfl rfl hd_X5_whyRange ⟨Nat.le_of_ble_eq_true rfl, Nat.le_of_ble_eq_true rfl⟩ rfl rfl rfl rfl dX5_change_7 rfl (Nat.le_of_ble_eq_true rfl) ⟨Nat.le_of_ble_eq_true rfl, Nat.le_of_ble_eq_true rfl⟩) ?_
  refine j_put (Cn := RX5) (T := TX5) (N := 11) (ws' := [(m0, .inr (4, [.int 0, .int 10, .ref tb, .ref md, .ref rw0, .int sz, .ref cs, .ref va, .int lk, .ref rn, .ref kp])), (tb, jaR g 10 (fun i => some (tr i))), (tr k, jaI g 253 (jrw n f))]) tyX5 0 0 C dX5_change_10 hin_X5_change_X5 tyX5_ok nmX5 rfl rfl (by decide) (List.mem_of_getElem? (i := 1) rfl) rfl (tyX5_ok 0 (by decide)) rfl rfl (Nat.le_of_ble_eq_true rfl) rfl ?_
  refine j_aload_n 0 C dX5_change_13 rfl rfl ?_
  refine j_get (Cn := RX5) (T := TX5) (N := 11) 0 0 C dX5_change_14 hin_X5_change_X5 rfl rfl (by decide) (List.mem_of_getElem? (i := 1) rfl) rfl ?_
  refine j_if_eq (tgt := 22) C dX5_change_17 (by decide) (fun c_1 => ?_) (fun c_1 => ?_)
  · skip
    refine j_aload_n 0 C dX5_change_22 rfl rfl ?_
    refine j_get (Cn := RX5) (T := TX5) (N := 11) 0 2 C dX5_change_23 hin_X5_change_X5 rfl rfl (by decide) (List.mem_of_getElem? (i := 2) rfl) rfl ?_
    refine j_iload_n 1 C dX5_change_26 rfl rfl ?_
    refine j_aldR (x := k) 1 C dX5_change_27 rfl rfl (by omega) (by decide) ?_
    refine j_eq (pc' := 28) (L' := [(0, .ref m0), (1, .int (nI k)), (2, .int 4), (3, .int (nI j)), (4, .int 0)]) (st' := [.ref (tr k)]) (ws' := [(m0, .inr (4, [.int 0, .int 10, .ref tb, .ref md, .ref rw0, .int sz, .ref cs, .ref va, .int lk, .ref rn, .ref kp])), (tb, jaR g 10 (fun i => some (tr i))), (tr k, jaI g 253 (jrw n f))]) ?_ rfl rfl rfl rfl
    refine j_iload_n 2 C dX5_change_28 rfl rfl ?_
    refine j_iload_n 3 C dX5_change_29 rfl rfl ?_
    refine j_iload 4 C dX5_change_30 rfl ?_
    refine j_callRi (v := jRS f j a b) (j_runS (As := [.ref (tr k), .int 4, .int (nI j), .int 0]) (rest := []) [2] C (c_X5_why_4 l g (tr k) n f j a b 0 (by omega) ha (by omega) hb (by omega)) gX5_change_X5_why rfl rfl rfl hd_X5_why ⟨Nat.le_of_ble_eq_true rfl, Nat.le_of_ble_eq_true rfl⟩ rfl rfl dX5_change_32 rfl (Nat.le_of_ble_eq_true rfl) ⟨Nat.le_of_ble_eq_true rfl, Nat.le_of_ble_eq_true rfl⟩) ?_
    refine j_if_ne (tgt := 47) C dX5_change_35 (by decide) (fun c_2 => ?_) (fun c_2 => ?_)
    · skip
      (first | exact absurd c_2 (by decide) | exact absurd c_2 (by omega) | simp_all)
    · skip
      refine j_aload_n 0 C dX5_change_38 rfl rfl ?_
      refine j_get (Cn := RX5) (T := TX5) (N := 11) 0 1 C dX5_change_39 hin_X5_change_X5 rfl rfl (by decide) (List.mem_of_getElem? (i := 3) rfl) rfl ?_
      refine j_bipush (v := 10) C dX5_change_42 rfl ?_
      refine j_icmp_ne (tgt := 53) C dX5_change_44 (by decide) (fun c_3 => ?_) (fun c_3 => ?_)
      · skip
        exact absurd c_3 (by decide)
      · skip
        refine j_aload_n 0 C dX5_change_47 rfl rfl ?_
        refine j_iconst (v := 3) C dX5_change_48 rfl ?_
        refine j_callWi [0] (fun _ => [(m0, .inr (4, [.int 3, .int 10, .ref tb, .ref md, .ref rw0, .int sz, .ref cs, .ref va, .int lk, .ref rn, .ref kp])), (tb, jaR g 10 (fun i => some (tr i))), (tr k, jaI g 253 (jrw n f))]) C (j_runV (ci := 0) (As := [.int 3]) (rest := []) [0] C (c_X5_fail l g m0 0 10 tb md rw0 sz cs va lk rn kp 3) gX5_change_X5_fail rfl rfl rfl hd_X5_fail ⟨Nat.le_of_ble_eq_true rfl, Nat.le_of_ble_eq_true rfl⟩ rfl rfl rfl rfl dX5_change_49 rfl (Nat.le_of_ble_eq_true rfl) ⟨Nat.le_of_ble_eq_true rfl, Nat.le_of_ble_eq_true rfl⟩) rfl (fun _ => rfl) (fun _ => rfl) (fun z _ hz => ?_)
        subst hz
        exact j_iretW (v := 0) C hr dX5_change_52 () rfl rfl
  · skip
    exact absurd c_1 (by decide)
set_option maxHeartbeats 4000000 in
set_option maxRecDepth 100000 in
theorem c_X5_change_4 (l : Launch) (g : jG) (m0 : Nat) (th : Int32) (N tb md rw0 : Nat) (sz : Int32) (cs va : Nat) (lk : Int32) (rn kp : Nat) (tr : Nat → Nat) (k n : Nat) (f : Nat → Int32) (n0 : Nat) (f0 : Nat → Int32) (n1 : Nat) (f1 : Nat → Int32) (j a b : Nat) (hk : k < N) (hN : N < 10) (hj : j + 1 < n) (hn : n ≤ 8) (ha : f (j * 28 + 3) = nI a) (ha6 : a ≤ 6) (hb : f ((j + 1) * 28 + 3) = nI b) (hb6 : b ≤ 6) (hz : jRS f j a b = 0) : jWi l yX5_change wsX5_change ({ frames := 7, cells := 0, slots := 0, locals := 157 }) g [.ref m0, .int (nI k), .int 4, .int (nI j), .int 0] [(m0, .inr (4, [.int th, .int (nI N), .ref tb, .ref md, .ref rw0, .int sz, .ref cs, .ref va, .int lk, .ref rn, .ref kp])), (tb, jaR g 10 (fun i => some (tr i))), (tr k, jaI g 253 (jrw n f)), (md, jaI g 253 (jrw n0 f0)), (tr N, jaI g 253 (jrw n1 f1))] [(m0, .inr (4, [.int 0, .int (nI (N + 1)), .ref tb, .ref md, .ref rw0, .int sz, .ref cs, .ref va, .int lk, .ref rn, .ref kp])), (tb, jaR g 10 (fun i => some (tr i))), (tr k, jaI g 253 (jrw n f)), (md, jaI g 253 (jrw n (jSw f (j * 28) (j * 28 + 28)))), (tr N, jaI g 253 (jrw n (jSw f (j * 28) (j * 28 + 28))))] (nI N) := by
  refine j_enterW (Qc := fun sz_ => va_Qi (fun r (_ : Unit) => r = nI N) (fun _ t => va_P g.1 vwCl [(m0, .inr (4, [.int 0, .int (nI (N + 1)), .ref tb, .ref md, .ref rw0, .int sz, .ref cs, .ref va, .int lk, .ref rn, .ref kp])), (tb, jaR g 10 (fun i => some (tr i))), (tr k, jaI g 253 (jrw n f)), (md, jaI g 253 (jrw n (jSw f (j * 28) (j * 28 + 28)))), (tr N, jaI g 253 (jrw n (jSw f (j * 28) (j * 28 + 28))))] t.heap) (va_A [(m0, .inr (4, [.int th, .int (nI N), .ref tb, .ref md, .ref rw0, .int sz, .ref cs, .ref va, .int lk, .ref rn, .ref kp])), (tb, jaR g 10 (fun i => some (tr i))), (tr k, jaI g 253 (jrw n f)), (md, jaI g 253 (jrw n0 f0)), (tr N, jaI g 253 (jrw n1 f1))] sz_)) (cc := cX5_change) (maxL := 5) (ret := (some .int)) (own := RX5) (L := [(0, .ref m0), (1, .int (nI k)), (2, .int 4), (3, .int (nI j)), (4, .int 0)]) (by decide) rfl rfl (Nat.le_of_ble_eq_true rfl) rfl (fun p e s m args below meth c C hr => ?_)
  refine j_aload_n 0 C dX5_change_0 rfl rfl ?_
  refine j_aload_n 0 C dX5_change_1 rfl rfl ?_
  refine j_iload_n 1 C dX5_change_2 rfl rfl ?_
  refine j_iload_n 2 C dX5_change_3 rfl rfl ?_
  refine j_iload_n 3 C dX5_change_4 rfl rfl ?_
  refine j_iload 4 C dX5_change_5 rfl ?_
  refine j_callRi (v := 0) (j_runV (ci := 0) (As := [.int (nI k), .int 4, .int (nI j), .int 0]) (rest := [.ref m0]) [0, 1, 2] C (c_X5_whyRange_4 l g m0 th N tb md rw0 sz cs va lk rn kp tr k n f j a b (by omega) (by omega) (by omega) (by omega) ha (by omega) hb (by omega)) gX5_change_X5_whyRange rfl rfl rfl hd_X5_whyRange ⟨Nat.le_of_ble_eq_true rfl, Nat.le_of_ble_eq_true rfl⟩ rfl rfl rfl rfl dX5_change_7 rfl (Nat.le_of_ble_eq_true rfl) ⟨Nat.le_of_ble_eq_true rfl, Nat.le_of_ble_eq_true rfl⟩) ?_
  refine j_put (Cn := RX5) (T := TX5) (N := 11) (ws' := [(m0, .inr (4, [.int 0, .int (nI N), .ref tb, .ref md, .ref rw0, .int sz, .ref cs, .ref va, .int lk, .ref rn, .ref kp])), (tb, jaR g 10 (fun i => some (tr i))), (tr k, jaI g 253 (jrw n f)), (md, jaI g 253 (jrw n0 f0)), (tr N, jaI g 253 (jrw n1 f1))]) tyX5 0 0 C dX5_change_10 hin_X5_change_X5 tyX5_ok nmX5 rfl rfl (by decide) (List.mem_of_getElem? (i := 1) rfl) rfl (tyX5_ok 0 (by decide)) rfl rfl (Nat.le_of_ble_eq_true rfl) rfl ?_
  refine j_aload_n 0 C dX5_change_13 rfl rfl ?_
  refine j_get (Cn := RX5) (T := TX5) (N := 11) 0 0 C dX5_change_14 hin_X5_change_X5 rfl rfl (by decide) (List.mem_of_getElem? (i := 1) rfl) rfl ?_
  refine j_if_eq (tgt := 22) C dX5_change_17 (by decide) (fun c_1 => ?_) (fun c_1 => ?_)
  · skip
    refine j_aload_n 0 C dX5_change_22 rfl rfl ?_
    refine j_get (Cn := RX5) (T := TX5) (N := 11) 0 2 C dX5_change_23 hin_X5_change_X5 rfl rfl (by decide) (List.mem_of_getElem? (i := 2) rfl) rfl ?_
    refine j_iload_n 1 C dX5_change_26 rfl rfl ?_
    refine j_aldR (x := k) 1 C dX5_change_27 rfl rfl (by omega) (by decide) ?_
    refine j_eq (pc' := 28) (L' := [(0, .ref m0), (1, .int (nI k)), (2, .int 4), (3, .int (nI j)), (4, .int 0)]) (st' := [.ref (tr k)]) (ws' := [(m0, .inr (4, [.int 0, .int (nI N), .ref tb, .ref md, .ref rw0, .int sz, .ref cs, .ref va, .int lk, .ref rn, .ref kp])), (tb, jaR g 10 (fun i => some (tr i))), (tr k, jaI g 253 (jrw n f)), (md, jaI g 253 (jrw n0 f0)), (tr N, jaI g 253 (jrw n1 f1))]) ?_ rfl rfl rfl rfl
    refine j_iload_n 2 C dX5_change_28 rfl rfl ?_
    refine j_iload_n 3 C dX5_change_29 rfl rfl ?_
    refine j_iload 4 C dX5_change_30 rfl ?_
    refine j_callRi (v := jRS f j a b) (j_runS (As := [.ref (tr k), .int 4, .int (nI j), .int 0]) (rest := []) [2] C (c_X5_why_4 l g (tr k) n f j a b 0 (by omega) ha (by omega) hb (by omega)) gX5_change_X5_why rfl rfl rfl hd_X5_why ⟨Nat.le_of_ble_eq_true rfl, Nat.le_of_ble_eq_true rfl⟩ rfl rfl dX5_change_32 rfl (Nat.le_of_ble_eq_true rfl) ⟨Nat.le_of_ble_eq_true rfl, Nat.le_of_ble_eq_true rfl⟩) ?_
    refine j_if_ne (tgt := 47) C dX5_change_35 (by decide) (fun c_2 => ?_) (fun c_2 => ?_)
    · skip
      (first | exact absurd c_2 (by decide) | exact absurd c_2 (by omega) | simp_all)
    · skip
      refine j_aload_n 0 C dX5_change_38 rfl rfl ?_
      refine j_get (Cn := RX5) (T := TX5) (N := 11) 0 1 C dX5_change_39 hin_X5_change_X5 rfl rfl (by decide) (List.mem_of_getElem? (i := 3) rfl) rfl ?_
      refine j_bipush (v := 10) C dX5_change_42 rfl ?_
      refine j_icmp_ne (tgt := 53) C dX5_change_44 (by decide) (fun c_3 => ?_) (fun c_3 => ?_)
      · skip
        have c_3 : ¬ N = 10 := fun z => c_3 ((nI_eq (a := N) (b := 10) (by omega) (by omega)).mpr z)
        refine j_aload_n 0 C dX5_change_53 rfl rfl ?_
        refine j_get (Cn := RX5) (T := TX5) (N := 11) 0 2 C dX5_change_54 hin_X5_change_X5 rfl rfl (by decide) (List.mem_of_getElem? (i := 2) rfl) rfl ?_
        refine j_iload_n 1 C dX5_change_57 rfl rfl ?_
        refine j_aldR (x := k) 1 C dX5_change_58 rfl rfl (by omega) (by decide) ?_
        refine j_eq (pc' := 59) (L' := [(0, .ref m0), (1, .int (nI k)), (2, .int 4), (3, .int (nI j)), (4, .int 0)]) (st' := [.ref (tr k)]) (ws' := [(m0, .inr (4, [.int 0, .int (nI N), .ref tb, .ref md, .ref rw0, .int sz, .ref cs, .ref va, .int lk, .ref rn, .ref kp])), (tb, jaR g 10 (fun i => some (tr i))), (tr k, jaI g 253 (jrw n f)), (md, jaI g 253 (jrw n0 f0)), (tr N, jaI g 253 (jrw n1 f1))]) ?_ rfl rfl rfl rfl
        refine j_iconst (v := 0) C dX5_change_59 rfl ?_
        refine j_aload_n 0 C dX5_change_60 rfl rfl ?_
        refine j_get (Cn := RX5) (T := TX5) (N := 11) 0 3 C dX5_change_61 hin_X5_change_X5 rfl rfl (by decide) (List.mem_of_getElem? (i := 4) rfl) rfl ?_
        refine j_iconst (v := 0) C dX5_change_64 rfl ?_
        refine j_sipush (v := 253) C dX5_change_65 rfl ?_
        refine j_copyI (sp := 0) (dp := 0) (n := 253) (rest := []) (ws' := [(m0, .inr (4, [.int 0, .int (nI N), .ref tb, .ref md, .ref rw0, .int sz, .ref cs, .ref va, .int lk, .ref rn, .ref kp])), (tb, jaR g 10 (fun i => some (tr i))), (tr k, jaI g 253 (jrw n f)), (md, jaI g 253 (va_cpy (jrw n f) (jrw n0 f0) 0 0 253)), (tr N, jaI g 253 (jrw n1 f1))]) 2 3 C dX5_change_68 (List.mem_of_getElem? (i := 5) rfl) (List.mem_of_getElem? (i := 6) rfl) (List.mem_of_getElem? (i := 7) rfl) (List.mem_of_getElem? (i := 8) rfl) rfl rfl rfl rfl rfl (by omega) (by omega) (by decide) (by decide) (Nat.le_of_ble_eq_true rfl) (Nat.le_of_ble_eq_true rfl) rfl ?_
        refine j_arrI (f' := jrw n f) (ws' := [(m0, .inr (4, [.int 0, .int (nI N), .ref tb, .ref md, .ref rw0, .int sz, .ref cs, .ref va, .int lk, .ref rn, .ref kp])), (tb, jaR g 10 (fun i => some (tr i))), (tr k, jaI g 253 (jrw n f)), (md, jaI g 253 (jrw n f)), (tr N, jaI g 253 (jrw n1 f1))]) 3 rfl (fun i hi => jcp_all hi) rfl ?_
        refine j_aload_n 0 C dX5_change_71 rfl rfl ?_
        refine j_iload_n 2 C dX5_change_72 rfl rfl ?_
        refine j_iload_n 3 C dX5_change_73 rfl rfl ?_
        refine j_iload 4 C dX5_change_74 rfl ?_
        refine j_callWv [0, 3] (fun _ => [(m0, .inr (4, [.int 0, .int (nI N), .ref tb, .ref md, .ref rw0, .int sz, .ref cs, .ref va, .int lk, .ref rn, .ref kp])), (tb, jaR g 10 (fun i => some (tr i))), (tr k, jaI g 253 (jrw n f)), (md, jaI g 253 (jrw n (jSw f (j * 28) (j * 28 + 28)))), (tr N, jaI g 253 (jrw n1 f1))]) C (j_runV (ci := 0) (As := [.int 4, .int (nI j), .int 0]) (rest := []) [0, 3] C (c_X5_make_4 l g m0 0 (nI N) tb md rw0 sz cs va lk rn kp n f j 0 (by omega)) gX5_change_X5_make rfl rfl rfl hd_X5_make ⟨Nat.le_of_ble_eq_true rfl, Nat.le_of_ble_eq_true rfl⟩ rfl rfl rfl rfl dX5_change_76 rfl (Nat.le_of_ble_eq_true rfl) ⟨Nat.le_of_ble_eq_true rfl, Nat.le_of_ble_eq_true rfl⟩) rfl (fun _ => rfl) (fun _ => rfl) (fun _ _ => ?_)
        refine j_aload_n 0 C dX5_change_79 rfl rfl ?_
        refine j_get (Cn := RX5) (T := TX5) (N := 11) 0 3 C dX5_change_80 hin_X5_change_X5 rfl rfl (by decide) (List.mem_of_getElem? (i := 4) rfl) rfl ?_
        refine j_iconst (v := 0) C dX5_change_83 rfl ?_
        refine j_aload_n 0 C dX5_change_84 rfl rfl ?_
        refine j_get (Cn := RX5) (T := TX5) (N := 11) 0 2 C dX5_change_85 hin_X5_change_X5 rfl rfl (by decide) (List.mem_of_getElem? (i := 2) rfl) rfl ?_
        refine j_aload_n 0 C dX5_change_88 rfl rfl ?_
        refine j_get (Cn := RX5) (T := TX5) (N := 11) 0 1 C dX5_change_89 hin_X5_change_X5 rfl rfl (by decide) (List.mem_of_getElem? (i := 3) rfl) rfl ?_
        refine j_aldR (x := N) 1 C dX5_change_92 rfl rfl (by omega) (by decide) ?_
        refine j_eq (pc' := 93) (L' := [(0, .ref m0), (1, .int (nI k)), (2, .int 4), (3, .int (nI j)), (4, .int 0)]) (st' := [.ref (tr N), .int 0, .ref md]) (ws' := [(m0, .inr (4, [.int 0, .int (nI N), .ref tb, .ref md, .ref rw0, .int sz, .ref cs, .ref va, .int lk, .ref rn, .ref kp])), (tb, jaR g 10 (fun i => some (tr i))), (tr k, jaI g 253 (jrw n f)), (md, jaI g 253 (jrw n (jSw f (j * 28) (j * 28 + 28)))), (tr N, jaI g 253 (jrw n1 f1))]) ?_ rfl rfl rfl rfl
        refine j_iconst (v := 0) C dX5_change_93 rfl ?_
        refine j_sipush (v := 253) C dX5_change_94 rfl ?_
        refine j_copyI (sp := 0) (dp := 0) (n := 253) (rest := []) (ws' := [(m0, .inr (4, [.int 0, .int (nI N), .ref tb, .ref md, .ref rw0, .int sz, .ref cs, .ref va, .int lk, .ref rn, .ref kp])), (tb, jaR g 10 (fun i => some (tr i))), (tr k, jaI g 253 (jrw n f)), (md, jaI g 253 (jrw n (jSw f (j * 28) (j * 28 + 28)))), (tr N, jaI g 253 (va_cpy (jrw n (jSw f (j * 28) (j * 28 + 28))) (jrw n1 f1) 0 0 253))]) 3 4 C dX5_change_97 (List.mem_of_getElem? (i := 5) rfl) (List.mem_of_getElem? (i := 6) rfl) (List.mem_of_getElem? (i := 7) rfl) (List.mem_of_getElem? (i := 8) rfl) rfl rfl rfl rfl rfl (by omega) (by omega) (by decide) (by decide) (Nat.le_of_ble_eq_true rfl) (Nat.le_of_ble_eq_true rfl) rfl ?_
        refine j_arrI (f' := (jrw n (jSw f (j * 28) (j * 28 + 28)))) (ws' := [(m0, .inr (4, [.int 0, .int (nI N), .ref tb, .ref md, .ref rw0, .int sz, .ref cs, .ref va, .int lk, .ref rn, .ref kp])), (tb, jaR g 10 (fun i => some (tr i))), (tr k, jaI g 253 (jrw n f)), (md, jaI g 253 (jrw n (jSw f (j * 28) (j * 28 + 28)))), (tr N, jaI g 253 (jrw n (jSw f (j * 28) (j * 28 + 28))))]) 4 rfl (fun i hi => jcp_all hi) rfl ?_
        refine j_aload_n 0 C dX5_change_100 rfl rfl ?_
        refine j_dup C dX5_change_101 rfl ?_
        refine j_get (Cn := RX5) (T := TX5) (N := 11) 0 1 C dX5_change_102 hin_X5_change_X5 rfl rfl (by decide) (List.mem_of_getElem? (i := 3) rfl) rfl ?_
        refine j_iconst (v := 1) C dX5_change_105 rfl ?_
        refine j_iadd (x := nI N) (y := 1) (v := nI (N + 1)) C dX5_change_106 (nI_add N 1) ?_
        refine j_put (Cn := RX5) (T := TX5) (N := 11) (ws' := [(m0, .inr (4, [.int 0, .int (nI (N + 1)), .ref tb, .ref md, .ref rw0, .int sz, .ref cs, .ref va, .int lk, .ref rn, .ref kp])), (tb, jaR g 10 (fun i => some (tr i))), (tr k, jaI g 253 (jrw n f)), (md, jaI g 253 (jrw n (jSw f (j * 28) (j * 28 + 28)))), (tr N, jaI g 253 (jrw n (jSw f (j * 28) (j * 28 + 28))))]) tyX5 0 1 C dX5_change_107 hin_X5_change_X5 tyX5_ok nmX5 rfl rfl (by decide) (List.mem_of_getElem? (i := 3) rfl) rfl (tyX5_ok 1 (by decide)) rfl rfl (Nat.le_of_ble_eq_true rfl) rfl ?_
        refine j_aload_n 0 C dX5_change_110 rfl rfl ?_
        refine j_get (Cn := RX5) (T := TX5) (N := 11) 0 1 C dX5_change_111 hin_X5_change_X5 rfl rfl (by decide) (List.mem_of_getElem? (i := 3) rfl) rfl ?_
        refine j_iconst (v := 1) C dX5_change_114 rfl ?_
        refine j_isub (x := nI (N + 1)) (y := 1) (v := nI ((N + 1) - 1)) C dX5_change_115 (pk_sub (a := N + 1) (b := 1) (by omega)) ?_
        exact j_iretW (v := nI ((N + 1) - 1)) C hr dX5_change_116 () (by rfl) rfl
      · skip
        have c_3 : N = 10 := (nI_eq (a := N) (b := 10) (by omega) (by omega)).mp c_3
        exact absurd c_3 (by omega)
  · skip
    exact absurd c_1 (by decide)
set_option maxHeartbeats 4000000 in
set_option maxRecDepth 100000 in
theorem c_X5_reason_5 (l : Launch) (g : jG) (m0 : Nat) (th : Int32) (N tb md rw0 : Nat) (sz : Int32) (cs va : Nat) (lk : Int32) (rn kp : Nat) (tr : Nat → Nat) (k n : Nat) (f : Nat → Int32) (hk : k < N) (hN : N ≤ 10)  : jWi l yX5_reason wsX5_reason ({ frames := 4, cells := 0, slots := 0, locals := 127 }) g [.ref m0, .int (nI k), .int 5, .int 0, .int 0] [(m0, .inr (4, [.int th, .int (nI N), .ref tb, .ref md, .ref rw0, .int sz, .ref cs, .ref va, .int lk, .ref rn, .ref kp])), (tb, jaR g 10 (fun i => some (tr i))), (tr k, jaI g 253 (jrw n f))] [(m0, .inr (4, [.int 0, .int (nI N), .ref tb, .ref md, .ref rw0, .int sz, .ref cs, .ref va, .int lk, .ref rn, .ref kp])), (tb, jaR g 10 (fun i => some (tr i))), (tr k, jaI g 253 (jrw n f))] 0 := by
  refine j_enterW (Qc := fun sz_ => va_Qi (fun r (_ : Unit) => r = 0) (fun _ t => va_P g.1 vwCl [(m0, .inr (4, [.int 0, .int (nI N), .ref tb, .ref md, .ref rw0, .int sz, .ref cs, .ref va, .int lk, .ref rn, .ref kp])), (tb, jaR g 10 (fun i => some (tr i))), (tr k, jaI g 253 (jrw n f))] t.heap) (va_A [(m0, .inr (4, [.int th, .int (nI N), .ref tb, .ref md, .ref rw0, .int sz, .ref cs, .ref va, .int lk, .ref rn, .ref kp])), (tb, jaR g 10 (fun i => some (tr i))), (tr k, jaI g 253 (jrw n f))] sz_)) (cc := cX5_reason) (maxL := 5) (ret := (some .int)) (own := RX5) (L := [(0, .ref m0), (1, .int (nI k)), (2, .int 5), (3, .int 0), (4, .int 0)]) (by decide) rfl rfl (Nat.le_of_ble_eq_true rfl) rfl (fun p e s m args below meth c C hr => ?_)
  refine j_aload_n 0 C dX5_reason_0 rfl rfl ?_
  refine j_aload_n 0 C dX5_reason_1 rfl rfl ?_
  refine j_iload_n 1 C dX5_reason_2 rfl rfl ?_
  refine j_iload_n 2 C dX5_reason_3 rfl rfl ?_
  refine j_iload_n 3 C dX5_reason_4 rfl rfl ?_
  refine j_iload 4 C dX5_reason_5 rfl ?_
  refine j_callRi (v := 0) (j_runV (ci := 0) (As := [.int (nI k), .int 5, .int 0, .int 0]) (rest := [.ref m0]) [0, 1, 2] C (c_X5_whyRange_5 l g m0 th N tb md rw0 sz cs va lk rn kp tr k n f (by omega) (by omega)) gX5_reason_X5_whyRange rfl rfl rfl hd_X5_whyRange ⟨Nat.le_of_ble_eq_true rfl, Nat.le_of_ble_eq_true rfl⟩ rfl rfl rfl rfl dX5_reason_7 rfl (Nat.le_of_ble_eq_true rfl) ⟨Nat.le_of_ble_eq_true rfl, Nat.le_of_ble_eq_true rfl⟩) ?_
  refine j_put (Cn := RX5) (T := TX5) (N := 11) (ws' := [(m0, .inr (4, [.int 0, .int (nI N), .ref tb, .ref md, .ref rw0, .int sz, .ref cs, .ref va, .int lk, .ref rn, .ref kp])), (tb, jaR g 10 (fun i => some (tr i))), (tr k, jaI g 253 (jrw n f))]) tyX5 0 0 C dX5_reason_10 hin_X5_reason_X5 tyX5_ok nmX5 rfl rfl (by decide) (List.mem_of_getElem? (i := 1) rfl) rfl (tyX5_ok 0 (by decide)) rfl rfl (Nat.le_of_ble_eq_true rfl) rfl ?_
  refine j_aload_n 0 C dX5_reason_13 rfl rfl ?_
  refine j_get (Cn := RX5) (T := TX5) (N := 11) 0 0 C dX5_reason_14 hin_X5_reason_X5 rfl rfl (by decide) (List.mem_of_getElem? (i := 1) rfl) rfl ?_
  refine j_if_ne (tgt := 36) C dX5_reason_17 (by decide) (fun c_1 => ?_) (fun c_1 => ?_)
  · skip
    exact absurd c_1 (by decide)
  · skip
    refine j_aload_n 0 C dX5_reason_20 rfl rfl ?_
    refine j_get (Cn := RX5) (T := TX5) (N := 11) 0 2 C dX5_reason_21 hin_X5_reason_X5 rfl rfl (by decide) (List.mem_of_getElem? (i := 2) rfl) rfl ?_
    refine j_iload_n 1 C dX5_reason_24 rfl rfl ?_
    refine j_aldR (x := k) 1 C dX5_reason_25 rfl rfl (by omega) (by decide) ?_
    refine j_eq (pc' := 26) (L' := [(0, .ref m0), (1, .int (nI k)), (2, .int 5), (3, .int 0), (4, .int 0)]) (st' := [.ref (tr k)]) (ws' := [(m0, .inr (4, [.int 0, .int (nI N), .ref tb, .ref md, .ref rw0, .int sz, .ref cs, .ref va, .int lk, .ref rn, .ref kp])), (tb, jaR g 10 (fun i => some (tr i))), (tr k, jaI g 253 (jrw n f))]) ?_ rfl rfl rfl rfl
    refine j_iload_n 2 C dX5_reason_26 rfl rfl ?_
    refine j_iload_n 3 C dX5_reason_27 rfl rfl ?_
    refine j_iload 4 C dX5_reason_28 rfl ?_
    refine j_callRi (v := 0) (j_runS (As := [.ref (tr k), .int 5, .int 0, .int 0]) (rest := []) [2] C (c_X5_why_5 l g (tr k) n f 0 0) gX5_reason_X5_why rfl rfl rfl hd_X5_why ⟨Nat.le_of_ble_eq_true rfl, Nat.le_of_ble_eq_true rfl⟩ rfl rfl dX5_reason_30 rfl (Nat.le_of_ble_eq_true rfl) ⟨Nat.le_of_ble_eq_true rfl, Nat.le_of_ble_eq_true rfl⟩) ?_
    refine j_goto (tgt := 37) C dX5_reason_33 (by decide) ?_
    exact j_iretW (v := 0) C hr dX5_reason_37 () rfl rfl
set_option maxHeartbeats 4000000 in
set_option maxRecDepth 100000 in
theorem c_X5_change_f5 (l : Launch) (g : jG) (m0 : Nat) (th : Int32) (tb md rw0 : Nat) (sz : Int32) (cs va : Nat) (lk : Int32) (rn kp : Nat) (tr : Nat → Nat) (k n : Nat) (f : Nat → Int32) (hk : k < 10)  : jWi l yX5_change wsX5_change ({ frames := 4, cells := 0, slots := 0, locals := 127 }) g [.ref m0, .int (nI k), .int 5, .int 0, .int 0] [(m0, .inr (4, [.int th, .int 10, .ref tb, .ref md, .ref rw0, .int sz, .ref cs, .ref va, .int lk, .ref rn, .ref kp])), (tb, jaR g 10 (fun i => some (tr i))), (tr k, jaI g 253 (jrw n f))] [(m0, .inr (4, [.int 3, .int 10, .ref tb, .ref md, .ref rw0, .int sz, .ref cs, .ref va, .int lk, .ref rn, .ref kp])), (tb, jaR g 10 (fun i => some (tr i))), (tr k, jaI g 253 (jrw n f))] 0 := by
  refine j_enterW (Qc := fun sz_ => va_Qi (fun r (_ : Unit) => r = 0) (fun _ t => va_P g.1 vwCl [(m0, .inr (4, [.int 3, .int 10, .ref tb, .ref md, .ref rw0, .int sz, .ref cs, .ref va, .int lk, .ref rn, .ref kp])), (tb, jaR g 10 (fun i => some (tr i))), (tr k, jaI g 253 (jrw n f))] t.heap) (va_A [(m0, .inr (4, [.int th, .int 10, .ref tb, .ref md, .ref rw0, .int sz, .ref cs, .ref va, .int lk, .ref rn, .ref kp])), (tb, jaR g 10 (fun i => some (tr i))), (tr k, jaI g 253 (jrw n f))] sz_)) (cc := cX5_change) (maxL := 5) (ret := (some .int)) (own := RX5) (L := [(0, .ref m0), (1, .int (nI k)), (2, .int 5), (3, .int 0), (4, .int 0)]) (by decide) rfl rfl (Nat.le_of_ble_eq_true rfl) rfl (fun p e s m args below meth c C hr => ?_)
  refine j_aload_n 0 C dX5_change_0 rfl rfl ?_
  refine j_aload_n 0 C dX5_change_1 rfl rfl ?_
  refine j_iload_n 1 C dX5_change_2 rfl rfl ?_
  refine j_iload_n 2 C dX5_change_3 rfl rfl ?_
  refine j_iload_n 3 C dX5_change_4 rfl rfl ?_
  refine j_iload 4 C dX5_change_5 rfl ?_
  refine j_callRi (v := 0) (j_runV (ci := 0) (As := [.int (nI k), .int 5, .int 0, .int 0]) (rest := [.ref m0]) [0, 1, 2] C (c_X5_whyRange_5 l g m0 th 10 tb md rw0 sz cs va lk rn kp tr k n f (by omega) (by omega)) gX5_change_X5_whyRange rfl rfl rfl hd_X5_whyRange ⟨Nat.le_of_ble_eq_true rfl, Nat.le_of_ble_eq_true rfl⟩ rfl rfl rfl rfl dX5_change_7 rfl (Nat.le_of_ble_eq_true rfl) ⟨Nat.le_of_ble_eq_true rfl, Nat.le_of_ble_eq_true rfl⟩) ?_
  refine j_put (Cn := RX5) (T := TX5) (N := 11) (ws' := [(m0, .inr (4, [.int 0, .int 10, .ref tb, .ref md, .ref rw0, .int sz, .ref cs, .ref va, .int lk, .ref rn, .ref kp])), (tb, jaR g 10 (fun i => some (tr i))), (tr k, jaI g 253 (jrw n f))]) tyX5 0 0 C dX5_change_10 hin_X5_change_X5 tyX5_ok nmX5 rfl rfl (by decide) (List.mem_of_getElem? (i := 1) rfl) rfl (tyX5_ok 0 (by decide)) rfl rfl (Nat.le_of_ble_eq_true rfl) rfl ?_
  refine j_aload_n 0 C dX5_change_13 rfl rfl ?_
  refine j_get (Cn := RX5) (T := TX5) (N := 11) 0 0 C dX5_change_14 hin_X5_change_X5 rfl rfl (by decide) (List.mem_of_getElem? (i := 1) rfl) rfl ?_
  refine j_if_eq (tgt := 22) C dX5_change_17 (by decide) (fun c_1 => ?_) (fun c_1 => ?_)
  · skip
    refine j_aload_n 0 C dX5_change_22 rfl rfl ?_
    refine j_get (Cn := RX5) (T := TX5) (N := 11) 0 2 C dX5_change_23 hin_X5_change_X5 rfl rfl (by decide) (List.mem_of_getElem? (i := 2) rfl) rfl ?_
    refine j_iload_n 1 C dX5_change_26 rfl rfl ?_
    refine j_aldR (x := k) 1 C dX5_change_27 rfl rfl (by omega) (by decide) ?_
    refine j_eq (pc' := 28) (L' := [(0, .ref m0), (1, .int (nI k)), (2, .int 5), (3, .int 0), (4, .int 0)]) (st' := [.ref (tr k)]) (ws' := [(m0, .inr (4, [.int 0, .int 10, .ref tb, .ref md, .ref rw0, .int sz, .ref cs, .ref va, .int lk, .ref rn, .ref kp])), (tb, jaR g 10 (fun i => some (tr i))), (tr k, jaI g 253 (jrw n f))]) ?_ rfl rfl rfl rfl
    refine j_iload_n 2 C dX5_change_28 rfl rfl ?_
    refine j_iload_n 3 C dX5_change_29 rfl rfl ?_
    refine j_iload 4 C dX5_change_30 rfl ?_
    refine j_callRi (v := 0) (j_runS (As := [.ref (tr k), .int 5, .int 0, .int 0]) (rest := []) [2] C (c_X5_why_5 l g (tr k) n f 0 0) gX5_change_X5_why rfl rfl rfl hd_X5_why ⟨Nat.le_of_ble_eq_true rfl, Nat.le_of_ble_eq_true rfl⟩ rfl rfl dX5_change_32 rfl (Nat.le_of_ble_eq_true rfl) ⟨Nat.le_of_ble_eq_true rfl, Nat.le_of_ble_eq_true rfl⟩) ?_
    refine j_if_ne (tgt := 47) C dX5_change_35 (by decide) (fun c_2 => ?_) (fun c_2 => ?_)
    · skip
      exact absurd c_2 (by decide)
    · skip
      refine j_aload_n 0 C dX5_change_38 rfl rfl ?_
      refine j_get (Cn := RX5) (T := TX5) (N := 11) 0 1 C dX5_change_39 hin_X5_change_X5 rfl rfl (by decide) (List.mem_of_getElem? (i := 3) rfl) rfl ?_
      refine j_bipush (v := 10) C dX5_change_42 rfl ?_
      refine j_icmp_ne (tgt := 53) C dX5_change_44 (by decide) (fun c_3 => ?_) (fun c_3 => ?_)
      · skip
        exact absurd c_3 (by decide)
      · skip
        refine j_aload_n 0 C dX5_change_47 rfl rfl ?_
        refine j_iconst (v := 3) C dX5_change_48 rfl ?_
        refine j_callWi [0] (fun _ => [(m0, .inr (4, [.int 3, .int 10, .ref tb, .ref md, .ref rw0, .int sz, .ref cs, .ref va, .int lk, .ref rn, .ref kp])), (tb, jaR g 10 (fun i => some (tr i))), (tr k, jaI g 253 (jrw n f))]) C (j_runV (ci := 0) (As := [.int 3]) (rest := []) [0] C (c_X5_fail l g m0 0 10 tb md rw0 sz cs va lk rn kp 3) gX5_change_X5_fail rfl rfl rfl hd_X5_fail ⟨Nat.le_of_ble_eq_true rfl, Nat.le_of_ble_eq_true rfl⟩ rfl rfl rfl rfl dX5_change_49 rfl (Nat.le_of_ble_eq_true rfl) ⟨Nat.le_of_ble_eq_true rfl, Nat.le_of_ble_eq_true rfl⟩) rfl (fun _ => rfl) (fun _ => rfl) (fun z _ hz => ?_)
        subst hz
        exact j_iretW (v := 0) C hr dX5_change_52 () rfl rfl
  · skip
    exact absurd c_1 (by decide)
set_option maxHeartbeats 4000000 in
set_option maxRecDepth 100000 in
theorem c_X5_change_5 (l : Launch) (g : jG) (m0 : Nat) (th : Int32) (N tb md rw0 : Nat) (sz : Int32) (cs va : Nat) (lk : Int32) (rn kp : Nat) (tr : Nat → Nat) (k n : Nat) (f : Nat → Int32) (n0 : Nat) (f0 : Nat → Int32) (n1 : Nat) (f1 : Nat → Int32) (hk : k < N) (hN : N < 10)  (hok : jOk n f) : jWi l yX5_change wsX5_change ({ frames := 5, cells := 0, slots := 0, locals := 127 }) g [.ref m0, .int (nI k), .int 5, .int 0, .int 0] [(m0, .inr (4, [.int th, .int (nI N), .ref tb, .ref md, .ref rw0, .int sz, .ref cs, .ref va, .int lk, .ref rn, .ref kp])), (tb, jaR g 10 (fun i => some (tr i))), (tr k, jaI g 253 (jrw n f)), (md, jaI g 253 (jrw n0 f0)), (tr N, jaI g 253 (jrw n1 f1))] [(m0, .inr (4, [.int 0, .int (nI (N + 1)), .ref tb, .ref md, .ref rw0, .int sz, .ref cs, .ref va, .int lk, .ref rn, .ref kp])), (tb, jaR g 10 (fun i => some (tr i))), (tr k, jaI g 253 (jrw n f)), (md, jaI g 253 (jrw ((jStrip n (n, f)).1) ((jStrip n (n, f)).2))), (tr N, jaI g 253 (jrw ((jStrip n (n, f)).1) ((jStrip n (n, f)).2)))] (nI N) := by
  refine j_enterW (Qc := fun sz_ => va_Qi (fun r (_ : Unit) => r = nI N) (fun _ t => va_P g.1 vwCl [(m0, .inr (4, [.int 0, .int (nI (N + 1)), .ref tb, .ref md, .ref rw0, .int sz, .ref cs, .ref va, .int lk, .ref rn, .ref kp])), (tb, jaR g 10 (fun i => some (tr i))), (tr k, jaI g 253 (jrw n f)), (md, jaI g 253 (jrw ((jStrip n (n, f)).1) ((jStrip n (n, f)).2))), (tr N, jaI g 253 (jrw ((jStrip n (n, f)).1) ((jStrip n (n, f)).2)))] t.heap) (va_A [(m0, .inr (4, [.int th, .int (nI N), .ref tb, .ref md, .ref rw0, .int sz, .ref cs, .ref va, .int lk, .ref rn, .ref kp])), (tb, jaR g 10 (fun i => some (tr i))), (tr k, jaI g 253 (jrw n f)), (md, jaI g 253 (jrw n0 f0)), (tr N, jaI g 253 (jrw n1 f1))] sz_)) (cc := cX5_change) (maxL := 5) (ret := (some .int)) (own := RX5) (L := [(0, .ref m0), (1, .int (nI k)), (2, .int 5), (3, .int 0), (4, .int 0)]) (by decide) rfl rfl (Nat.le_of_ble_eq_true rfl) rfl (fun p e s m args below meth c C hr => ?_)
  refine j_aload_n 0 C dX5_change_0 rfl rfl ?_
  refine j_aload_n 0 C dX5_change_1 rfl rfl ?_
  refine j_iload_n 1 C dX5_change_2 rfl rfl ?_
  refine j_iload_n 2 C dX5_change_3 rfl rfl ?_
  refine j_iload_n 3 C dX5_change_4 rfl rfl ?_
  refine j_iload 4 C dX5_change_5 rfl ?_
  refine j_callRi (v := 0) (j_runV (ci := 0) (As := [.int (nI k), .int 5, .int 0, .int 0]) (rest := [.ref m0]) [0, 1, 2] C (c_X5_whyRange_5 l g m0 th N tb md rw0 sz cs va lk rn kp tr k n f (by omega) (by omega)) gX5_change_X5_whyRange rfl rfl rfl hd_X5_whyRange ⟨Nat.le_of_ble_eq_true rfl, Nat.le_of_ble_eq_true rfl⟩ rfl rfl rfl rfl dX5_change_7 rfl (Nat.le_of_ble_eq_true rfl) ⟨Nat.le_of_ble_eq_true rfl, Nat.le_of_ble_eq_true rfl⟩) ?_
  refine j_put (Cn := RX5) (T := TX5) (N := 11) (ws' := [(m0, .inr (4, [.int 0, .int (nI N), .ref tb, .ref md, .ref rw0, .int sz, .ref cs, .ref va, .int lk, .ref rn, .ref kp])), (tb, jaR g 10 (fun i => some (tr i))), (tr k, jaI g 253 (jrw n f)), (md, jaI g 253 (jrw n0 f0)), (tr N, jaI g 253 (jrw n1 f1))]) tyX5 0 0 C dX5_change_10 hin_X5_change_X5 tyX5_ok nmX5 rfl rfl (by decide) (List.mem_of_getElem? (i := 1) rfl) rfl (tyX5_ok 0 (by decide)) rfl rfl (Nat.le_of_ble_eq_true rfl) rfl ?_
  refine j_aload_n 0 C dX5_change_13 rfl rfl ?_
  refine j_get (Cn := RX5) (T := TX5) (N := 11) 0 0 C dX5_change_14 hin_X5_change_X5 rfl rfl (by decide) (List.mem_of_getElem? (i := 1) rfl) rfl ?_
  refine j_if_eq (tgt := 22) C dX5_change_17 (by decide) (fun c_1 => ?_) (fun c_1 => ?_)
  · skip
    refine j_aload_n 0 C dX5_change_22 rfl rfl ?_
    refine j_get (Cn := RX5) (T := TX5) (N := 11) 0 2 C dX5_change_23 hin_X5_change_X5 rfl rfl (by decide) (List.mem_of_getElem? (i := 2) rfl) rfl ?_
    refine j_iload_n 1 C dX5_change_26 rfl rfl ?_
    refine j_aldR (x := k) 1 C dX5_change_27 rfl rfl (by omega) (by decide) ?_
    refine j_eq (pc' := 28) (L' := [(0, .ref m0), (1, .int (nI k)), (2, .int 5), (3, .int 0), (4, .int 0)]) (st' := [.ref (tr k)]) (ws' := [(m0, .inr (4, [.int 0, .int (nI N), .ref tb, .ref md, .ref rw0, .int sz, .ref cs, .ref va, .int lk, .ref rn, .ref kp])), (tb, jaR g 10 (fun i => some (tr i))), (tr k, jaI g 253 (jrw n f)), (md, jaI g 253 (jrw n0 f0)), (tr N, jaI g 253 (jrw n1 f1))]) ?_ rfl rfl rfl rfl
    refine j_iload_n 2 C dX5_change_28 rfl rfl ?_
    refine j_iload_n 3 C dX5_change_29 rfl rfl ?_
    refine j_iload 4 C dX5_change_30 rfl ?_
    refine j_callRi (v := 0) (j_runS (As := [.ref (tr k), .int 5, .int 0, .int 0]) (rest := []) [2] C (c_X5_why_5 l g (tr k) n f 0 0) gX5_change_X5_why rfl rfl rfl hd_X5_why ⟨Nat.le_of_ble_eq_true rfl, Nat.le_of_ble_eq_true rfl⟩ rfl rfl dX5_change_32 rfl (Nat.le_of_ble_eq_true rfl) ⟨Nat.le_of_ble_eq_true rfl, Nat.le_of_ble_eq_true rfl⟩) ?_
    refine j_if_ne (tgt := 47) C dX5_change_35 (by decide) (fun c_2 => ?_) (fun c_2 => ?_)
    · skip
      exact absurd c_2 (by decide)
    · skip
      refine j_aload_n 0 C dX5_change_38 rfl rfl ?_
      refine j_get (Cn := RX5) (T := TX5) (N := 11) 0 1 C dX5_change_39 hin_X5_change_X5 rfl rfl (by decide) (List.mem_of_getElem? (i := 3) rfl) rfl ?_
      refine j_bipush (v := 10) C dX5_change_42 rfl ?_
      refine j_icmp_ne (tgt := 53) C dX5_change_44 (by decide) (fun c_3 => ?_) (fun c_3 => ?_)
      · skip
        have c_3 : ¬ N = 10 := fun z => c_3 ((nI_eq (a := N) (b := 10) (by omega) (by omega)).mpr z)
        refine j_aload_n 0 C dX5_change_53 rfl rfl ?_
        refine j_get (Cn := RX5) (T := TX5) (N := 11) 0 2 C dX5_change_54 hin_X5_change_X5 rfl rfl (by decide) (List.mem_of_getElem? (i := 2) rfl) rfl ?_
        refine j_iload_n 1 C dX5_change_57 rfl rfl ?_
        refine j_aldR (x := k) 1 C dX5_change_58 rfl rfl (by omega) (by decide) ?_
        refine j_eq (pc' := 59) (L' := [(0, .ref m0), (1, .int (nI k)), (2, .int 5), (3, .int 0), (4, .int 0)]) (st' := [.ref (tr k)]) (ws' := [(m0, .inr (4, [.int 0, .int (nI N), .ref tb, .ref md, .ref rw0, .int sz, .ref cs, .ref va, .int lk, .ref rn, .ref kp])), (tb, jaR g 10 (fun i => some (tr i))), (tr k, jaI g 253 (jrw n f)), (md, jaI g 253 (jrw n0 f0)), (tr N, jaI g 253 (jrw n1 f1))]) ?_ rfl rfl rfl rfl
        refine j_iconst (v := 0) C dX5_change_59 rfl ?_
        refine j_aload_n 0 C dX5_change_60 rfl rfl ?_
        refine j_get (Cn := RX5) (T := TX5) (N := 11) 0 3 C dX5_change_61 hin_X5_change_X5 rfl rfl (by decide) (List.mem_of_getElem? (i := 4) rfl) rfl ?_
        refine j_iconst (v := 0) C dX5_change_64 rfl ?_
        refine j_sipush (v := 253) C dX5_change_65 rfl ?_
        refine j_copyI (sp := 0) (dp := 0) (n := 253) (rest := []) (ws' := [(m0, .inr (4, [.int 0, .int (nI N), .ref tb, .ref md, .ref rw0, .int sz, .ref cs, .ref va, .int lk, .ref rn, .ref kp])), (tb, jaR g 10 (fun i => some (tr i))), (tr k, jaI g 253 (jrw n f)), (md, jaI g 253 (va_cpy (jrw n f) (jrw n0 f0) 0 0 253)), (tr N, jaI g 253 (jrw n1 f1))]) 2 3 C dX5_change_68 (List.mem_of_getElem? (i := 5) rfl) (List.mem_of_getElem? (i := 6) rfl) (List.mem_of_getElem? (i := 7) rfl) (List.mem_of_getElem? (i := 8) rfl) rfl rfl rfl rfl rfl (by omega) (by omega) (by decide) (by decide) (Nat.le_of_ble_eq_true rfl) (Nat.le_of_ble_eq_true rfl) rfl ?_
        refine j_arrI (f' := jrw n f) (ws' := [(m0, .inr (4, [.int 0, .int (nI N), .ref tb, .ref md, .ref rw0, .int sz, .ref cs, .ref va, .int lk, .ref rn, .ref kp])), (tb, jaR g 10 (fun i => some (tr i))), (tr k, jaI g 253 (jrw n f)), (md, jaI g 253 (jrw n f)), (tr N, jaI g 253 (jrw n1 f1))]) 3 rfl (fun i hi => jcp_all hi) rfl ?_
        refine j_aload_n 0 C dX5_change_71 rfl rfl ?_
        refine j_iload_n 2 C dX5_change_72 rfl rfl ?_
        refine j_iload_n 3 C dX5_change_73 rfl rfl ?_
        refine j_iload 4 C dX5_change_74 rfl ?_
        refine j_callWv [0, 3] (fun _ => [(m0, .inr (4, [.int 0, .int (nI N), .ref tb, .ref md, .ref rw0, .int sz, .ref cs, .ref va, .int lk, .ref rn, .ref kp])), (tb, jaR g 10 (fun i => some (tr i))), (tr k, jaI g 253 (jrw n f)), (md, jaI g 253 (jrw ((jStrip n (n, f)).1) ((jStrip n (n, f)).2))), (tr N, jaI g 253 (jrw n1 f1))]) C (j_runV (ci := 0) (As := [.int 5, .int 0, .int 0]) (rest := []) [0, 3] C (c_X5_make_5 l g m0 0 (nI N) tb md rw0 sz cs va lk rn kp n f 0 0 hok) gX5_change_X5_make rfl rfl rfl hd_X5_make ⟨Nat.le_of_ble_eq_true rfl, Nat.le_of_ble_eq_true rfl⟩ rfl rfl rfl rfl dX5_change_76 rfl (Nat.le_of_ble_eq_true rfl) ⟨Nat.le_of_ble_eq_true rfl, Nat.le_of_ble_eq_true rfl⟩) rfl (fun _ => rfl) (fun _ => rfl) (fun _ _ => ?_)
        refine j_aload_n 0 C dX5_change_79 rfl rfl ?_
        refine j_get (Cn := RX5) (T := TX5) (N := 11) 0 3 C dX5_change_80 hin_X5_change_X5 rfl rfl (by decide) (List.mem_of_getElem? (i := 4) rfl) rfl ?_
        refine j_iconst (v := 0) C dX5_change_83 rfl ?_
        refine j_aload_n 0 C dX5_change_84 rfl rfl ?_
        refine j_get (Cn := RX5) (T := TX5) (N := 11) 0 2 C dX5_change_85 hin_X5_change_X5 rfl rfl (by decide) (List.mem_of_getElem? (i := 2) rfl) rfl ?_
        refine j_aload_n 0 C dX5_change_88 rfl rfl ?_
        refine j_get (Cn := RX5) (T := TX5) (N := 11) 0 1 C dX5_change_89 hin_X5_change_X5 rfl rfl (by decide) (List.mem_of_getElem? (i := 3) rfl) rfl ?_
        refine j_aldR (x := N) 1 C dX5_change_92 rfl rfl (by omega) (by decide) ?_
        refine j_eq (pc' := 93) (L' := [(0, .ref m0), (1, .int (nI k)), (2, .int 5), (3, .int 0), (4, .int 0)]) (st' := [.ref (tr N), .int 0, .ref md]) (ws' := [(m0, .inr (4, [.int 0, .int (nI N), .ref tb, .ref md, .ref rw0, .int sz, .ref cs, .ref va, .int lk, .ref rn, .ref kp])), (tb, jaR g 10 (fun i => some (tr i))), (tr k, jaI g 253 (jrw n f)), (md, jaI g 253 (jrw ((jStrip n (n, f)).1) ((jStrip n (n, f)).2))), (tr N, jaI g 253 (jrw n1 f1))]) ?_ rfl rfl rfl rfl
        refine j_iconst (v := 0) C dX5_change_93 rfl ?_
        refine j_sipush (v := 253) C dX5_change_94 rfl ?_
        refine j_copyI (sp := 0) (dp := 0) (n := 253) (rest := []) (ws' := [(m0, .inr (4, [.int 0, .int (nI N), .ref tb, .ref md, .ref rw0, .int sz, .ref cs, .ref va, .int lk, .ref rn, .ref kp])), (tb, jaR g 10 (fun i => some (tr i))), (tr k, jaI g 253 (jrw n f)), (md, jaI g 253 (jrw ((jStrip n (n, f)).1) ((jStrip n (n, f)).2))), (tr N, jaI g 253 (va_cpy (jrw ((jStrip n (n, f)).1) ((jStrip n (n, f)).2)) (jrw n1 f1) 0 0 253))]) 3 4 C dX5_change_97 (List.mem_of_getElem? (i := 5) rfl) (List.mem_of_getElem? (i := 6) rfl) (List.mem_of_getElem? (i := 7) rfl) (List.mem_of_getElem? (i := 8) rfl) rfl rfl rfl rfl rfl (by omega) (by omega) (by decide) (by decide) (Nat.le_of_ble_eq_true rfl) (Nat.le_of_ble_eq_true rfl) rfl ?_
        refine j_arrI (f' := (jrw ((jStrip n (n, f)).1) ((jStrip n (n, f)).2))) (ws' := [(m0, .inr (4, [.int 0, .int (nI N), .ref tb, .ref md, .ref rw0, .int sz, .ref cs, .ref va, .int lk, .ref rn, .ref kp])), (tb, jaR g 10 (fun i => some (tr i))), (tr k, jaI g 253 (jrw n f)), (md, jaI g 253 (jrw ((jStrip n (n, f)).1) ((jStrip n (n, f)).2))), (tr N, jaI g 253 (jrw ((jStrip n (n, f)).1) ((jStrip n (n, f)).2)))]) 4 rfl (fun i hi => jcp_all hi) rfl ?_
        refine j_aload_n 0 C dX5_change_100 rfl rfl ?_
        refine j_dup C dX5_change_101 rfl ?_
        refine j_get (Cn := RX5) (T := TX5) (N := 11) 0 1 C dX5_change_102 hin_X5_change_X5 rfl rfl (by decide) (List.mem_of_getElem? (i := 3) rfl) rfl ?_
        refine j_iconst (v := 1) C dX5_change_105 rfl ?_
        refine j_iadd (x := nI N) (y := 1) (v := nI (N + 1)) C dX5_change_106 (nI_add N 1) ?_
        refine j_put (Cn := RX5) (T := TX5) (N := 11) (ws' := [(m0, .inr (4, [.int 0, .int (nI (N + 1)), .ref tb, .ref md, .ref rw0, .int sz, .ref cs, .ref va, .int lk, .ref rn, .ref kp])), (tb, jaR g 10 (fun i => some (tr i))), (tr k, jaI g 253 (jrw n f)), (md, jaI g 253 (jrw ((jStrip n (n, f)).1) ((jStrip n (n, f)).2))), (tr N, jaI g 253 (jrw ((jStrip n (n, f)).1) ((jStrip n (n, f)).2)))]) tyX5 0 1 C dX5_change_107 hin_X5_change_X5 tyX5_ok nmX5 rfl rfl (by decide) (List.mem_of_getElem? (i := 3) rfl) rfl (tyX5_ok 1 (by decide)) rfl rfl (Nat.le_of_ble_eq_true rfl) rfl ?_
        refine j_aload_n 0 C dX5_change_110 rfl rfl ?_
        refine j_get (Cn := RX5) (T := TX5) (N := 11) 0 1 C dX5_change_111 hin_X5_change_X5 rfl rfl (by decide) (List.mem_of_getElem? (i := 3) rfl) rfl ?_
        refine j_iconst (v := 1) C dX5_change_114 rfl ?_
        refine j_isub (x := nI (N + 1)) (y := 1) (v := nI ((N + 1) - 1)) C dX5_change_115 (pk_sub (a := N + 1) (b := 1) (by omega)) ?_
        exact j_iretW (v := nI ((N + 1) - 1)) C hr dX5_change_116 () (by rfl) rfl
      · skip
        have c_3 : N = 10 := (nI_eq (a := N) (b := 10) (by omega) (by omega)).mp c_3
        exact absurd c_3 (by omega)
  · skip
    exact absurd c_1 (by decide)
set_option maxHeartbeats 4000000 in
set_option maxRecDepth 100000 in
theorem c_X5_joinAll_p (l : Launch) (g : jG) (m0 : Nat) (th : Int32) (N tb md rw0 : Nat) (sz : Int32) (cs va : Nat) (lk : Int32) (rn kp : Nat) (x : Int32) (hx : jBt x 0 (nI N - 1) = false) : jWi l yX5_joinAll wsX5_joinAll ({ frames := 2, cells := 0, slots := 0, locals := 46 }) g [.ref m0, .int x] [(m0, .inr (4, [.int th, .int (nI N), .ref tb, .ref md, .ref rw0, .int sz, .ref cs, .ref va, .int lk, .ref rn, .ref kp]))] [(m0, .inr (4, [.int 1, .int (nI N), .ref tb, .ref md, .ref rw0, .int sz, .ref cs, .ref va, .int lk, .ref rn, .ref kp]))] 0 := by
  refine j_enterW (Qc := fun sz_ => va_Qi (fun r (_ : Unit) => r = 0) (fun _ t => va_P g.1 vwCl [(m0, .inr (4, [.int 1, .int (nI N), .ref tb, .ref md, .ref rw0, .int sz, .ref cs, .ref va, .int lk, .ref rn, .ref kp]))] t.heap) (va_A [(m0, .inr (4, [.int th, .int (nI N), .ref tb, .ref md, .ref rw0, .int sz, .ref cs, .ref va, .int lk, .ref rn, .ref kp]))] sz_)) (cc := cX5_joinAll) (maxL := 4) (ret := (some .int)) (own := RX5) (L := [(0, .ref m0), (1, .int x)]) (by decide) rfl rfl (Nat.le_of_ble_eq_true rfl) rfl (fun p e s m args below meth c C hr => ?_)
  refine j_aload_n 0 C dX5_joinAll_0 rfl rfl ?_
  refine j_iconst (v := 0) C dX5_joinAll_1 rfl ?_
  refine j_put (Cn := RX5) (T := TX5) (N := 11) (ws' := [(m0, .inr (4, [.int 0, .int (nI N), .ref tb, .ref md, .ref rw0, .int sz, .ref cs, .ref va, .int lk, .ref rn, .ref kp]))]) tyX5 0 0 C dX5_joinAll_2 hin_X5_joinAll_X5 tyX5_ok nmX5 rfl rfl (by decide) (List.mem_of_getElem? (i := 1) rfl) rfl (tyX5_ok 0 (by decide)) rfl rfl (Nat.le_of_ble_eq_true rfl) rfl ?_
  refine j_aload_n 0 C dX5_joinAll_5 rfl rfl ?_
  refine j_iload_n 1 C dX5_joinAll_6 rfl rfl ?_
  refine j_callRi (v := jb (jBt x 0 ((nI N) - 1))) (j_runV (ci := 0) (As := [.int x]) (rest := []) [0] C (c_X5_isProgram l g m0 0 (nI N) tb md rw0 sz cs va lk rn kp x) gX5_joinAll_X5_isProgram rfl rfl rfl hd_X5_isProgram ⟨Nat.le_of_ble_eq_true rfl, Nat.le_of_ble_eq_true rfl⟩ rfl rfl rfl rfl dX5_joinAll_7 rfl (Nat.le_of_ble_eq_true rfl) ⟨Nat.le_of_ble_eq_true rfl, Nat.le_of_ble_eq_true rfl⟩) ?_
  refine j_eq (pc' := 10) (L' := [(0, .ref m0), (1, .int x)]) (st' := [.int (jb false)]) (ws' := [(m0, .inr (4, [.int 0, .int (nI N), .ref tb, .ref md, .ref rw0, .int sz, .ref cs, .ref va, .int lk, .ref rn, .ref kp]))]) ?_ rfl rfl (by rw [hx]) rfl
  refine j_if_ne (tgt := 19) C dX5_joinAll_10 (by decide) (fun c_1 => ?_) (fun c_1 => ?_)
  · skip
    have c_1 : false = true := jb_1 c_1
    (first | exact absurd c_1 (by decide) | exact absurd c_1 (by omega) | simp_all)
  · skip
    have c_1 : false = false := jb_0 c_1
    refine j_aload_n 0 C dX5_joinAll_13 rfl rfl ?_
    refine j_iconst (v := 1) C dX5_joinAll_14 rfl ?_
    refine j_callWi [0] (fun _ => [(m0, .inr (4, [.int 1, .int (nI N), .ref tb, .ref md, .ref rw0, .int sz, .ref cs, .ref va, .int lk, .ref rn, .ref kp]))]) C (j_runV (ci := 0) (As := [.int 1]) (rest := []) [0] C (c_X5_fail l g m0 0 (nI N) tb md rw0 sz cs va lk rn kp 1) gX5_joinAll_X5_fail rfl rfl rfl hd_X5_fail ⟨Nat.le_of_ble_eq_true rfl, Nat.le_of_ble_eq_true rfl⟩ rfl rfl rfl rfl dX5_joinAll_15 rfl (Nat.le_of_ble_eq_true rfl) ⟨Nat.le_of_ble_eq_true rfl, Nat.le_of_ble_eq_true rfl⟩) rfl (fun _ => rfl) (fun _ => rfl) (fun z _ hz => ?_)
    subst hz
    exact j_iretW (v := 0) C hr dX5_joinAll_18 () rfl rfl
set_option maxHeartbeats 4000000 in
set_option maxRecDepth 100000 in
theorem c_X5_joinAll (l : Launch) (g : jG) (m0 : Nat) (th : Int32) (N tb md rw0 : Nat) (sz : Int32) (cs va : Nat) (lk : Int32) (rn kp : Nat) (tr : Nat → Nat) (k n : Nat) (f : Nat → Int32) (n0 : Nat) (f0 : Nat → Int32) (hk : k < N) (hN : N ≤ 10) (hok : jOk n f) : jWi l yX5_joinAll wsX5_joinAll ({ frames := 6, cells := 0, slots := 0, locals := 135 }) g [.ref m0, .int (nI k)] [(m0, .inr (4, [.int th, .int (nI N), .ref tb, .ref md, .ref rw0, .int sz, .ref cs, .ref va, .int lk, .ref rn, .ref kp])), (tb, jaR g 10 (fun i => some (tr i))), (tr k, jaI g 253 (jrw n f)), (md, jaI g 253 (jrw n0 f0))] [(m0, .inr (4, [.int 0, .int (nI N), .ref tb, .ref md, .ref rw0, .int sz, .ref cs, .ref va, .int lk, .ref rn, .ref kp])), (tb, jaR g 10 (fun i => some (tr i))), (tr k, jaI g 253 (jrw ((jJA 8 0 (n, f)).2.1) ((jJA 8 0 (n, f)).2.2))), (md, jaI g 253 (jrw ((jJA 8 0 (n, f)).2.1) ((jJA 8 0 (n, f)).2.2)))] (nI ((jJA 8 0 (n, f)).1)) := by
  refine j_enterW (Qc := fun sz_ => va_Qi (fun r (_ : Unit) => r = nI ((jJA 8 0 (n, f)).1)) (fun _ t => va_P g.1 vwCl [(m0, .inr (4, [.int 0, .int (nI N), .ref tb, .ref md, .ref rw0, .int sz, .ref cs, .ref va, .int lk, .ref rn, .ref kp])), (tb, jaR g 10 (fun i => some (tr i))), (tr k, jaI g 253 (jrw ((jJA 8 0 (n, f)).2.1) ((jJA 8 0 (n, f)).2.2))), (md, jaI g 253 (jrw ((jJA 8 0 (n, f)).2.1) ((jJA 8 0 (n, f)).2.2)))] t.heap) (va_A [(m0, .inr (4, [.int th, .int (nI N), .ref tb, .ref md, .ref rw0, .int sz, .ref cs, .ref va, .int lk, .ref rn, .ref kp])), (tb, jaR g 10 (fun i => some (tr i))), (tr k, jaI g 253 (jrw n f)), (md, jaI g 253 (jrw n0 f0))] sz_)) (cc := cX5_joinAll) (maxL := 4) (ret := (some .int)) (own := RX5) (L := [(0, .ref m0), (1, .int (nI k))]) (by decide) rfl rfl (Nat.le_of_ble_eq_true rfl) rfl (fun p e s m args below meth c C hr => ?_)
  refine j_aload_n 0 C dX5_joinAll_0 rfl rfl ?_
  refine j_iconst (v := 0) C dX5_joinAll_1 rfl ?_
  refine j_put (Cn := RX5) (T := TX5) (N := 11) (ws' := [(m0, .inr (4, [.int 0, .int (nI N), .ref tb, .ref md, .ref rw0, .int sz, .ref cs, .ref va, .int lk, .ref rn, .ref kp])), (tb, jaR g 10 (fun i => some (tr i))), (tr k, jaI g 253 (jrw n f)), (md, jaI g 253 (jrw n0 f0))]) tyX5 0 0 C dX5_joinAll_2 hin_X5_joinAll_X5 tyX5_ok nmX5 rfl rfl (by decide) (List.mem_of_getElem? (i := 1) rfl) rfl (tyX5_ok 0 (by decide)) rfl rfl (Nat.le_of_ble_eq_true rfl) rfl ?_
  refine j_aload_n 0 C dX5_joinAll_5 rfl rfl ?_
  refine j_iload_n 1 C dX5_joinAll_6 rfl rfl ?_
  refine j_callRi (v := jb (jBt (nI k) 0 ((nI N) - 1))) (j_runV (ci := 0) (As := [.int (nI k)]) (rest := []) [0] C (c_X5_isProgram l g m0 0 (nI N) tb md rw0 sz cs va lk rn kp (nI k)) gX5_joinAll_X5_isProgram rfl rfl rfl hd_X5_isProgram ⟨Nat.le_of_ble_eq_true rfl, Nat.le_of_ble_eq_true rfl⟩ rfl rfl rfl rfl dX5_joinAll_7 rfl (Nat.le_of_ble_eq_true rfl) ⟨Nat.le_of_ble_eq_true rfl, Nat.le_of_ble_eq_true rfl⟩) ?_
  refine j_eq (pc' := 10) (L' := [(0, .ref m0), (1, .int (nI k))]) (st' := [.int (jb true)]) (ws' := [(m0, .inr (4, [.int 0, .int (nI N), .ref tb, .ref md, .ref rw0, .int sz, .ref cs, .ref va, .int lk, .ref rn, .ref kp])), (tb, jaR g 10 (fun i => some (tr i))), (tr k, jaI g 253 (jrw n f)), (md, jaI g 253 (jrw n0 f0))]) ?_ rfl rfl (by rw [jBt_n hk (by omega)]) rfl
  refine j_if_ne (tgt := 19) C dX5_joinAll_10 (by decide) (fun c_1 => ?_) (fun c_1 => ?_)
  · skip
    have c_1 : true = true := jb_1 c_1
    refine j_aload_n 0 C dX5_joinAll_19 rfl rfl ?_
    refine j_get (Cn := RX5) (T := TX5) (N := 11) 0 2 C dX5_joinAll_20 hin_X5_joinAll_X5 rfl rfl (by decide) (List.mem_of_getElem? (i := 2) rfl) rfl ?_
    refine j_iload_n 1 C dX5_joinAll_23 rfl rfl ?_
    refine j_aldR (x := k) 1 C dX5_joinAll_24 rfl rfl (by omega) (by decide) ?_
    refine j_eq (pc' := 25) (L' := [(0, .ref m0), (1, .int (nI k))]) (st' := [.ref (tr k)]) (ws' := [(m0, .inr (4, [.int 0, .int (nI N), .ref tb, .ref md, .ref rw0, .int sz, .ref cs, .ref va, .int lk, .ref rn, .ref kp])), (tb, jaR g 10 (fun i => some (tr i))), (tr k, jaI g 253 (jrw n f)), (md, jaI g 253 (jrw n0 f0))]) ?_ rfl rfl rfl rfl
    refine j_iconst (v := 0) C dX5_joinAll_25 rfl ?_
    refine j_aload_n 0 C dX5_joinAll_26 rfl rfl ?_
    refine j_get (Cn := RX5) (T := TX5) (N := 11) 0 3 C dX5_joinAll_27 hin_X5_joinAll_X5 rfl rfl (by decide) (List.mem_of_getElem? (i := 3) rfl) rfl ?_
    refine j_iconst (v := 0) C dX5_joinAll_30 rfl ?_
    refine j_sipush (v := 253) C dX5_joinAll_31 rfl ?_
    refine j_copyI (sp := 0) (dp := 0) (n := 253) (rest := []) (ws' := [(m0, .inr (4, [.int 0, .int (nI N), .ref tb, .ref md, .ref rw0, .int sz, .ref cs, .ref va, .int lk, .ref rn, .ref kp])), (tb, jaR g 10 (fun i => some (tr i))), (tr k, jaI g 253 (jrw n f)), (md, jaI g 253 (va_cpy (jrw n f) (jrw n0 f0) 0 0 253))]) 2 3 C dX5_joinAll_34 (List.mem_of_getElem? (i := 4) rfl) (List.mem_of_getElem? (i := 5) rfl) (List.mem_of_getElem? (i := 6) rfl) (List.mem_of_getElem? (i := 7) rfl) rfl rfl rfl rfl rfl (by omega) (by omega) (by decide) (by decide) (Nat.le_of_ble_eq_true rfl) (Nat.le_of_ble_eq_true rfl) rfl ?_
    refine j_arrI (f' := jrw n f) (ws' := [(m0, .inr (4, [.int 0, .int (nI N), .ref tb, .ref md, .ref rw0, .int sz, .ref cs, .ref va, .int lk, .ref rn, .ref kp])), (tb, jaR g 10 (fun i => some (tr i))), (tr k, jaI g 253 (jrw n f)), (md, jaI g 253 (jrw n f))]) 3 rfl (fun i hi => jcp_all hi) rfl ?_
    refine j_iconst (v := 0) C dX5_joinAll_37 rfl ?_
    refine j_istore_n (L' := [(0, .ref m0), (1, .int (nI k)), (2, .int 0)]) C dX5_joinAll_38 rfl (Nat.le_of_ble_eq_true rfl) rfl rfl ?_
    refine j_iconst (v := 0) C dX5_joinAll_39 rfl ?_
    refine j_istore_n (L' := [(0, .ref m0), (1, .int (nI k)), (2, .int 0), (3, .int 0)]) C dX5_joinAll_40 rfl (Nat.le_of_ble_eq_true rfl) rfl rfl ?_
    refine j_loop (σ := Nat × Nat × Nat × (Nat → Int32)) (fun (x9_ : Nat × Nat × Nat × (Nat → Int32)) => match x9_ with | (q, x, n1, f1) => [(0, .ref m0), (1, .int (nI k)), (2, .int (nI q)), (3, .int (nI x))]) (fun (x9_ : Nat × Nat × Nat × (Nat → Int32)) => match x9_ with | (q, x, n1, f1) => [(m0, .inr (4, [.int 0, .int (nI N), .ref tb, .ref md, .ref rw0, .int sz, .ref cs, .ref va, .int lk, .ref rn, .ref kp])), (tb, jaR g 10 (fun i => some (tr i))), (tr k, jaI g 253 (jrw n f)), (md, jaI g 253 (jrw n1 f1))]) (fun (x9_ : Nat × Nat × Nat × (Nat → Int32)) => match x9_ with | (q, x, n1, f1) => (jOk n1 f1) ∧ (n1 + q = n ∧ n ≤ 8) ∧ (x ≤ 8 ∧ (x + 1 ≤ n1 ∨ x = 0)) ∧ (jFj f1 (n1 - 1 - x) x = jFj f1 (n1 - 1) 0) ∧ (jJA (8 - q) q (n1, f1) = jJA 8 0 (n, f))) (fun (x9_ : Nat × Nat × Nat × (Nat → Int32)) => match x9_ with | (q, x, n1, f1) => n1 * 10 + (9 - x)) (fun x_ hi_3 ih_2 => ?_) (0, 0, n, f) ⟨hok, (⟨rfl, hok.1⟩), (by omega), rfl, rfl⟩ rfl rfl
    obtain ⟨q, x, n1, f1⟩ := x_
    obtain ⟨hJ0, hJ1, hJ2, hJ3, hJ4⟩ := (show (jOk n1 f1) ∧ (n1 + q = n ∧ n ≤ 8) ∧ (x ≤ 8 ∧ (x + 1 ≤ n1 ∨ x = 0)) ∧ (jFj f1 (n1 - 1 - x) x = jFj f1 (n1 - 1) 0) ∧ (jJA (8 - q) q (n1, f1) = jJA 8 0 (n, f)) from hi_3)
    refine j_eq (pc' := 41) (L' := [(0, .ref m0), (1, .int (nI k)), (2, .int (nI q)), (3, .int (nI x))]) (st' := []) (ws' := [(m0, .inr (4, [.int 0, .int (nI N), .ref tb, .ref md, .ref rw0, .int sz, .ref cs, .ref va, .int lk, .ref rn, .ref kp])), (tb, jaR g 10 (fun i => some (tr i))), (tr k, jaI g 253 (jrw n f)), (md, jaI g 253 (jrw n1 f1))]) ?_ rfl rfl rfl rfl
    refine j_iload_n 3 C dX5_joinAll_41 rfl rfl ?_
    refine j_iconst (v := 1) C dX5_joinAll_42 rfl ?_
    refine j_iadd (x := nI x) (y := 1) (v := nI (x + 1)) C dX5_joinAll_43 (nI_add x 1) ?_
    refine j_aload_n 0 C dX5_joinAll_44 rfl rfl ?_
    refine j_get (Cn := RX5) (T := TX5) (N := 11) 0 3 C dX5_joinAll_45 hin_X5_joinAll_X5 rfl rfl (by decide) (List.mem_of_getElem? (i := 3) rfl) rfl ?_
    refine j_iconst (v := 0) C dX5_joinAll_48 rfl ?_
    refine j_ialdR0 3 C dX5_joinAll_49 rfl rfl ?_
    refine j_icmp_ge (tgt := 83) C dX5_joinAll_50 (by decide) (fun c_4 => ?_) (fun c_4 => ?_)
    · skip
      have c_4 : n1 ≤ (x + 1) := (nI_leI (a := n1) (b := x + 1) (by omega) (by omega)).mp c_4
      have hE : n1 ≤ jFj f1 (n1 - 1) 0 + 1 := by rw [← hJ3, show n1 - 1 - x = 0 by omega]; show n1 ≤ x + 1; omega
      have hA := jJA_out (m := 8 - q) (q := q) hE
      refine j_aload_n 0 C dX5_joinAll_83 rfl rfl ?_
      refine j_get (Cn := RX5) (T := TX5) (N := 11) 0 3 C dX5_joinAll_84 hin_X5_joinAll_X5 rfl rfl (by decide) (List.mem_of_getElem? (i := 3) rfl) rfl ?_
      refine j_iconst (v := 0) C dX5_joinAll_87 rfl ?_
      refine j_aload_n 0 C dX5_joinAll_88 rfl rfl ?_
      refine j_get (Cn := RX5) (T := TX5) (N := 11) 0 2 C dX5_joinAll_89 hin_X5_joinAll_X5 rfl rfl (by decide) (List.mem_of_getElem? (i := 2) rfl) rfl ?_
      refine j_iload_n 1 C dX5_joinAll_92 rfl rfl ?_
      refine j_aldR (x := k) 1 C dX5_joinAll_93 rfl rfl (by omega) (by decide) ?_
      refine j_eq (pc' := 94) (L' := [(0, .ref m0), (1, .int (nI k)), (2, .int (nI q)), (3, .int (nI x))]) (st' := [.ref (tr k), .int 0, .ref md]) (ws' := [(m0, .inr (4, [.int 0, .int (nI N), .ref tb, .ref md, .ref rw0, .int sz, .ref cs, .ref va, .int lk, .ref rn, .ref kp])), (tb, jaR g 10 (fun i => some (tr i))), (tr k, jaI g 253 (jrw n f)), (md, jaI g 253 (jrw n1 f1))]) ?_ rfl rfl rfl rfl
      refine j_iconst (v := 0) C dX5_joinAll_94 rfl ?_
      refine j_sipush (v := 253) C dX5_joinAll_95 rfl ?_
      refine j_copyI (sp := 0) (dp := 0) (n := 253) (rest := []) (ws' := [(m0, .inr (4, [.int 0, .int (nI N), .ref tb, .ref md, .ref rw0, .int sz, .ref cs, .ref va, .int lk, .ref rn, .ref kp])), (tb, jaR g 10 (fun i => some (tr i))), (tr k, jaI g 253 (va_cpy (jrw n1 f1) (jrw n f) 0 0 253)), (md, jaI g 253 (jrw n1 f1))]) 3 2 C dX5_joinAll_98 (List.mem_of_getElem? (i := 4) rfl) (List.mem_of_getElem? (i := 5) rfl) (List.mem_of_getElem? (i := 6) rfl) (List.mem_of_getElem? (i := 7) rfl) rfl rfl rfl rfl rfl (by omega) (by omega) (by decide) (by decide) (Nat.le_of_ble_eq_true rfl) (Nat.le_of_ble_eq_true rfl) rfl ?_
      refine j_arrI (f' := jrw n1 f1) (ws' := [(m0, .inr (4, [.int 0, .int (nI N), .ref tb, .ref md, .ref rw0, .int sz, .ref cs, .ref va, .int lk, .ref rn, .ref kp])), (tb, jaR g 10 (fun i => some (tr i))), (tr k, jaI g 253 (jrw n1 f1)), (md, jaI g 253 (jrw n1 f1))]) 2 rfl (fun i hi => jcp_all hi) rfl ?_
      refine j_iload_n 2 C dX5_joinAll_101 rfl rfl ?_
      exact j_iretW (v := nI q) C hr dX5_joinAll_102 () (by rw [← hJ4, hA]) (by rw [← hJ4, hA])
    · skip
      have c_4 : ¬ n1 ≤ (x + 1) := fun z => c_4 ((nI_leI (a := n1) (b := x + 1) (by omega) (by omega)).mpr z)
      obtain ⟨-, -, a, -, -, ha6, -, -, -, ha, -⟩ := hJ0.2 x (by omega)
      obtain ⟨-, -, b, -, -, hb6, -, -, -, hb, -⟩ := hJ0.2 (x + 1) (by omega)
      have hW := jWy_of ha ha6 hb hb6
      have hFs : jFj f1 (n1 - 1 - x) x = if jWy f1 x = 0 then x else jFj f1 (n1 - 1 - (x + 1)) (x + 1) := by rw [show n1 - 1 - x = (n1 - 1 - (x + 1)) + 1 by omega, jFj_s]
      refine j_aload_n 0 C dX5_joinAll_53 rfl rfl ?_
      refine j_get (Cn := RX5) (T := TX5) (N := 11) 0 3 C dX5_joinAll_54 hin_X5_joinAll_X5 rfl rfl (by decide) (List.mem_of_getElem? (i := 3) rfl) rfl ?_
      refine j_iload_n 3 C dX5_joinAll_57 rfl rfl ?_
      refine j_callRi (v := jRJ f1 x a b) (j_runS (As := [.ref md, .int (nI x)]) (rest := []) [3] C (c_X5_whyJoin l g md n1 f1 x a b (by omega) ha (by omega) hb (by omega)) gX5_joinAll_X5_whyJoin rfl rfl rfl hd_X5_whyJoin ⟨Nat.le_of_ble_eq_true rfl, Nat.le_of_ble_eq_true rfl⟩ rfl rfl dX5_joinAll_58 rfl (Nat.le_of_ble_eq_true rfl) ⟨Nat.le_of_ble_eq_true rfl, Nat.le_of_ble_eq_true rfl⟩) ?_
      refine j_if_eq (tgt := 70) C dX5_joinAll_61 (by decide) (fun c_5 => ?_) (fun c_5 => ?_)
      · skip
        have hz : jRJ f1 x a b = 0 := by assumption
        have hab := jRJ_ab hz
        have hF0 : jFj f1 (n1 - 1) 0 = x := by rw [← hJ3, hFs, hW, if_pos hz]
        have hA : jJA (8 - (q + 1)) (q + 1) (n1 - 1, jJn n1 f1 x a b) = jJA 8 0 (n, f) := by rw [← hJ4, show 8 - q = (8 - (q + 1)) + 1 by omega]; exact (jJA_in (by omega) hF0 ha ha6 hb hb6).symm
        refine j_aload_n 0 C dX5_joinAll_70 rfl rfl ?_
        refine j_iload_n 3 C dX5_joinAll_71 rfl rfl ?_
        refine j_callWv [0, 3] (fun _ => [(m0, .inr (4, [.int 0, .int (nI N), .ref tb, .ref md, .ref rw0, .int sz, .ref cs, .ref va, .int lk, .ref rn, .ref kp])), (tb, jaR g 10 (fun i => some (tr i))), (tr k, jaI g 253 (jrw n f)), (md, jaI g 253 (jrw (n1 - 1) (jRm (upd (va_cpy f1 f1 ((x + 1) * 28 + 4) (x * 28 + 4 + a * 4) (b * 4)) (x * 28 + 3) (nI (a + b))) ((x + 1) * 28) ((n1 - 1) * 28))))]) C (j_runV (ci := 0) (As := [.int (nI x)]) (rest := []) [0, 3] C (c_X5_join l g m0 0 (nI N) tb md rw0 sz cs va lk rn kp n1 f1 x a b (by omega) (by omega) ha hb (by omega)) gX5_joinAll_X5_join rfl rfl rfl hd_X5_join ⟨Nat.le_of_ble_eq_true rfl, Nat.le_of_ble_eq_true rfl⟩ rfl rfl rfl rfl dX5_joinAll_72 rfl (Nat.le_of_ble_eq_true rfl) ⟨Nat.le_of_ble_eq_true rfl, Nat.le_of_ble_eq_true rfl⟩) rfl (fun _ => rfl) (fun _ => rfl) (fun _ _ => ?_)
        refine j_iinc (v := nI (q + 1)) (L' := [(0, .ref m0), (1, .int (nI k)), (2, .int (nI (q + 1))), (3, .int (nI x))]) 2 C dX5_joinAll_75 rfl (nI_add q 1) (Nat.le_of_ble_eq_true rfl) rfl rfl ?_
        refine j_iconst (v := 0) C dX5_joinAll_78 rfl ?_
        refine j_istore_n (L' := [(0, .ref m0), (1, .int (nI k)), (2, .int (nI (q + 1))), (3, .int 0)]) C dX5_joinAll_79 rfl (Nat.le_of_ble_eq_true rfl) rfl rfl ?_
        refine j_goto (tgt := 41) C dX5_joinAll_80 (by decide) ?_
        exact ih_2 (q + 1, 0, (n1 - 1), (jRm (upd (va_cpy f1 f1 ((x + 1) * 28 + 4) (x * 28 + 4 + a * 4) (b * 4)) (x * 28 + 3) (nI (a + b))) ((x + 1) * 28) ((n1 - 1) * 28))) ⟨(jJn_ok hJ0 (by omega) ha hb hab), (by omega), (by omega), rfl, hA⟩ (show (n1 - 1) * 10 + (9 - 0) < n1 * 10 + (9 - x) from by omega)
      · skip
        refine j_iinc (v := nI (x + 1)) (L' := [(0, .ref m0), (1, .int (nI k)), (2, .int (nI q)), (3, .int (nI (x + 1)))]) 3 C dX5_joinAll_64 rfl (nI_add x 1) (Nat.le_of_ble_eq_true rfl) rfl rfl ?_
        refine j_goto (tgt := 41) C dX5_joinAll_67 (by decide) ?_
        exact ih_2 (q, x + 1, n1, f1) ⟨hJ0, (by omega), (by omega), (by rw [← hJ3, hFs, hW, if_neg (by assumption)]), hJ4⟩ (show n1 * 10 + (9 - (x + 1)) < n1 * 10 + (9 - x) from by omega)
  · skip
    have c_1 : true = false := jb_0 c_1
    (first | exact absurd c_1 (by decide) | exact absurd c_1 (by omega) | simp_all)
set_option maxHeartbeats 4000000 in
set_option maxRecDepth 100000 in
theorem c_X5_rows (l : Launch) (g : jG) (n v : Nat) (hn : n ≤ 6) (hv : v ≤ 4) (hv1 : 1 ≤ v) (hp : v ^ n ≤ 1024) : jRi l yX5_rows wsX5_rows ({ frames := 0, cells := 0, slots := 0, locals := 0 }) g [.int (nI n), .int (nI v)] [] (nI (v ^ n)) := by
  refine j_enterR (cc := cX5_rows) (maxL := 4) (ret := (some .int)) (own := RX5) (L := [(0, .int (nI n)), (1, .int (nI v))]) (by decide) rfl rfl (Nat.le_of_ble_eq_true rfl) rfl (fun p e s m args below meth c C hr => ?_)
  have hle : ∀ k, k ≤ n → v ^ k ≤ 1024 := fun k hk => Nat.le_trans (Nat.pow_le_pow_right hv1 hk) hp
  refine j_iconst (v := 1) C dX5_rows_0 rfl ?_
  refine j_istore_n (L' := [(0, .int (nI n)), (1, .int (nI v)), (2, .int 1)]) C dX5_rows_1 rfl (Nat.le_of_ble_eq_true rfl) rfl rfl ?_
  refine j_iconst (v := 0) C dX5_rows_2 rfl ?_
  refine j_istore_n (L' := [(0, .int (nI n)), (1, .int (nI v)), (2, .int 1), (3, .int 0)]) C dX5_rows_3 rfl (Nat.le_of_ble_eq_true rfl) rfl rfl ?_
  refine j_loop (σ := Nat) (fun (k : Nat) => [(0, .int (nI n)), (1, .int (nI v)), (2, .int (nI (v ^ k))), (3, .int (nI k))]) (fun (k : Nat) => []) (fun (k : Nat) => (k ≤ n)) (fun (k : Nat) => n - k) (fun x_ hi_2 ih_1 => ?_) 0 (by omega) rfl rfl
  obtain ⟨k, hx_⟩ : ∃ z, z = x_ := ⟨_, rfl⟩
  subst hx_
  have hi_2_0 : (k ≤ n) := hi_2
  refine j_eq (pc' := 4) (L' := [(0, .int (nI n)), (1, .int (nI v)), (2, .int (nI (v ^ k))), (3, .int (nI k))]) (st' := []) (ws' := []) ?_ rfl rfl rfl rfl
  refine j_iload_n 3 C dX5_rows_4 rfl rfl ?_
  refine j_iload_n 0 C dX5_rows_5 rfl rfl ?_
  refine j_icmp_ge (tgt := 26) C dX5_rows_6 (by decide) (fun c_3 => ?_) (fun c_3 => ?_)
  · skip
    have c_3 : n ≤ k := (nI_leI (a := n) (b := k) (by omega) (by omega)).mp c_3
    have hk1 := hle k (by omega)
    refine j_iload_n 2 C dX5_rows_26 rfl rfl ?_
    refine j_sipush (v := 1024) C dX5_rows_27 rfl ?_
    refine j_icmp_le (tgt := 37) C dX5_rows_30 (by decide) (fun c_4 => ?_) (fun c_4 => ?_)
    · skip
      have c_4 : (v ^ k) ≤ 1024 := (nI_leI (a := v ^ k) (b := 1024) (by omega) (by omega)).mp c_4
      refine j_iload_n 2 C dX5_rows_37 rfl rfl ?_
      exact j_iretR (v := nI (v ^ k)) C hr dX5_rows_38 (by rw [show k = n by omega])
    · skip
      have c_4 : ¬ (v ^ k) ≤ 1024 := fun z => c_4 ((nI_leI (a := v ^ k) (b := 1024) (by omega) (by omega)).mpr z)
      exact absurd c_4 (by omega)
  · skip
    have c_3 : ¬ n ≤ k := fun z => c_3 ((nI_leI (a := n) (b := k) (by omega) (by omega)).mpr z)
    have hk1 := hle k (by omega)
    refine j_iload_n 2 C dX5_rows_9 rfl rfl ?_
    refine j_sipush (v := 1024) C dX5_rows_10 rfl ?_
    refine j_icmp_gt (tgt := 26) C dX5_rows_13 (by decide) (fun c_5 => ?_) (fun c_5 => ?_)
    · skip
      have c_5 : 1024 < (v ^ k) := (nI_ltI (a := 1024) (b := v ^ k) (by omega) (by omega)).mp c_5
      exact absurd c_5 (by omega)
    · skip
      have c_5 : ¬ 1024 < (v ^ k) := fun z => c_5 ((nI_ltI (a := 1024) (b := v ^ k) (by omega) (by omega)).mpr z)
      refine j_iload_n 2 C dX5_rows_16 rfl rfl ?_
      refine j_iload_n 1 C dX5_rows_17 rfl rfl ?_
      refine j_imul (x := nI (v ^ k)) (y := nI v) (v := nI ((v ^ k) * v)) C dX5_rows_18 (pk_mul (v ^ k) v) ?_
      refine j_istore_n (L' := [(0, .int (nI n)), (1, .int (nI v)), (2, .int (nI ((v ^ k) * v))), (3, .int (nI k))]) C dX5_rows_19 rfl (Nat.le_of_ble_eq_true rfl) rfl rfl ?_
      refine j_iinc (v := nI (k + 1)) (L' := [(0, .int (nI n)), (1, .int (nI v)), (2, .int (nI ((v ^ k) * v))), (3, .int (nI (k + 1)))]) 3 C dX5_rows_20 rfl (nI_add k 1) (Nat.le_of_ble_eq_true rfl) rfl rfl ?_
      refine j_goto (tgt := 4) C dX5_rows_23 (by decide) ?_
      exact ih_1 (k + 1) (by omega) (show n - (k + 1) < n - k from by omega)
set_option maxHeartbeats 4000000 in
set_option maxRecDepth 100000 in
theorem c_X5_rows_f (l : Launch) (g : jG)   : jRi l yX5_rows wsX5_rows ({ frames := 0, cells := 0, slots := 0, locals := 0 }) g [.int 6, .int 4] [] (-1) := by
  refine j_enterR (cc := cX5_rows) (maxL := 4) (ret := (some .int)) (own := RX5) (L := [(0, .int 6), (1, .int 4)]) (by decide) rfl rfl (Nat.le_of_ble_eq_true rfl) rfl (fun p e s m args below meth c C hr => ?_)
  refine j_iconst (v := 1) C dX5_rows_0 rfl ?_
  refine j_istore_n (L' := [(0, .int 6), (1, .int 4), (2, .int 1)]) C dX5_rows_1 rfl (Nat.le_of_ble_eq_true rfl) rfl rfl ?_
  refine j_iconst (v := 0) C dX5_rows_2 rfl ?_
  refine j_istore_n (L' := [(0, .int 6), (1, .int 4), (2, .int 1), (3, .int 0)]) C dX5_rows_3 rfl (Nat.le_of_ble_eq_true rfl) rfl rfl ?_
  refine j_loop (σ := Nat) (fun (k : Nat) => [(0, .int 6), (1, .int 4), (2, .int (nI (4 ^ k))), (3, .int (nI k))]) (fun (k : Nat) => []) (fun (k : Nat) => (k ≤ 6)) (fun (k : Nat) => 6 - k) (fun x_ hi_2 ih_1 => ?_) 0 (by omega) rfl rfl
  obtain ⟨k, hx_⟩ : ∃ z, z = x_ := ⟨_, rfl⟩
  subst hx_
  have hi_2_0 : (k ≤ 6) := hi_2
  refine j_eq (pc' := 4) (L' := [(0, .int 6), (1, .int 4), (2, .int (nI (4 ^ k))), (3, .int (nI k))]) (st' := []) (ws' := []) ?_ rfl rfl rfl rfl
  refine j_iload_n 3 C dX5_rows_4 rfl rfl ?_
  refine j_iload_n 0 C dX5_rows_5 rfl rfl ?_
  refine j_icmp_ge (tgt := 26) C dX5_rows_6 (by decide) (fun c_3 => ?_) (fun c_3 => ?_)
  · skip
    have c_3 : 6 ≤ k := (nI_leI (a := 6) (b := k) (by omega) (by omega)).mp c_3
    have hk6 : k = 6 := by omega
    have hk1 : 4 ^ k = 4096 := by rw [hk6]
    refine j_iload_n 2 C dX5_rows_26 rfl rfl ?_
    refine j_sipush (v := 1024) C dX5_rows_27 rfl ?_
    refine j_icmp_le (tgt := 37) C dX5_rows_30 (by decide) (fun c_4 => ?_) (fun c_4 => ?_)
    · skip
      have c_4 : (4 ^ k) ≤ 1024 := (nI_leI (a := 4 ^ k) (b := 1024) (by omega) (by omega)).mp c_4
      exact absurd c_4 (by omega)
    · skip
      have c_4 : ¬ (4 ^ k) ≤ 1024 := fun z => c_4 ((nI_leI (a := 4 ^ k) (b := 1024) (by omega) (by omega)).mpr z)
      refine j_iconst (v := -1) C dX5_rows_33 rfl ?_
      refine j_goto (tgt := 38) C dX5_rows_34 (by decide) ?_
      exact j_iretR (v := -1) C hr dX5_rows_38 rfl
  · skip
    have c_3 : ¬ 6 ≤ k := fun z => c_3 ((nI_leI (a := 6) (b := k) (by omega) (by omega)).mpr z)
    have hk1 : 4 ^ k ≤ 1024 := Nat.le_trans (Nat.pow_le_pow_right (by decide) (show k ≤ 5 by omega)) (by decide)
    refine j_iload_n 2 C dX5_rows_9 rfl rfl ?_
    refine j_sipush (v := 1024) C dX5_rows_10 rfl ?_
    refine j_icmp_gt (tgt := 26) C dX5_rows_13 (by decide) (fun c_5 => ?_) (fun c_5 => ?_)
    · skip
      have c_5 : 1024 < (4 ^ k) := (nI_ltI (a := 1024) (b := 4 ^ k) (by omega) (by omega)).mp c_5
      exact absurd c_5 (by omega)
    · skip
      have c_5 : ¬ 1024 < (4 ^ k) := fun z => c_5 ((nI_ltI (a := 1024) (b := 4 ^ k) (by omega) (by omega)).mpr z)
      refine j_iload_n 2 C dX5_rows_16 rfl rfl ?_
      refine j_iload_n 1 C dX5_rows_17 rfl rfl ?_
      refine j_imul (x := nI (4 ^ k)) (y := 4) (v := nI ((4 ^ k) * 4)) C dX5_rows_18 (pk_mul (4 ^ k) 4) ?_
      refine j_istore_n (L' := [(0, .int 6), (1, .int 4), (2, .int (nI ((4 ^ k) * 4))), (3, .int (nI k))]) C dX5_rows_19 rfl (Nat.le_of_ble_eq_true rfl) rfl rfl ?_
      refine j_iinc (v := nI (k + 1)) (L' := [(0, .int 6), (1, .int 4), (2, .int (nI ((4 ^ k) * 4))), (3, .int (nI (k + 1)))]) 3 C dX5_rows_20 rfl (nI_add k 1) (Nat.le_of_ble_eq_true rfl) rfl rfl ?_
      refine j_goto (tgt := 4) C dX5_rows_23 (by decide) ?_
      exact ih_1 (k + 1) (by omega) (show 6 - (k + 1) < 6 - k from by omega)
set_option maxHeartbeats 4000000 in
set_option maxRecDepth 100000 in
theorem c_X5_areCases_1 (l : Launch) (g : jG) (n v : Int32) (h1 : jBt n 0 6 = false) : jRi l yX5_areCases wsX5_areCases ({ frames := 3, cells := 0, slots := 0, locals := 100 }) g [.int n, .int v] [] (jb false) := by
  refine j_enterR (cc := cX5_areCases) (maxL := 2) (ret := (some .boolean)) (own := RX5) (L := [(0, .int n), (1, .int v)]) (by decide) rfl rfl (Nat.le_of_ble_eq_true rfl) rfl (fun p e s m args below meth c C hr => ?_)
  refine j_iload_n 0 C dX5_areCases_0 rfl rfl ?_
  refine j_i2l (v := n.toInt64) C dX5_areCases_1 rfl ?_
  refine j_lconst (v := 0) C dX5_areCases_2 rfl ?_
  refine j_ldc2 (v := 6) C dX5_areCases_3 (List.mem_of_getElem? (i := 1) rfl) ?_
  refine j_callRi (v := jb (jIn n.toInt64 0 6)) (j_runS (As := [.long n.toInt64, .long 0, .long 6]) (rest := []) [] C (c_X5_isIn l g n.toInt64 0 6) gX5_areCases_X5_isIn rfl rfl rfl hd_X5_isIn ⟨Nat.le_of_ble_eq_true rfl, Nat.le_of_ble_eq_true rfl⟩ rfl rfl dX5_areCases_6 rfl (Nat.le_of_ble_eq_true rfl) ⟨Nat.le_of_ble_eq_true rfl, Nat.le_of_ble_eq_true rfl⟩) ?_
  refine j_eq (pc' := 9) (L' := [(0, .int n), (1, .int v)]) (st' := [.int (jb (jBt n 0 6))]) (ws' := []) ?_ rfl rfl (by rw [jIn_b n 0 6 _ _ (by decide) (by decide)]) rfl
  refine j_eq (pc' := 9) (L' := [(0, .int n), (1, .int v)]) (st' := [.int (jb false)]) (ws' := []) ?_ rfl rfl (by rw [h1]) rfl
  refine j_if_eq (tgt := 37) C dX5_areCases_9 (by decide) (fun c_1 => ?_) (fun c_1 => ?_)
  · skip
    have c_1 : false = false := jb_0 c_1
    refine j_iconst (v := 0) C dX5_areCases_37 rfl ?_
    exact j_zretR (v := 0) C hr dX5_areCases_38 rfl (by rfl)
  · skip
    have c_1 : false = true := jb_1 c_1
    (first | exact absurd c_1 (by decide) | exact absurd c_1 (by omega) | simp_all)
set_option maxHeartbeats 4000000 in
set_option maxRecDepth 100000 in
theorem c_X5_areCases_2 (l : Launch) (g : jG) (n v : Int32) (h2 : jBt v 1 4 = false) : jRi l yX5_areCases wsX5_areCases ({ frames := 3, cells := 0, slots := 0, locals := 100 }) g [.int n, .int v] [] (jb false) := by
  refine j_enterR (cc := cX5_areCases) (maxL := 2) (ret := (some .boolean)) (own := RX5) (L := [(0, .int n), (1, .int v)]) (by decide) rfl rfl (Nat.le_of_ble_eq_true rfl) rfl (fun p e s m args below meth c C hr => ?_)
  refine j_iload_n 0 C dX5_areCases_0 rfl rfl ?_
  refine j_i2l (v := n.toInt64) C dX5_areCases_1 rfl ?_
  refine j_lconst (v := 0) C dX5_areCases_2 rfl ?_
  refine j_ldc2 (v := 6) C dX5_areCases_3 (List.mem_of_getElem? (i := 1) rfl) ?_
  refine j_callRi (v := jb (jIn n.toInt64 0 6)) (j_runS (As := [.long n.toInt64, .long 0, .long 6]) (rest := []) [] C (c_X5_isIn l g n.toInt64 0 6) gX5_areCases_X5_isIn rfl rfl rfl hd_X5_isIn ⟨Nat.le_of_ble_eq_true rfl, Nat.le_of_ble_eq_true rfl⟩ rfl rfl dX5_areCases_6 rfl (Nat.le_of_ble_eq_true rfl) ⟨Nat.le_of_ble_eq_true rfl, Nat.le_of_ble_eq_true rfl⟩) ?_
  refine j_eq (pc' := 9) (L' := [(0, .int n), (1, .int v)]) (st' := [.int (jb (jBt n 0 6))]) (ws' := []) ?_ rfl rfl (by rw [jIn_b n 0 6 _ _ (by decide) (by decide)]) rfl
  refine j_if_eq (tgt := 37) C dX5_areCases_9 (by decide) (fun c_1 => ?_) (fun c_1 => ?_)
  · skip
    have c_1 : (jBt n 0 6) = false := jb_0 c_1
    refine j_iconst (v := 0) C dX5_areCases_37 rfl ?_
    exact j_zretR (v := 0) C hr dX5_areCases_38 rfl (by rfl)
  · skip
    have c_1 : (jBt n 0 6) = true := jb_1 c_1
    refine j_iload_n 1 C dX5_areCases_12 rfl rfl ?_
    refine j_i2l (v := v.toInt64) C dX5_areCases_13 rfl ?_
    refine j_lconst (v := 1) C dX5_areCases_14 rfl ?_
    refine j_ldc2 (v := 4) C dX5_areCases_15 (List.mem_of_getElem? (i := 2) rfl) ?_
    refine j_callRi (v := jb (jIn v.toInt64 1 4)) (j_runS (As := [.long v.toInt64, .long 1, .long 4]) (rest := []) [] C (c_X5_isIn l g v.toInt64 1 4) gX5_areCases_X5_isIn rfl rfl rfl hd_X5_isIn ⟨Nat.le_of_ble_eq_true rfl, Nat.le_of_ble_eq_true rfl⟩ rfl rfl dX5_areCases_18 rfl (Nat.le_of_ble_eq_true rfl) ⟨Nat.le_of_ble_eq_true rfl, Nat.le_of_ble_eq_true rfl⟩) ?_
    refine j_eq (pc' := 21) (L' := [(0, .int n), (1, .int v)]) (st' := [.int (jb (jBt v 1 4))]) (ws' := []) ?_ rfl rfl (by rw [jIn_b v 1 4 _ _ (by decide) (by decide)]) rfl
    refine j_eq (pc' := 21) (L' := [(0, .int n), (1, .int v)]) (st' := [.int (jb false)]) (ws' := []) ?_ rfl rfl (by rw [h2]) rfl
    refine j_if_eq (tgt := 37) C dX5_areCases_21 (by decide) (fun c_2 => ?_) (fun c_2 => ?_)
    · skip
      have c_2 : false = false := jb_0 c_2
      refine j_iconst (v := 0) C dX5_areCases_37 rfl ?_
      exact j_zretR (v := 0) C hr dX5_areCases_38 rfl (by rfl)
    · skip
      have c_2 : false = true := jb_1 c_2
      (first | exact absurd c_2 (by decide) | exact absurd c_2 (by omega) | simp_all)
set_option maxHeartbeats 4000000 in
set_option maxRecDepth 100000 in
theorem c_X5_areCases_3 (l : Launch) (g : jG)   : jRi l yX5_areCases wsX5_areCases ({ frames := 3, cells := 0, slots := 0, locals := 100 }) g [.int 6, .int 4] [] (jb false) := by
  refine j_enterR (cc := cX5_areCases) (maxL := 2) (ret := (some .boolean)) (own := RX5) (L := [(0, .int 6), (1, .int 4)]) (by decide) rfl rfl (Nat.le_of_ble_eq_true rfl) rfl (fun p e s m args below meth c C hr => ?_)
  refine j_iload_n 0 C dX5_areCases_0 rfl rfl ?_
  refine j_i2l (v := 6) C dX5_areCases_1 (by decide) ?_
  refine j_lconst (v := 0) C dX5_areCases_2 rfl ?_
  refine j_ldc2 (v := 6) C dX5_areCases_3 (List.mem_of_getElem? (i := 1) rfl) ?_
  refine j_callRi (v := jb (jIn 6 0 6)) (j_runS (As := [.long 6, .long 0, .long 6]) (rest := []) [] C (c_X5_isIn l g 6 0 6) gX5_areCases_X5_isIn rfl rfl rfl hd_X5_isIn ⟨Nat.le_of_ble_eq_true rfl, Nat.le_of_ble_eq_true rfl⟩ rfl rfl dX5_areCases_6 rfl (Nat.le_of_ble_eq_true rfl) ⟨Nat.le_of_ble_eq_true rfl, Nat.le_of_ble_eq_true rfl⟩) ?_
  refine j_eq (pc' := 9) (L' := [(0, .int 6), (1, .int 4)]) (st' := [.int (jb true)]) (ws' := []) ?_ rfl rfl (by rw [show jIn 6 0 6 = true by decide]) rfl
  refine j_if_eq (tgt := 37) C dX5_areCases_9 (by decide) (fun c_1 => ?_) (fun c_1 => ?_)
  · skip
    have c_1 : true = false := jb_0 c_1
    (first | exact absurd c_1 (by decide) | exact absurd c_1 (by omega) | simp_all)
  · skip
    have c_1 : true = true := jb_1 c_1
    refine j_iload_n 1 C dX5_areCases_12 rfl rfl ?_
    refine j_i2l (v := 4) C dX5_areCases_13 (by decide) ?_
    refine j_lconst (v := 1) C dX5_areCases_14 rfl ?_
    refine j_ldc2 (v := 4) C dX5_areCases_15 (List.mem_of_getElem? (i := 2) rfl) ?_
    refine j_callRi (v := jb (jIn 4 1 4)) (j_runS (As := [.long 4, .long 1, .long 4]) (rest := []) [] C (c_X5_isIn l g 4 1 4) gX5_areCases_X5_isIn rfl rfl rfl hd_X5_isIn ⟨Nat.le_of_ble_eq_true rfl, Nat.le_of_ble_eq_true rfl⟩ rfl rfl dX5_areCases_18 rfl (Nat.le_of_ble_eq_true rfl) ⟨Nat.le_of_ble_eq_true rfl, Nat.le_of_ble_eq_true rfl⟩) ?_
    refine j_eq (pc' := 21) (L' := [(0, .int 6), (1, .int 4)]) (st' := [.int (jb true)]) (ws' := []) ?_ rfl rfl (by rw [show jIn 4 1 4 = true by decide]) rfl
    refine j_if_eq (tgt := 37) C dX5_areCases_21 (by decide) (fun c_2 => ?_) (fun c_2 => ?_)
    · skip
      have c_2 : true = false := jb_0 c_2
      (first | exact absurd c_2 (by decide) | exact absurd c_2 (by omega) | simp_all)
    · skip
      have c_2 : true = true := jb_1 c_2
      refine j_iload_n 0 C dX5_areCases_24 rfl rfl ?_
      refine j_iload_n 1 C dX5_areCases_25 rfl rfl ?_
      refine j_callRi (v := -1) (j_runS (As := [.int 6, .int 4]) (rest := []) [] C (c_X5_rows_f l g ) gX5_areCases_X5_rows rfl rfl rfl hd_X5_rows ⟨Nat.le_of_ble_eq_true rfl, Nat.le_of_ble_eq_true rfl⟩ rfl rfl dX5_areCases_26 rfl (Nat.le_of_ble_eq_true rfl) ⟨Nat.le_of_ble_eq_true rfl, Nat.le_of_ble_eq_true rfl⟩) ?_
      refine j_iconst (v := -1) C dX5_areCases_29 rfl ?_
      refine j_icmp_eq (tgt := 37) C dX5_areCases_30 (by decide) (fun c_3 => ?_) (fun c_3 => ?_)
      · skip
        refine j_iconst (v := 0) C dX5_areCases_37 rfl ?_
        exact j_zretR (v := 0) C hr dX5_areCases_38 rfl (by rfl)
      · skip
        (first | exact absurd c_3 (by decide) | exact absurd c_3 (by omega) | simp_all)
set_option maxHeartbeats 4000000 in
set_option maxRecDepth 100000 in
theorem c_X5_areCases (l : Launch) (g : jG) (n v : Nat) (hn : n ≤ 6) (hv : v ≤ 4) (hv1 : 1 ≤ v) (hp : v ^ n ≤ 1024) : jRi l yX5_areCases wsX5_areCases ({ frames := 3, cells := 0, slots := 0, locals := 100 }) g [.int (nI n), .int (nI v)] [] (jb true) := by
  refine j_enterR (cc := cX5_areCases) (maxL := 2) (ret := (some .boolean)) (own := RX5) (L := [(0, .int (nI n)), (1, .int (nI v))]) (by decide) rfl rfl (Nat.le_of_ble_eq_true rfl) rfl (fun p e s m args below meth c C hr => ?_)
  refine j_iload_n 0 C dX5_areCases_0 rfl rfl ?_
  refine j_i2l (v := (nI n).toInt64) C dX5_areCases_1 rfl ?_
  refine j_lconst (v := 0) C dX5_areCases_2 rfl ?_
  refine j_ldc2 (v := 6) C dX5_areCases_3 (List.mem_of_getElem? (i := 1) rfl) ?_
  refine j_callRi (v := jb (jIn ((nI n).toInt64) 0 6)) (j_runS (As := [.long ((nI n).toInt64), .long 0, .long 6]) (rest := []) [] C (c_X5_isIn l g ((nI n).toInt64) 0 6) gX5_areCases_X5_isIn rfl rfl rfl hd_X5_isIn ⟨Nat.le_of_ble_eq_true rfl, Nat.le_of_ble_eq_true rfl⟩ rfl rfl dX5_areCases_6 rfl (Nat.le_of_ble_eq_true rfl) ⟨Nat.le_of_ble_eq_true rfl, Nat.le_of_ble_eq_true rfl⟩) ?_
  refine j_eq (pc' := 9) (L' := [(0, .int (nI n)), (1, .int (nI v))]) (st' := [.int (jb (jBt (nI n) 0 6))]) (ws' := []) ?_ rfl rfl (by rw [jIn_b (nI n) 0 6 _ _ (by decide) (by decide)]) rfl
  refine j_eq (pc' := 9) (L' := [(0, .int (nI n)), (1, .int (nI v))]) (st' := [.int (jb true)]) (ws' := []) ?_ rfl rfl (by rw [(show jBt (nI n) 0 6 = true from jBt_m (N := 6) hn (by omega))]) rfl
  refine j_if_eq (tgt := 37) C dX5_areCases_9 (by decide) (fun c_1 => ?_) (fun c_1 => ?_)
  · skip
    have c_1 : true = false := jb_0 c_1
    (first | exact absurd c_1 (by decide) | exact absurd c_1 (by omega) | simp_all)
  · skip
    have c_1 : true = true := jb_1 c_1
    refine j_iload_n 1 C dX5_areCases_12 rfl rfl ?_
    refine j_i2l (v := (nI v).toInt64) C dX5_areCases_13 rfl ?_
    refine j_lconst (v := 1) C dX5_areCases_14 rfl ?_
    refine j_ldc2 (v := 4) C dX5_areCases_15 (List.mem_of_getElem? (i := 2) rfl) ?_
    refine j_callRi (v := jb (jIn ((nI v).toInt64) 1 4)) (j_runS (As := [.long ((nI v).toInt64), .long 1, .long 4]) (rest := []) [] C (c_X5_isIn l g ((nI v).toInt64) 1 4) gX5_areCases_X5_isIn rfl rfl rfl hd_X5_isIn ⟨Nat.le_of_ble_eq_true rfl, Nat.le_of_ble_eq_true rfl⟩ rfl rfl dX5_areCases_18 rfl (Nat.le_of_ble_eq_true rfl) ⟨Nat.le_of_ble_eq_true rfl, Nat.le_of_ble_eq_true rfl⟩) ?_
    refine j_eq (pc' := 21) (L' := [(0, .int (nI n)), (1, .int (nI v))]) (st' := [.int (jb (jBt (nI v) 1 4))]) (ws' := []) ?_ rfl rfl (by rw [jIn_b (nI v) 1 4 _ _ (by decide) (by decide)]) rfl
    refine j_eq (pc' := 21) (L' := [(0, .int (nI n)), (1, .int (nI v))]) (st' := [.int (jb true)]) (ws' := []) ?_ rfl rfl (by rw [(show jBt (nI v) 1 4 = true from jBt_2 (N := 4) hv1 hv (by omega))]) rfl
    refine j_if_eq (tgt := 37) C dX5_areCases_21 (by decide) (fun c_2 => ?_) (fun c_2 => ?_)
    · skip
      have c_2 : true = false := jb_0 c_2
      (first | exact absurd c_2 (by decide) | exact absurd c_2 (by omega) | simp_all)
    · skip
      have c_2 : true = true := jb_1 c_2
      refine j_iload_n 0 C dX5_areCases_24 rfl rfl ?_
      refine j_iload_n 1 C dX5_areCases_25 rfl rfl ?_
      refine j_callRi (v := nI (v ^ n)) (j_runS (As := [.int (nI n), .int (nI v)]) (rest := []) [] C (c_X5_rows l g n v (by omega) (by omega) (by omega) (by omega)) gX5_areCases_X5_rows rfl rfl rfl hd_X5_rows ⟨Nat.le_of_ble_eq_true rfl, Nat.le_of_ble_eq_true rfl⟩ rfl rfl dX5_areCases_26 rfl (Nat.le_of_ble_eq_true rfl) ⟨Nat.le_of_ble_eq_true rfl, Nat.le_of_ble_eq_true rfl⟩) ?_
      refine j_iconst (v := -1) C dX5_areCases_29 rfl ?_
      refine j_icmp_eq (tgt := 37) C dX5_areCases_30 (by decide) (fun c_3 => ?_) (fun c_3 => ?_)
      · skip
        exact absurd ‹nI (v ^ n) = -1› (jpos_ne (by omega))
      · skip
        refine j_iconst (v := 1) C dX5_areCases_33 rfl ?_
        refine j_goto (tgt := 38) C dX5_areCases_34 (by decide) ?_
        exact j_zretR (v := 1) C hr dX5_areCases_38 rfl (by rfl)
set_option maxHeartbeats 4000000 in
set_option maxRecDepth 100000 in
theorem c_X5_layCase (l : Launch) (g : jG) (m0 : Nat) (th np : Int32) (tb md rw0 : Nat) (sz : Int32) (cs va : Nat) (lk : Int32) (rn kp : Nat) (x n v : Nat) (cf : Nat → Int64) (hn : n ≤ 6) (hv : v ≤ 4) (hv1 : 1 ≤ v) (hx : x < 1024) : jWv l yX5_layCase wsX5_layCase ({ frames := 0, cells := 0, slots := 0, locals := 0 }) g [.ref m0, .int (nI x), .int (nI n), .int (nI v)] [(m0, .inr (4, [.int th, .int np, .ref tb, .ref md, .ref rw0, .int sz, .ref cs, .ref va, .int lk, .ref rn, .ref kp])), (cs, jaL g 6 cf)] [(m0, .inr (4, [.int th, .int np, .ref tb, .ref md, .ref rw0, .int sz, .ref cs, .ref va, .int lk, .ref rn, .ref kp])), (cs, jaL g 6 (jLy n v x 0 cf))] := by
  refine j_enterW (Qc := fun sz_ => va_Qv (fun (_ : Unit) => True) (fun _ t => va_P g.1 vwCl [(m0, .inr (4, [.int th, .int np, .ref tb, .ref md, .ref rw0, .int sz, .ref cs, .ref va, .int lk, .ref rn, .ref kp])), (cs, jaL g 6 (jLy n v x 0 cf))] t.heap) (va_A [(m0, .inr (4, [.int th, .int np, .ref tb, .ref md, .ref rw0, .int sz, .ref cs, .ref va, .int lk, .ref rn, .ref kp])), (cs, jaL g 6 cf)] sz_)) (cc := cX5_layCase) (maxL := 6) (ret := none) (own := RX5) (L := [(0, .ref m0), (1, .int (nI x)), (2, .int (nI n)), (3, .int (nI v))]) (by decide) rfl rfl (Nat.le_of_ble_eq_true rfl) rfl (fun p e s m args below meth c C hr => ?_)
  refine j_iload_n 1 C dX5_layCase_0 rfl rfl ?_
  refine j_istore (L' := [(0, .ref m0), (1, .int (nI x)), (2, .int (nI n)), (3, .int (nI v)), (4, .int (nI x))]) C dX5_layCase_1 (Nat.le_of_ble_eq_true rfl) rfl rfl ?_
  refine j_eq (pc' := 3) (L' := [(0, .ref m0), (1, .int (nI x)), (2, .int (nI n)), (3, .int (nI v)), (4, .int (nI (x / v ^ (n - n))))]) (st' := []) (ws' := [(m0, .inr (4, [.int th, .int np, .ref tb, .ref md, .ref rw0, .int sz, .ref cs, .ref va, .int lk, .ref rn, .ref kp])), (cs, jaL g 6 cf)]) ?_ rfl (by rw [Nat.sub_self, Nat.pow_zero, Nat.div_one]) rfl rfl
  refine j_iload_n 2 C dX5_layCase_3 rfl rfl ?_
  refine j_iconst (v := 1) C dX5_layCase_4 rfl ?_
  refine j_isub (x := nI n) (y := 1) (v := nI n - 1) C dX5_layCase_5 rfl ?_
  refine j_istore (L' := [(0, .ref m0), (1, .int (nI x)), (2, .int (nI n)), (3, .int (nI v)), (4, .int (nI (x / v ^ (n - n)))), (5, .int (nI n - 1))]) C dX5_layCase_6 (Nat.le_of_ble_eq_true rfl) rfl rfl ?_
  refine j_loop (σ := Nat) (fun (t : Nat) => [(0, .ref m0), (1, .int (nI x)), (2, .int (nI n)), (3, .int (nI v)), (4, .int (nI (x / v ^ (n - t)))), (5, .int (nI t - 1))]) (fun (t : Nat) => [(m0, .inr (4, [.int th, .int np, .ref tb, .ref md, .ref rw0, .int sz, .ref cs, .ref va, .int lk, .ref rn, .ref kp])), (cs, jaL g 6 (jLy n v x t cf))]) (fun (t : Nat) => (t ≤ n)) (fun (t : Nat) => t) (fun x_ hi_2 ih_1 => ?_) n (by omega) rfl (by rw [jLy_0])
  obtain ⟨t, hx_⟩ : ∃ z, z = x_ := ⟨_, rfl⟩
  subst hx_
  have hi_2_0 : (t ≤ n) := hi_2
  refine j_eq (pc' := 8) (L' := [(0, .ref m0), (1, .int (nI x)), (2, .int (nI n)), (3, .int (nI v)), (4, .int (nI (x / v ^ (n - t)))), (5, .int (nI t - 1))]) (st' := []) (ws' := [(m0, .inr (4, [.int th, .int np, .ref tb, .ref md, .ref rw0, .int sz, .ref cs, .ref va, .int lk, .ref rn, .ref kp])), (cs, jaL g 6 (jLy n v x t cf))]) ?_ rfl rfl rfl rfl
  refine j_iload 5 C dX5_layCase_8 rfl ?_
  refine j_if_lt (tgt := 37) C dX5_layCase_10 (by decide) (fun c_3 => ?_) (fun c_3 => ?_)
  · skip
    obtain rfl : t = 0 := (jm_lt0 (by omega)).mp c_3
    exact j_vretW C hr dX5_layCase_37 () trivial rfl
  · skip
    have c_3 : ¬ t = 0 := fun z => c_3 ((jm_lt0 (by omega)).mpr z)
    obtain ⟨y, rfl⟩ : ∃ y, t = y + 1 := ⟨t - 1, by omega⟩
    refine j_eq (pc' := 13) (L' := [(0, .ref m0), (1, .int (nI x)), (2, .int (nI n)), (3, .int (nI v)), (4, .int (nI (x / v ^ (n - (y + 1))))), (5, .int (nI y))]) (st' := []) (ws' := [(m0, .inr (4, [.int th, .int np, .ref tb, .ref md, .ref rw0, .int sz, .ref cs, .ref va, .int lk, .ref rn, .ref kp])), (cs, jaL g 6 (jLy n v x (y + 1) cf))]) ?_ rfl (by rw [jm_s]) rfl rfl
    refine j_aload_n 0 C dX5_layCase_13 rfl rfl ?_
    refine j_get (Cn := RX5) (T := TX5) (N := 11) 0 6 C dX5_layCase_14 hin_X5_layCase_X5 rfl rfl (by decide) (List.mem_of_getElem? (i := 1) rfl) rfl ?_
    refine j_iload 5 C dX5_layCase_17 rfl ?_
    refine j_iload 4 C dX5_layCase_19 rfl ?_
    refine j_iload_n 3 C dX5_layCase_21 rfl rfl ?_
    refine j_irem (x := nI (x / v ^ (n - (y + 1)))) (y := nI v) (v := nI ((x / v ^ (n - (y + 1))) % v)) C dX5_layCase_22 (nI_ne0 (by omega) (by omega)) (pk_rem (Nat.lt_of_le_of_lt (Nat.div_le_self _ _) (by omega)) (by omega) (by omega)) ?_
    refine j_i2l (v := lN ((x / v ^ (n - (y + 1))) % v)) C dX5_layCase_23 (jI_l (Nat.lt_of_lt_of_le (Nat.mod_lt _ (by omega)) (by omega))) ?_
    refine j_lastN (x := y) (ws' := [(m0, .inr (4, [.int th, .int np, .ref tb, .ref md, .ref rw0, .int sz, .ref cs, .ref va, .int lk, .ref rn, .ref kp])), (cs, jaL g 6 (vp_updL (jLy n v x (y + 1) cf) y (lN ((x / v ^ (n - (y + 1))) % v))))]) 1 C dX5_layCase_24 rfl rfl (by omega) (by decide) rfl ?_
    refine j_iload 4 C dX5_layCase_25 rfl ?_
    refine j_iload_n 3 C dX5_layCase_27 rfl rfl ?_
    refine j_idiv (x := nI (x / v ^ (n - (y + 1)))) (y := nI v) (v := nI (x / v ^ (n - (y + 1)) / v)) C dX5_layCase_28 (nI_ne0 (by omega) (by omega)) (pk_div (Nat.lt_of_le_of_lt (Nat.div_le_self _ _) (by omega)) (by omega) (by omega)) ?_
    refine j_eq (pc' := 29) (L' := [(0, .ref m0), (1, .int (nI x)), (2, .int (nI n)), (3, .int (nI v)), (4, .int (nI (x / v ^ (n - (y + 1))))), (5, .int (nI y))]) (st' := [.int (nI (x / v ^ (n - y)))]) (ws' := [(m0, .inr (4, [.int th, .int np, .ref tb, .ref md, .ref rw0, .int sz, .ref cs, .ref va, .int lk, .ref rn, .ref kp])), (cs, jaL g 6 (vp_updL (jLy n v x (y + 1) cf) y (lN ((x / v ^ (n - (y + 1))) % v))))]) ?_ rfl rfl (by rw [jLy_d (by omega)]) rfl
    refine j_istore (L' := [(0, .ref m0), (1, .int (nI x)), (2, .int (nI n)), (3, .int (nI v)), (4, .int (nI (x / v ^ (n - y)))), (5, .int (nI y))]) C dX5_layCase_29 (Nat.le_of_ble_eq_true rfl) rfl rfl ?_
    refine j_iinc (v := nI y - 1) (L' := [(0, .ref m0), (1, .int (nI x)), (2, .int (nI n)), (3, .int (nI v)), (4, .int (nI (x / v ^ (n - y)))), (5, .int (nI y - 1))]) 5 C dX5_layCase_31 rfl (jm_m1 y) (Nat.le_of_ble_eq_true rfl) rfl rfl ?_
    refine j_goto (tgt := 8) C dX5_layCase_34 (by decide) ?_
    refine j_eq (pc' := 8) (L' := [(0, .ref m0), (1, .int (nI x)), (2, .int (nI n)), (3, .int (nI v)), (4, .int (nI (x / v ^ (n - y)))), (5, .int (nI y - 1))]) (st' := []) (ws' := [(m0, .inr (4, [.int th, .int np, .ref tb, .ref md, .ref rw0, .int sz, .ref cs, .ref va, .int lk, .ref rn, .ref kp])), (cs, jaL g 6 (jLy n v x y cf))]) ?_ rfl rfl rfl (by rw [jLy_s (by omega)])
    exact ih_1 y (by omega) (show y < y + 1 from by omega)
