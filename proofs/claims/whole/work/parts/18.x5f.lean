theorem hd_X5_join : yX5_join.cls = RX5 ∧ yX5_join.cls ≠ "java/lang/invoke/MethodHandle" ∧ yX5_join.cls ≠ "java/lang/invoke/VarHandle" ∧ (parseMethodDescriptor yX5_join.desc).map (fun d => d.parameters.length) = some 1 := by decide +kernel
theorem hd_X5_divide : yX5_divide.cls = RX5 ∧ yX5_divide.cls ≠ "java/lang/invoke/MethodHandle" ∧ yX5_divide.cls ≠ "java/lang/invoke/VarHandle" ∧ (parseMethodDescriptor yX5_divide.desc).map (fun d => d.parameters.length) = some 2 := by decide +kernel
theorem hd_X5_peel : yX5_peel.cls = RX5 ∧ yX5_peel.cls ≠ "java/lang/invoke/MethodHandle" ∧ yX5_peel.cls ≠ "java/lang/invoke/VarHandle" ∧ (parseMethodDescriptor yX5_peel.desc).map (fun d => d.parameters.length) = some 2 := by decide +kernel
set_option maxRecDepth 100000 in
theorem hin_X5_make_X5 : ∀ w ∈ u_ws RX5 TX5 11, w ∈ wsX5_make := fun w h => List.mem_cons_of_mem _ (by exact List.mem_append_right _ h)
theorem hd_X5_swap : yX5_swap.cls = RX5 ∧ yX5_swap.cls ≠ "java/lang/invoke/MethodHandle" ∧ yX5_swap.cls ≠ "java/lang/invoke/VarHandle" ∧ (parseMethodDescriptor yX5_swap.desc).map (fun d => d.parameters.length) = some 1 := by decide +kernel
theorem hd_X5_strip : yX5_strip.cls = RX5 ∧ yX5_strip.cls ≠ "java/lang/invoke/MethodHandle" ∧ yX5_strip.cls ≠ "java/lang/invoke/VarHandle" ∧ (parseMethodDescriptor yX5_strip.desc).map (fun d => d.parameters.length) = some 0 := by decide +kernel
set_option maxRecDepth 100000 in
theorem hin_X5_whyRange_X5 : ∀ w ∈ u_ws RX5 TX5 11, w ∈ wsX5_whyRange := fun w h => List.mem_cons_of_mem _ (by exact List.mem_append_right _ h)
set_option maxHeartbeats 4000000 in
set_option maxRecDepth 100000 in
theorem c_X5_make_0 (l : Launch) (g : jG) (m0 : Nat) (th np : Int32) (tb md rw0 : Nat) (sz : Int32) (cs va : Nat) (lk : Int32) (rn kp : Nat) (n : Nat) (f : Nat → Int32) (k a b : Nat) (w : Int32) (hk : k + 1 < n) (hn : n ≤ 8) (ha : f (k * 28 + 3) = nI a) (hb : f ((k + 1) * 28 + 3) = nI b) (hab : a + b ≤ 6) : jWv l yX5_make wsX5_make ({ frames := 3, cells := 0, slots := 0, locals := 64 }) g [.ref m0, .int 0, .int (nI k), .int w] [(m0, .inr (4, [.int th, .int np, .ref tb, .ref md, .ref rw0, .int sz, .ref cs, .ref va, .int lk, .ref rn, .ref kp])), (md, jaI g 253 (jrw n f))] [(m0, .inr (4, [.int th, .int np, .ref tb, .ref md, .ref rw0, .int sz, .ref cs, .ref va, .int lk, .ref rn, .ref kp])), (md, jaI g 253 (jrw (n - 1) (jRm (upd (va_cpy f f ((k + 1) * 28 + 4) (k * 28 + 4 + a * 4) (b * 4)) (k * 28 + 3) (nI (a + b))) ((k + 1) * 28) ((n - 1) * 28))))] := by
  refine j_enterW (Qc := fun sz_ => va_Qv (fun (_ : Unit) => True) (fun _ t => va_P g.1 vwCl [(m0, .inr (4, [.int th, .int np, .ref tb, .ref md, .ref rw0, .int sz, .ref cs, .ref va, .int lk, .ref rn, .ref kp])), (md, jaI g 253 (jrw (n - 1) (jRm (upd (va_cpy f f ((k + 1) * 28 + 4) (k * 28 + 4 + a * 4) (b * 4)) (k * 28 + 3) (nI (a + b))) ((k + 1) * 28) ((n - 1) * 28))))] t.heap) (va_A [(m0, .inr (4, [.int th, .int np, .ref tb, .ref md, .ref rw0, .int sz, .ref cs, .ref va, .int lk, .ref rn, .ref kp])), (md, jaI g 253 (jrw n f))] sz_)) (cc := cX5_make) (maxL := 4) (ret := none) (own := RX5) (L := [(0, .ref m0), (1, .int 0), (2, .int (nI k)), (3, .int w)]) (by decide) rfl rfl (Nat.le_of_ble_eq_true rfl) rfl (fun p e s m args below meth c C hr => ?_)
  refine j_iload_n 1 C dX5_make_0 rfl rfl ?_
  refine j_tabIn (tgt := 36) C dX5_make_1 (by decide) (by decide) rfl (by decide) ?_
  refine j_aload_n 0 C dX5_make_36 rfl rfl ?_
  refine j_iload_n 2 C dX5_make_37 rfl rfl ?_
  refine j_callWv [0, 1] (fun _ => [(m0, .inr (4, [.int th, .int np, .ref tb, .ref md, .ref rw0, .int sz, .ref cs, .ref va, .int lk, .ref rn, .ref kp])), (md, jaI g 253 (jrw (n - 1) (jRm (upd (va_cpy f f ((k + 1) * 28 + 4) (k * 28 + 4 + a * 4) (b * 4)) (k * 28 + 3) (nI (a + b))) ((k + 1) * 28) ((n - 1) * 28))))]) C (j_runV (ci := 0) (As := [.int (nI k)]) (rest := []) [0, 1] C (c_X5_join l g m0 th np tb md rw0 sz cs va lk rn kp n f k a b (by omega) (by omega) ha hb (by omega)) gX5_make_X5_join rfl rfl rfl hd_X5_join ⟨Nat.le_of_ble_eq_true rfl, Nat.le_of_ble_eq_true rfl⟩ rfl rfl rfl rfl dX5_make_38 rfl (Nat.le_of_ble_eq_true rfl) ⟨Nat.le_of_ble_eq_true rfl, Nat.le_of_ble_eq_true rfl⟩) rfl (fun _ => rfl) (fun _ => rfl) (fun _ _ => ?_)
  refine j_goto (tgt := 101) C dX5_make_41 (by decide) ?_
  exact j_vretW C hr dX5_make_101 () trivial rfl
set_option maxHeartbeats 4000000 in
set_option maxRecDepth 100000 in
theorem c_X5_make_1 (l : Launch) (g : jG) (m0 : Nat) (th np : Int32) (tb md rw0 : Nat) (sz : Int32) (cs va : Nat) (lk : Int32) (rn kp : Nat) (n : Nat) (f : Nat → Int32) (k i a : Nat) (hk : k < n) (hn : n < 8) (ha : f (k * 28 + 3) = nI a) (hi : i ≤ a) (ha6 : a ≤ 6) : jWv l yX5_make wsX5_make ({ frames := 4, cells := 0, slots := 0, locals := 88 }) g [.ref m0, .int 1, .int (nI k), .int (nI i)] [(m0, .inr (4, [.int th, .int np, .ref tb, .ref md, .ref rw0, .int sz, .ref cs, .ref va, .int lk, .ref rn, .ref kp])), (md, jaI g 253 (jrw n f))] [(m0, .inr (4, [.int th, .int np, .ref tb, .ref md, .ref rw0, .int sz, .ref cs, .ref va, .int lk, .ref rn, .ref kp])), (md, jaI g 253 (jrw (n + 1) (upd (va_cpy (upd (jRp f (n * 28) (k * 28)) (k * 28 + 3) (nI i)) (upd (jRp f (n * 28) (k * 28)) (k * 28 + 3) (nI i)) ((k + 1) * 28 + 4 + i * 4) ((k + 1) * 28 + 4) ((a - i) * 4)) ((k + 1) * 28 + 3) (nI (a - i)))))] := by
  refine j_enterW (Qc := fun sz_ => va_Qv (fun (_ : Unit) => True) (fun _ t => va_P g.1 vwCl [(m0, .inr (4, [.int th, .int np, .ref tb, .ref md, .ref rw0, .int sz, .ref cs, .ref va, .int lk, .ref rn, .ref kp])), (md, jaI g 253 (jrw (n + 1) (upd (va_cpy (upd (jRp f (n * 28) (k * 28)) (k * 28 + 3) (nI i)) (upd (jRp f (n * 28) (k * 28)) (k * 28 + 3) (nI i)) ((k + 1) * 28 + 4 + i * 4) ((k + 1) * 28 + 4) ((a - i) * 4)) ((k + 1) * 28 + 3) (nI (a - i)))))] t.heap) (va_A [(m0, .inr (4, [.int th, .int np, .ref tb, .ref md, .ref rw0, .int sz, .ref cs, .ref va, .int lk, .ref rn, .ref kp])), (md, jaI g 253 (jrw n f))] sz_)) (cc := cX5_make) (maxL := 4) (ret := none) (own := RX5) (L := [(0, .ref m0), (1, .int 1), (2, .int (nI k)), (3, .int (nI i))]) (by decide) rfl rfl (Nat.le_of_ble_eq_true rfl) rfl (fun p e s m args below meth c C hr => ?_)
  refine j_iload_n 1 C dX5_make_0 rfl rfl ?_
  refine j_tabIn (tgt := 44) C dX5_make_1 (by decide) (by decide) rfl (by decide) ?_
  refine j_aload_n 0 C dX5_make_44 rfl rfl ?_
  refine j_iload_n 2 C dX5_make_45 rfl rfl ?_
  refine j_iload_n 3 C dX5_make_46 rfl rfl ?_
  refine j_callWv [0, 1] (fun _ => [(m0, .inr (4, [.int th, .int np, .ref tb, .ref md, .ref rw0, .int sz, .ref cs, .ref va, .int lk, .ref rn, .ref kp])), (md, jaI g 253 (jrw (n + 1) (upd (va_cpy (upd (jRp f (n * 28) (k * 28)) (k * 28 + 3) (nI i)) (upd (jRp f (n * 28) (k * 28)) (k * 28 + 3) (nI i)) ((k + 1) * 28 + 4 + i * 4) ((k + 1) * 28 + 4) ((a - i) * 4)) ((k + 1) * 28 + 3) (nI (a - i)))))]) C (j_runV (ci := 0) (As := [.int (nI k), .int (nI i)]) (rest := []) [0, 1] C (c_X5_divide l g m0 th np tb md rw0 sz cs va lk rn kp n f k i a (by omega) (by omega) ha (by omega) (by omega)) gX5_make_X5_divide rfl rfl rfl hd_X5_divide ⟨Nat.le_of_ble_eq_true rfl, Nat.le_of_ble_eq_true rfl⟩ rfl rfl rfl rfl dX5_make_47 rfl (Nat.le_of_ble_eq_true rfl) ⟨Nat.le_of_ble_eq_true rfl, Nat.le_of_ble_eq_true rfl⟩) rfl (fun _ => rfl) (fun _ => rfl) (fun _ _ => ?_)
  refine j_goto (tgt := 101) C dX5_make_50 (by decide) ?_
  exact j_vretW C hr dX5_make_101 () trivial rfl
set_option maxHeartbeats 4000000 in
set_option maxRecDepth 100000 in
theorem c_X5_make_2 (l : Launch) (g : jG) (m0 : Nat) (th np : Int32) (tb md rw0 : Nat) (sz : Int32) (cs va : Nat) (lk : Int32) (rn kp : Nat) (n : Nat) (f : Nat → Int32) (k w v : Nat) (hk : k < n) (hn : n < 8) (hv : f (k * 28 + 0) = nI v) (hv9 : v + 1 ≤ w) : jWv l yX5_make wsX5_make ({ frames := 3, cells := 0, slots := 0, locals := 63 }) g [.ref m0, .int 2, .int (nI k), .int (nI w)] [(m0, .inr (4, [.int th, .int np, .ref tb, .ref md, .ref rw0, .int sz, .ref cs, .ref va, .int lk, .ref rn, .ref kp])), (md, jaI g 253 (jrw n f))] [(m0, .inr (4, [.int th, .int np, .ref tb, .ref md, .ref rw0, .int sz, .ref cs, .ref va, .int lk, .ref rn, .ref kp])), (md, jaI g 253 (jrw (n + 1) (upd (upd (jRp f (n * 28) (k * 28)) (k * 28 + 1) (nI (w - 1 - v))) ((k + 1) * 28 + 0) (nI (v + 1)))))] := by
  refine j_enterW (Qc := fun sz_ => va_Qv (fun (_ : Unit) => True) (fun _ t => va_P g.1 vwCl [(m0, .inr (4, [.int th, .int np, .ref tb, .ref md, .ref rw0, .int sz, .ref cs, .ref va, .int lk, .ref rn, .ref kp])), (md, jaI g 253 (jrw (n + 1) (upd (upd (jRp f (n * 28) (k * 28)) (k * 28 + 1) (nI (w - 1 - v))) ((k + 1) * 28 + 0) (nI (v + 1)))))] t.heap) (va_A [(m0, .inr (4, [.int th, .int np, .ref tb, .ref md, .ref rw0, .int sz, .ref cs, .ref va, .int lk, .ref rn, .ref kp])), (md, jaI g 253 (jrw n f))] sz_)) (cc := cX5_make) (maxL := 4) (ret := none) (own := RX5) (L := [(0, .ref m0), (1, .int 2), (2, .int (nI k)), (3, .int (nI w))]) (by decide) rfl rfl (Nat.le_of_ble_eq_true rfl) rfl (fun p e s m args below meth c C hr => ?_)
  refine j_iload_n 1 C dX5_make_0 rfl rfl ?_
  refine j_tabIn (tgt := 53) C dX5_make_1 (by decide) (by decide) rfl (by decide) ?_
  refine j_aload_n 0 C dX5_make_53 rfl rfl ?_
  refine j_iload_n 2 C dX5_make_54 rfl rfl ?_
  refine j_iload_n 3 C dX5_make_55 rfl rfl ?_
  refine j_callWv [0, 1] (fun _ => [(m0, .inr (4, [.int th, .int np, .ref tb, .ref md, .ref rw0, .int sz, .ref cs, .ref va, .int lk, .ref rn, .ref kp])), (md, jaI g 253 (jrw (n + 1) (upd (upd (jRp f (n * 28) (k * 28)) (k * 28 + 1) (nI (w - 1 - v))) ((k + 1) * 28 + 0) (nI (v + 1)))))]) C (j_runV (ci := 0) (As := [.int (nI k), .int (nI w)]) (rest := []) [0, 1] C (c_X5_peel l g m0 th np tb md rw0 sz cs va lk rn kp n f k w v (by omega) (by omega) hv (by omega)) gX5_make_X5_peel rfl rfl rfl hd_X5_peel ⟨Nat.le_of_ble_eq_true rfl, Nat.le_of_ble_eq_true rfl⟩ rfl rfl rfl rfl dX5_make_56 rfl (Nat.le_of_ble_eq_true rfl) ⟨Nat.le_of_ble_eq_true rfl, Nat.le_of_ble_eq_true rfl⟩) rfl (fun _ => rfl) (fun _ => rfl) (fun _ _ => ?_)
  refine j_goto (tgt := 101) C dX5_make_59 (by decide) ?_
  exact j_vretW C hr dX5_make_101 () trivial rfl
set_option maxHeartbeats 4000000 in
set_option maxRecDepth 100000 in
theorem c_X5_make_3 (l : Launch) (g : jG) (m0 : Nat) (th np : Int32) (tb md rw0 : Nat) (sz : Int32) (cs va : Nat) (lk : Int32) (rn kp : Nat) (n : Nat) (f : Nat → Int32) (k : Nat) (w : Int32) (hk : k < 8) : jWv l yX5_make wsX5_make ({ frames := 1, cells := 0, slots := 0, locals := 20 }) g [.ref m0, .int 3, .int (nI k), .int w] [(m0, .inr (4, [.int th, .int np, .ref tb, .ref md, .ref rw0, .int sz, .ref cs, .ref va, .int lk, .ref rn, .ref kp])), (md, jaI g 253 (jrw n f))] [(m0, .inr (4, [.int th, .int np, .ref tb, .ref md, .ref rw0, .int sz, .ref cs, .ref va, .int lk, .ref rn, .ref kp])), (md, jaI g 253 (jrw n (upd f (k * 28 + 2) (1 - f (k * 28 + 2)))))] := by
  refine j_enterW (Qc := fun sz_ => va_Qv (fun (_ : Unit) => True) (fun _ t => va_P g.1 vwCl [(m0, .inr (4, [.int th, .int np, .ref tb, .ref md, .ref rw0, .int sz, .ref cs, .ref va, .int lk, .ref rn, .ref kp])), (md, jaI g 253 (jrw n (upd f (k * 28 + 2) (1 - f (k * 28 + 2)))))] t.heap) (va_A [(m0, .inr (4, [.int th, .int np, .ref tb, .ref md, .ref rw0, .int sz, .ref cs, .ref va, .int lk, .ref rn, .ref kp])), (md, jaI g 253 (jrw n f))] sz_)) (cc := cX5_make) (maxL := 4) (ret := none) (own := RX5) (L := [(0, .ref m0), (1, .int 3), (2, .int (nI k)), (3, .int w)]) (by decide) rfl rfl (Nat.le_of_ble_eq_true rfl) rfl (fun p e s m args below meth c C hr => ?_)
  refine j_iload_n 1 C dX5_make_0 rfl rfl ?_
  refine j_tabIn (tgt := 62) C dX5_make_1 (by decide) (by decide) rfl (by decide) ?_
  refine j_aload_n 0 C dX5_make_62 rfl rfl ?_
  refine j_get (Cn := RX5) (T := TX5) (N := 11) 0 3 C dX5_make_63 hin_X5_make_X5 rfl rfl (by decide) (List.mem_of_getElem? (i := 1) rfl) rfl ?_
  refine j_iload_n 2 C dX5_make_66 rfl rfl ?_
  refine j_callRi (v := nI (1 + 28 * k)) (j_runS (As := [.int (nI k)]) (rest := [.ref md]) [] C (c_X5_loopAt l g k) gX5_make_X5_loopAt rfl rfl rfl hd_X5_loopAt ⟨Nat.le_of_ble_eq_true rfl, Nat.le_of_ble_eq_true rfl⟩ rfl rfl dX5_make_67 rfl (Nat.le_of_ble_eq_true rfl) ⟨Nat.le_of_ble_eq_true rfl, Nat.le_of_ble_eq_true rfl⟩) ?_
  refine j_iconst (v := 2) C dX5_make_70 rfl ?_
  refine j_iadd (x := nI (1 + 28 * k)) (y := 2) (v := nI (1 + 28 * k + 2)) C dX5_make_71 (nI_add (1 + 28 * k) 2) ?_
  refine j_iconst (v := 1) C dX5_make_72 rfl ?_
  refine j_aload_n 0 C dX5_make_73 rfl rfl ?_
  refine j_get (Cn := RX5) (T := TX5) (N := 11) 0 3 C dX5_make_74 hin_X5_make_X5 rfl rfl (by decide) (List.mem_of_getElem? (i := 1) rfl) rfl ?_
  refine j_iload_n 2 C dX5_make_77 rfl rfl ?_
  refine j_callRi (v := nI (1 + 28 * k)) (j_runS (As := [.int (nI k)]) (rest := [.ref md, .int 1, .int (nI (1 + 28 * k + 2)), .ref md]) [] C (c_X5_loopAt l g k) gX5_make_X5_loopAt rfl rfl rfl hd_X5_loopAt ⟨Nat.le_of_ble_eq_true rfl, Nat.le_of_ble_eq_true rfl⟩ rfl rfl dX5_make_78 rfl (Nat.le_of_ble_eq_true rfl) ⟨Nat.le_of_ble_eq_true rfl, Nat.le_of_ble_eq_true rfl⟩) ?_
  refine j_iconst (v := 2) C dX5_make_81 rfl ?_
  refine j_iadd (x := nI (1 + 28 * k)) (y := 2) (v := nI (1 + 28 * k + 2)) C dX5_make_82 (nI_add (1 + 28 * k) 2) ?_
  refine j_ialdR (x := 1 + 28 * k + 2) (y := k * 28 + 2) 1 C dX5_make_83 rfl rfl (by omega) (by omega) ?_
  refine j_isub (x := 1) (y := f (k * 28 + 2)) (v := (1 : Int32) - (f (k * 28 + 2))) C dX5_make_84 rfl ?_
  refine j_iastR (x := 1 + 28 * k + 2) (y := k * 28 + 2) (ws' := [(m0, .inr (4, [.int th, .int np, .ref tb, .ref md, .ref rw0, .int sz, .ref cs, .ref va, .int lk, .ref rn, .ref kp])), (md, jaI g 253 (jrw n (upd f (k * 28 + 2) ((1 : Int32) - (f (k * 28 + 2))))))]) 1 C dX5_make_85 rfl rfl (by omega) (by omega) rfl ?_
  refine j_goto (tgt := 101) C dX5_make_86 (by decide) ?_
  exact j_vretW C hr dX5_make_101 () trivial rfl
set_option maxHeartbeats 4000000 in
set_option maxRecDepth 100000 in
theorem c_X5_make_4 (l : Launch) (g : jG) (m0 : Nat) (th np : Int32) (tb md rw0 : Nat) (sz : Int32) (cs va : Nat) (lk : Int32) (rn kp : Nat) (n : Nat) (f : Nat → Int32) (k : Nat) (w : Int32) (hk : k < 7) : jWv l yX5_make wsX5_make ({ frames := 2, cells := 0, slots := 0, locals := 43 }) g [.ref m0, .int 4, .int (nI k), .int w] [(m0, .inr (4, [.int th, .int np, .ref tb, .ref md, .ref rw0, .int sz, .ref cs, .ref va, .int lk, .ref rn, .ref kp])), (md, jaI g 253 (jrw n f))] [(m0, .inr (4, [.int th, .int np, .ref tb, .ref md, .ref rw0, .int sz, .ref cs, .ref va, .int lk, .ref rn, .ref kp])), (md, jaI g 253 (jrw n (jSw f (k * 28) (k * 28 + 28))))] := by
  refine j_enterW (Qc := fun sz_ => va_Qv (fun (_ : Unit) => True) (fun _ t => va_P g.1 vwCl [(m0, .inr (4, [.int th, .int np, .ref tb, .ref md, .ref rw0, .int sz, .ref cs, .ref va, .int lk, .ref rn, .ref kp])), (md, jaI g 253 (jrw n (jSw f (k * 28) (k * 28 + 28))))] t.heap) (va_A [(m0, .inr (4, [.int th, .int np, .ref tb, .ref md, .ref rw0, .int sz, .ref cs, .ref va, .int lk, .ref rn, .ref kp])), (md, jaI g 253 (jrw n f))] sz_)) (cc := cX5_make) (maxL := 4) (ret := none) (own := RX5) (L := [(0, .ref m0), (1, .int 4), (2, .int (nI k)), (3, .int w)]) (by decide) rfl rfl (Nat.le_of_ble_eq_true rfl) rfl (fun p e s m args below meth c C hr => ?_)
  refine j_iload_n 1 C dX5_make_0 rfl rfl ?_
  refine j_tabIn (tgt := 89) C dX5_make_1 (by decide) (by decide) rfl (by decide) ?_
  refine j_aload_n 0 C dX5_make_89 rfl rfl ?_
  refine j_iload_n 2 C dX5_make_90 rfl rfl ?_
  refine j_callWv [0, 1] (fun _ => [(m0, .inr (4, [.int th, .int np, .ref tb, .ref md, .ref rw0, .int sz, .ref cs, .ref va, .int lk, .ref rn, .ref kp])), (md, jaI g 253 (jrw n (jSw f (k * 28) (k * 28 + 28))))]) C (j_runV (ci := 0) (As := [.int (nI k)]) (rest := []) [0, 1] C (c_X5_swap l g m0 th np tb md rw0 sz cs va lk rn kp n f k (by omega)) gX5_make_X5_swap rfl rfl rfl hd_X5_swap ⟨Nat.le_of_ble_eq_true rfl, Nat.le_of_ble_eq_true rfl⟩ rfl rfl rfl rfl dX5_make_91 rfl (Nat.le_of_ble_eq_true rfl) ⟨Nat.le_of_ble_eq_true rfl, Nat.le_of_ble_eq_true rfl⟩) rfl (fun _ => rfl) (fun _ => rfl) (fun _ _ => ?_)
  refine j_goto (tgt := 101) C dX5_make_94 (by decide) ?_
  exact j_vretW C hr dX5_make_101 () trivial rfl
set_option maxHeartbeats 4000000 in
set_option maxRecDepth 100000 in
theorem c_X5_make_5 (l : Launch) (g : jG) (m0 : Nat) (th np : Int32) (tb md rw0 : Nat) (sz : Int32) (cs va : Nat) (lk : Int32) (rn kp : Nat) (n : Nat) (f : Nat → Int32) (k w : Int32) (hok : jOk n f) : jWv l yX5_make wsX5_make ({ frames := 4, cells := 0, slots := 0, locals := 88 }) g [.ref m0, .int 5, .int k, .int w] [(m0, .inr (4, [.int th, .int np, .ref tb, .ref md, .ref rw0, .int sz, .ref cs, .ref va, .int lk, .ref rn, .ref kp])), (md, jaI g 253 (jrw n f))] [(m0, .inr (4, [.int th, .int np, .ref tb, .ref md, .ref rw0, .int sz, .ref cs, .ref va, .int lk, .ref rn, .ref kp])), (md, jaI g 253 (jrw ((jStrip n (n, f)).1) ((jStrip n (n, f)).2)))] := by
  refine j_enterW (Qc := fun sz_ => va_Qv (fun (_ : Unit) => True) (fun _ t => va_P g.1 vwCl [(m0, .inr (4, [.int th, .int np, .ref tb, .ref md, .ref rw0, .int sz, .ref cs, .ref va, .int lk, .ref rn, .ref kp])), (md, jaI g 253 (jrw ((jStrip n (n, f)).1) ((jStrip n (n, f)).2)))] t.heap) (va_A [(m0, .inr (4, [.int th, .int np, .ref tb, .ref md, .ref rw0, .int sz, .ref cs, .ref va, .int lk, .ref rn, .ref kp])), (md, jaI g 253 (jrw n f))] sz_)) (cc := cX5_make) (maxL := 4) (ret := none) (own := RX5) (L := [(0, .ref m0), (1, .int 5), (2, .int k), (3, .int w)]) (by decide) rfl rfl (Nat.le_of_ble_eq_true rfl) rfl (fun p e s m args below meth c C hr => ?_)
  refine j_iload_n 1 C dX5_make_0 rfl rfl ?_
  refine j_tabOut (tgt := 97) C dX5_make_1 (by decide) (by decide) ?_
  refine j_aload_n 0 C dX5_make_97 rfl rfl ?_
  refine j_callWv [0, 1] (fun _ => [(m0, .inr (4, [.int th, .int np, .ref tb, .ref md, .ref rw0, .int sz, .ref cs, .ref va, .int lk, .ref rn, .ref kp])), (md, jaI g 253 (jrw ((jStrip n (n, f)).1) ((jStrip n (n, f)).2)))]) C (j_runV (ci := 0) (As := []) (rest := []) [0, 1] C (c_X5_strip l g m0 th np tb md rw0 sz cs va lk rn kp n f hok) gX5_make_X5_strip rfl rfl rfl hd_X5_strip ⟨Nat.le_of_ble_eq_true rfl, Nat.le_of_ble_eq_true rfl⟩ rfl rfl rfl rfl dX5_make_98 rfl (Nat.le_of_ble_eq_true rfl) ⟨Nat.le_of_ble_eq_true rfl, Nat.le_of_ble_eq_true rfl⟩) rfl (fun _ => rfl) (fun _ => rfl) (fun _ _ => ?_)
  exact j_vretW C hr dX5_make_101 () trivial rfl
set_option maxHeartbeats 4000000 in
set_option maxRecDepth 100000 in
theorem c_X5_whyRange_p (l : Launch) (g : jG) (m0 : Nat) (th : Int32) (N tb md rw0 : Nat) (sz : Int32) (cs va : Nat) (lk : Int32) (rn kp : Nat) (x ch y w : Int32) (hx : jBt x 0 (nI N - 1) = false) : jRi l yX5_whyRange wsX5_whyRange ({ frames := 3, cells := 0, slots := 0, locals := 100 }) g [.ref m0, .int x, .int ch, .int y, .int w] [(m0, .inr (4, [.int th, .int (nI N), .ref tb, .ref md, .ref rw0, .int sz, .ref cs, .ref va, .int lk, .ref rn, .ref kp]))] 1 := by
  refine j_enterR (cc := cX5_whyRange) (maxL := 8) (ret := (some .int)) (own := RX5) (L := [(0, .ref m0), (1, .int x), (2, .int ch), (3, .int y), (4, .int w)]) (by decide) rfl rfl (Nat.le_of_ble_eq_true rfl) rfl (fun p e s m args below meth c C hr => ?_)
  refine j_aload_n 0 C dX5_whyRange_0 rfl rfl ?_
  refine j_iload_n 1 C dX5_whyRange_1 rfl rfl ?_
  refine j_callRi (v := jb (jBt x 0 ((nI N) - 1))) (j_runV (ci := 0) (As := [.int x]) (rest := []) [0] C (c_X5_isProgram l g m0 th (nI N) tb md rw0 sz cs va lk rn kp x) gX5_whyRange_X5_isProgram rfl rfl rfl hd_X5_isProgram ⟨Nat.le_of_ble_eq_true rfl, Nat.le_of_ble_eq_true rfl⟩ rfl rfl rfl rfl dX5_whyRange_2 rfl (Nat.le_of_ble_eq_true rfl) ⟨Nat.le_of_ble_eq_true rfl, Nat.le_of_ble_eq_true rfl⟩) ?_
  refine j_eq (pc' := 5) (L' := [(0, .ref m0), (1, .int x), (2, .int ch), (3, .int y), (4, .int w)]) (st' := [.int (jb false)]) (ws' := [(m0, .inr (4, [.int th, .int (nI N), .ref tb, .ref md, .ref rw0, .int sz, .ref cs, .ref va, .int lk, .ref rn, .ref kp]))]) ?_ rfl rfl (by rw [hx]) rfl
  refine j_if_eq (tgt := 20) C dX5_whyRange_5 (by decide) (fun c_1 => ?_) (fun c_1 => ?_)
  · skip
    have c_1 : false = false := jb_0 c_1
    refine j_iconst (v := 1) C dX5_whyRange_20 rfl ?_
    exact j_iretR (v := 1) C hr dX5_whyRange_21 rfl
  · skip
    have c_1 : false = true := jb_1 c_1
    (first | exact absurd c_1 (by decide) | exact absurd c_1 (by omega) | simp_all)
set_option maxHeartbeats 4000000 in
set_option maxRecDepth 100000 in
theorem c_X5_whyRange_c (l : Launch) (g : jG) (m0 : Nat) (th : Int32) (N tb md rw0 : Nat) (sz : Int32) (cs va : Nat) (lk : Int32) (rn kp : Nat) (k : Nat) (ch y w : Int32) (hk : k < N) (hN : N ≤ 10) (hc : jBt ch 0 5 = false) : jRi l yX5_whyRange wsX5_whyRange ({ frames := 3, cells := 0, slots := 0, locals := 100 }) g [.ref m0, .int (nI k), .int ch, .int y, .int w] [(m0, .inr (4, [.int th, .int (nI N), .ref tb, .ref md, .ref rw0, .int sz, .ref cs, .ref va, .int lk, .ref rn, .ref kp]))] 1 := by
  refine j_enterR (cc := cX5_whyRange) (maxL := 8) (ret := (some .int)) (own := RX5) (L := [(0, .ref m0), (1, .int (nI k)), (2, .int ch), (3, .int y), (4, .int w)]) (by decide) rfl rfl (Nat.le_of_ble_eq_true rfl) rfl (fun p e s m args below meth c C hr => ?_)
  refine j_aload_n 0 C dX5_whyRange_0 rfl rfl ?_
  refine j_iload_n 1 C dX5_whyRange_1 rfl rfl ?_
  refine j_callRi (v := jb (jBt (nI k) 0 ((nI N) - 1))) (j_runV (ci := 0) (As := [.int (nI k)]) (rest := []) [0] C (c_X5_isProgram l g m0 th (nI N) tb md rw0 sz cs va lk rn kp (nI k)) gX5_whyRange_X5_isProgram rfl rfl rfl hd_X5_isProgram ⟨Nat.le_of_ble_eq_true rfl, Nat.le_of_ble_eq_true rfl⟩ rfl rfl rfl rfl dX5_whyRange_2 rfl (Nat.le_of_ble_eq_true rfl) ⟨Nat.le_of_ble_eq_true rfl, Nat.le_of_ble_eq_true rfl⟩) ?_
  refine j_eq (pc' := 5) (L' := [(0, .ref m0), (1, .int (nI k)), (2, .int ch), (3, .int y), (4, .int w)]) (st' := [.int (jb true)]) (ws' := [(m0, .inr (4, [.int th, .int (nI N), .ref tb, .ref md, .ref rw0, .int sz, .ref cs, .ref va, .int lk, .ref rn, .ref kp]))]) ?_ rfl rfl (by rw [jBt_n hk (by omega)]) rfl
  refine j_if_eq (tgt := 20) C dX5_whyRange_5 (by decide) (fun c_1 => ?_) (fun c_1 => ?_)
  · skip
    have c_1 : true = false := jb_0 c_1
    (first | exact absurd c_1 (by decide) | exact absurd c_1 (by omega) | simp_all)
  · skip
    have c_1 : true = true := jb_1 c_1
    refine j_iload_n 2 C dX5_whyRange_8 rfl rfl ?_
    refine j_i2l (v := ch.toInt64) C dX5_whyRange_9 rfl ?_
    refine j_lconst (v := 0) C dX5_whyRange_10 rfl ?_
    refine j_ldc2 (v := 5) C dX5_whyRange_11 (List.mem_of_getElem? (i := 1) rfl) ?_
    refine j_callRi (v := jb (jIn ch.toInt64 0 5)) (j_runS (As := [.long ch.toInt64, .long 0, .long 5]) (rest := []) [] C (c_X5_isIn l g ch.toInt64 0 5) gX5_whyRange_X5_isIn rfl rfl rfl hd_X5_isIn ⟨Nat.le_of_ble_eq_true rfl, Nat.le_of_ble_eq_true rfl⟩ rfl rfl dX5_whyRange_14 rfl (Nat.le_of_ble_eq_true rfl) ⟨Nat.le_of_ble_eq_true rfl, Nat.le_of_ble_eq_true rfl⟩) ?_
    refine j_eq (pc' := 17) (L' := [(0, .ref m0), (1, .int (nI k)), (2, .int ch), (3, .int y), (4, .int w)]) (st' := [.int (jb (jBt ch 0 5))]) (ws' := [(m0, .inr (4, [.int th, .int (nI N), .ref tb, .ref md, .ref rw0, .int sz, .ref cs, .ref va, .int lk, .ref rn, .ref kp]))]) ?_ rfl rfl (by rw [jIn_b ch 0 5 _ _ (by decide) (by decide)]) rfl
    refine j_eq (pc' := 17) (L' := [(0, .ref m0), (1, .int (nI k)), (2, .int ch), (3, .int y), (4, .int w)]) (st' := [.int (jb false)]) (ws' := [(m0, .inr (4, [.int th, .int (nI N), .ref tb, .ref md, .ref rw0, .int sz, .ref cs, .ref va, .int lk, .ref rn, .ref kp]))]) ?_ rfl rfl (by rw [hc]) rfl
    refine j_if_ne (tgt := 22) C dX5_whyRange_17 (by decide) (fun c_2 => ?_) (fun c_2 => ?_)
    · skip
      have c_2 : false = true := jb_1 c_2
      (first | exact absurd c_2 (by decide) | exact absurd c_2 (by omega) | simp_all)
    · skip
      have c_2 : false = false := jb_0 c_2
      refine j_iconst (v := 1) C dX5_whyRange_20 rfl ?_
      exact j_iretR (v := 1) C hr dX5_whyRange_21 rfl
set_option maxHeartbeats 4000000 in
set_option maxRecDepth 100000 in
theorem c_X5_whyRange_l0 (l : Launch) (g : jG) (m0 : Nat) (th : Int32) (N tb md rw0 : Nat) (sz : Int32) (cs va : Nat) (lk : Int32) (rn kp : Nat) (tr : Nat → Nat) (k n : Nat) (f : Nat → Int32) (y w : Int32) (hk : k < N) (hN : N ≤ 10) (hy : jBt y 0 (nI n - 2) = false) : jRi l yX5_whyRange wsX5_whyRange ({ frames := 3, cells := 0, slots := 0, locals := 100 }) g [.ref m0, .int (nI k), .int 0, .int y, .int w] [(m0, .inr (4, [.int th, .int (nI N), .ref tb, .ref md, .ref rw0, .int sz, .ref cs, .ref va, .int lk, .ref rn, .ref kp])), (tb, jaR g 10 (fun i => some (tr i))), (tr k, jaI g 253 (jrw n f))] 1 := by
  refine j_enterR (cc := cX5_whyRange) (maxL := 8) (ret := (some .int)) (own := RX5) (L := [(0, .ref m0), (1, .int (nI k)), (2, .int 0), (3, .int y), (4, .int w)]) (by decide) rfl rfl (Nat.le_of_ble_eq_true rfl) rfl (fun p e s m args below meth c C hr => ?_)
  refine j_aload_n 0 C dX5_whyRange_0 rfl rfl ?_
  refine j_iload_n 1 C dX5_whyRange_1 rfl rfl ?_
  refine j_callRi (v := jb (jBt (nI k) 0 ((nI N) - 1))) (j_runV (ci := 0) (As := [.int (nI k)]) (rest := []) [0] C (c_X5_isProgram l g m0 th (nI N) tb md rw0 sz cs va lk rn kp (nI k)) gX5_whyRange_X5_isProgram rfl rfl rfl hd_X5_isProgram ⟨Nat.le_of_ble_eq_true rfl, Nat.le_of_ble_eq_true rfl⟩ rfl rfl rfl rfl dX5_whyRange_2 rfl (Nat.le_of_ble_eq_true rfl) ⟨Nat.le_of_ble_eq_true rfl, Nat.le_of_ble_eq_true rfl⟩) ?_
  refine j_eq (pc' := 5) (L' := [(0, .ref m0), (1, .int (nI k)), (2, .int 0), (3, .int y), (4, .int w)]) (st' := [.int (jb true)]) (ws' := [(m0, .inr (4, [.int th, .int (nI N), .ref tb, .ref md, .ref rw0, .int sz, .ref cs, .ref va, .int lk, .ref rn, .ref kp])), (tb, jaR g 10 (fun i => some (tr i))), (tr k, jaI g 253 (jrw n f))]) ?_ rfl rfl (by rw [jBt_n hk (by omega)]) rfl
  refine j_if_eq (tgt := 20) C dX5_whyRange_5 (by decide) (fun c_1 => ?_) (fun c_1 => ?_)
  · skip
    have c_1 : true = false := jb_0 c_1
    (first | exact absurd c_1 (by decide) | exact absurd c_1 (by omega) | simp_all)
  · skip
    have c_1 : true = true := jb_1 c_1
    refine j_iload_n 2 C dX5_whyRange_8 rfl rfl ?_
    refine j_i2l (v := 0) C dX5_whyRange_9 (by decide) ?_
    refine j_lconst (v := 0) C dX5_whyRange_10 rfl ?_
    refine j_ldc2 (v := 5) C dX5_whyRange_11 (List.mem_of_getElem? (i := 1) rfl) ?_
    refine j_callRi (v := jb (jIn 0 0 5)) (j_runS (As := [.long 0, .long 0, .long 5]) (rest := []) [] C (c_X5_isIn l g 0 0 5) gX5_whyRange_X5_isIn rfl rfl rfl hd_X5_isIn ⟨Nat.le_of_ble_eq_true rfl, Nat.le_of_ble_eq_true rfl⟩ rfl rfl dX5_whyRange_14 rfl (Nat.le_of_ble_eq_true rfl) ⟨Nat.le_of_ble_eq_true rfl, Nat.le_of_ble_eq_true rfl⟩) ?_
    refine j_eq (pc' := 17) (L' := [(0, .ref m0), (1, .int (nI k)), (2, .int 0), (3, .int y), (4, .int w)]) (st' := [.int (jb true)]) (ws' := [(m0, .inr (4, [.int th, .int (nI N), .ref tb, .ref md, .ref rw0, .int sz, .ref cs, .ref va, .int lk, .ref rn, .ref kp])), (tb, jaR g 10 (fun i => some (tr i))), (tr k, jaI g 253 (jrw n f))]) ?_ rfl rfl (by rw [show jIn 0 0 5 = true by decide]) rfl
    refine j_if_ne (tgt := 22) C dX5_whyRange_17 (by decide) (fun c_2 => ?_) (fun c_2 => ?_)
    · skip
      have c_2 : true = true := jb_1 c_2
      refine j_aload_n 0 C dX5_whyRange_22 rfl rfl ?_
      refine j_get (Cn := RX5) (T := TX5) (N := 11) 0 2 C dX5_whyRange_23 hin_X5_whyRange_X5 rfl rfl (by decide) (List.mem_of_getElem? (i := 2) rfl) rfl ?_
      refine j_iload_n 1 C dX5_whyRange_26 rfl rfl ?_
      refine j_aldR (x := k) 1 C dX5_whyRange_27 rfl rfl (by omega) (by decide) ?_
      refine j_eq (pc' := 28) (L' := [(0, .ref m0), (1, .int (nI k)), (2, .int 0), (3, .int y), (4, .int w)]) (st' := [.ref (tr k)]) (ws' := [(m0, .inr (4, [.int th, .int (nI N), .ref tb, .ref md, .ref rw0, .int sz, .ref cs, .ref va, .int lk, .ref rn, .ref kp])), (tb, jaR g 10 (fun i => some (tr i))), (tr k, jaI g 253 (jrw n f))]) ?_ rfl rfl rfl rfl
      refine j_astore (L' := [(0, .ref m0), (1, .int (nI k)), (2, .int 0), (3, .int y), (4, .int w), (5, .ref (tr k))]) C dX5_whyRange_28 (Nat.le_of_ble_eq_true rfl) rfl rfl ?_
      refine j_iload_n 2 C dX5_whyRange_30 rfl rfl ?_
      refine j_if_eq (tgt := 39) C dX5_whyRange_31 (by decide) (fun c_3 => ?_) (fun c_3 => ?_)
      · skip
        refine j_iconst (v := 1) C dX5_whyRange_39 rfl ?_
        refine j_goto (tgt := 44) C dX5_whyRange_40 (by decide) ?_
        refine j_istore (L' := [(0, .ref m0), (1, .int (nI k)), (2, .int 0), (3, .int y), (4, .int w), (5, .ref (tr k)), (6, .int 1)]) C dX5_whyRange_44 (Nat.le_of_ble_eq_true rfl) rfl rfl ?_
        refine j_iload_n 2 C dX5_whyRange_46 rfl rfl ?_
        refine j_iconst (v := 5) C dX5_whyRange_47 rfl ?_
        refine j_icmp_ne (tgt := 58) C dX5_whyRange_48 (by decide) (fun c_4 => ?_) (fun c_4 => ?_)
        · skip
          refine j_iload_n 3 C dX5_whyRange_58 rfl rfl ?_
          refine j_i2l (v := y.toInt64) C dX5_whyRange_59 rfl ?_
          refine j_lconst (v := 0) C dX5_whyRange_60 rfl ?_
          refine j_aload 5 C dX5_whyRange_61 rfl ?_
          refine j_iconst (v := 0) C dX5_whyRange_63 rfl ?_
          refine j_ialdR0 2 C dX5_whyRange_64 rfl rfl ?_
          refine j_iload 6 C dX5_whyRange_65 rfl ?_
          refine j_if_eq (tgt := 74) C dX5_whyRange_67 (by decide) (fun c_5 => ?_) (fun c_5 => ?_)
          · skip
            exact absurd c_5 (by decide)
          · skip
            refine j_iconst (v := 2) C dX5_whyRange_70 rfl ?_
            refine j_goto (tgt := 75) C dX5_whyRange_71 (by decide) ?_
            refine j_isub (x := nI n) (y := 2) (v := nI n - 2) C dX5_whyRange_75 rfl ?_
            refine j_i2l (v := (nI n - 2).toInt64) C dX5_whyRange_76 rfl ?_
            refine j_callRi (v := jb (jIn y.toInt64 0 ((nI n - 2).toInt64))) (j_runS (As := [.long y.toInt64, .long 0, .long ((nI n - 2).toInt64)]) (rest := []) [] C (c_X5_isIn l g y.toInt64 0 ((nI n - 2).toInt64)) gX5_whyRange_X5_isIn rfl rfl rfl hd_X5_isIn ⟨Nat.le_of_ble_eq_true rfl, Nat.le_of_ble_eq_true rfl⟩ rfl rfl dX5_whyRange_77 rfl (Nat.le_of_ble_eq_true rfl) ⟨Nat.le_of_ble_eq_true rfl, Nat.le_of_ble_eq_true rfl⟩) ?_
            refine j_eq (pc' := 80) (L' := [(0, .ref m0), (1, .int (nI k)), (2, .int 0), (3, .int y), (4, .int w), (5, .ref (tr k)), (6, .int 1)]) (st' := [.int (jb (jBt y 0 (nI n - 2)))]) (ws' := [(m0, .inr (4, [.int th, .int (nI N), .ref tb, .ref md, .ref rw0, .int sz, .ref cs, .ref va, .int lk, .ref rn, .ref kp])), (tb, jaR g 10 (fun i => some (tr i))), (tr k, jaI g 253 (jrw n f))]) ?_ rfl rfl (by rw [jIn_b y 0 (nI n - 2) _ _ (by decide) rfl]) rfl
            refine j_eq (pc' := 80) (L' := [(0, .ref m0), (1, .int (nI k)), (2, .int 0), (3, .int y), (4, .int w), (5, .ref (tr k)), (6, .int 1)]) (st' := [.int (jb false)]) (ws' := [(m0, .inr (4, [.int th, .int (nI N), .ref tb, .ref md, .ref rw0, .int sz, .ref cs, .ref va, .int lk, .ref rn, .ref kp])), (tb, jaR g 10 (fun i => some (tr i))), (tr k, jaI g 253 (jrw n f))]) ?_ rfl rfl (by rw [hy]) rfl
            refine j_if_ne (tgt := 85) C dX5_whyRange_80 (by decide) (fun c_6 => ?_) (fun c_6 => ?_)
            · skip
              have c_6 : false = true := jb_1 c_6
              (first | exact absurd c_6 (by decide) | exact absurd c_6 (by omega) | simp_all)
            · skip
              have c_6 : false = false := jb_0 c_6
              refine j_iconst (v := 1) C dX5_whyRange_83 rfl ?_
              exact j_iretR (v := 1) C hr dX5_whyRange_84 rfl
        · skip
          exact absurd c_4 (by decide)
      · skip
        exact absurd c_3 (by decide)
    · skip
      have c_2 : true = false := jb_0 c_2
      (first | exact absurd c_2 (by decide) | exact absurd c_2 (by omega) | simp_all)
set_option maxHeartbeats 4000000 in
set_option maxRecDepth 100000 in
theorem c_X5_whyRange_l1 (l : Launch) (g : jG) (m0 : Nat) (th : Int32) (N tb md rw0 : Nat) (sz : Int32) (cs va : Nat) (lk : Int32) (rn kp : Nat) (tr : Nat → Nat) (k n : Nat) (f : Nat → Int32) (y w : Int32) (hk : k < N) (hN : N ≤ 10) (hy : jBt y 0 (nI n - 1) = false) : jRi l yX5_whyRange wsX5_whyRange ({ frames := 3, cells := 0, slots := 0, locals := 100 }) g [.ref m0, .int (nI k), .int 1, .int y, .int w] [(m0, .inr (4, [.int th, .int (nI N), .ref tb, .ref md, .ref rw0, .int sz, .ref cs, .ref va, .int lk, .ref rn, .ref kp])), (tb, jaR g 10 (fun i => some (tr i))), (tr k, jaI g 253 (jrw n f))] 1 := by
  refine j_enterR (cc := cX5_whyRange) (maxL := 8) (ret := (some .int)) (own := RX5) (L := [(0, .ref m0), (1, .int (nI k)), (2, .int 1), (3, .int y), (4, .int w)]) (by decide) rfl rfl (Nat.le_of_ble_eq_true rfl) rfl (fun p e s m args below meth c C hr => ?_)
  refine j_aload_n 0 C dX5_whyRange_0 rfl rfl ?_
  refine j_iload_n 1 C dX5_whyRange_1 rfl rfl ?_
  refine j_callRi (v := jb (jBt (nI k) 0 ((nI N) - 1))) (j_runV (ci := 0) (As := [.int (nI k)]) (rest := []) [0] C (c_X5_isProgram l g m0 th (nI N) tb md rw0 sz cs va lk rn kp (nI k)) gX5_whyRange_X5_isProgram rfl rfl rfl hd_X5_isProgram ⟨Nat.le_of_ble_eq_true rfl, Nat.le_of_ble_eq_true rfl⟩ rfl rfl rfl rfl dX5_whyRange_2 rfl (Nat.le_of_ble_eq_true rfl) ⟨Nat.le_of_ble_eq_true rfl, Nat.le_of_ble_eq_true rfl⟩) ?_
  refine j_eq (pc' := 5) (L' := [(0, .ref m0), (1, .int (nI k)), (2, .int 1), (3, .int y), (4, .int w)]) (st' := [.int (jb true)]) (ws' := [(m0, .inr (4, [.int th, .int (nI N), .ref tb, .ref md, .ref rw0, .int sz, .ref cs, .ref va, .int lk, .ref rn, .ref kp])), (tb, jaR g 10 (fun i => some (tr i))), (tr k, jaI g 253 (jrw n f))]) ?_ rfl rfl (by rw [jBt_n hk (by omega)]) rfl
  refine j_if_eq (tgt := 20) C dX5_whyRange_5 (by decide) (fun c_1 => ?_) (fun c_1 => ?_)
  · skip
    have c_1 : true = false := jb_0 c_1
    (first | exact absurd c_1 (by decide) | exact absurd c_1 (by omega) | simp_all)
  · skip
    have c_1 : true = true := jb_1 c_1
    refine j_iload_n 2 C dX5_whyRange_8 rfl rfl ?_
    refine j_i2l (v := 1) C dX5_whyRange_9 (by decide) ?_
    refine j_lconst (v := 0) C dX5_whyRange_10 rfl ?_
    refine j_ldc2 (v := 5) C dX5_whyRange_11 (List.mem_of_getElem? (i := 1) rfl) ?_
    refine j_callRi (v := jb (jIn 1 0 5)) (j_runS (As := [.long 1, .long 0, .long 5]) (rest := []) [] C (c_X5_isIn l g 1 0 5) gX5_whyRange_X5_isIn rfl rfl rfl hd_X5_isIn ⟨Nat.le_of_ble_eq_true rfl, Nat.le_of_ble_eq_true rfl⟩ rfl rfl dX5_whyRange_14 rfl (Nat.le_of_ble_eq_true rfl) ⟨Nat.le_of_ble_eq_true rfl, Nat.le_of_ble_eq_true rfl⟩) ?_
    refine j_eq (pc' := 17) (L' := [(0, .ref m0), (1, .int (nI k)), (2, .int 1), (3, .int y), (4, .int w)]) (st' := [.int (jb true)]) (ws' := [(m0, .inr (4, [.int th, .int (nI N), .ref tb, .ref md, .ref rw0, .int sz, .ref cs, .ref va, .int lk, .ref rn, .ref kp])), (tb, jaR g 10 (fun i => some (tr i))), (tr k, jaI g 253 (jrw n f))]) ?_ rfl rfl (by rw [show jIn 1 0 5 = true by decide]) rfl
    refine j_if_ne (tgt := 22) C dX5_whyRange_17 (by decide) (fun c_2 => ?_) (fun c_2 => ?_)
    · skip
      have c_2 : true = true := jb_1 c_2
      refine j_aload_n 0 C dX5_whyRange_22 rfl rfl ?_
      refine j_get (Cn := RX5) (T := TX5) (N := 11) 0 2 C dX5_whyRange_23 hin_X5_whyRange_X5 rfl rfl (by decide) (List.mem_of_getElem? (i := 2) rfl) rfl ?_
      refine j_iload_n 1 C dX5_whyRange_26 rfl rfl ?_
      refine j_aldR (x := k) 1 C dX5_whyRange_27 rfl rfl (by omega) (by decide) ?_
      refine j_eq (pc' := 28) (L' := [(0, .ref m0), (1, .int (nI k)), (2, .int 1), (3, .int y), (4, .int w)]) (st' := [.ref (tr k)]) (ws' := [(m0, .inr (4, [.int th, .int (nI N), .ref tb, .ref md, .ref rw0, .int sz, .ref cs, .ref va, .int lk, .ref rn, .ref kp])), (tb, jaR g 10 (fun i => some (tr i))), (tr k, jaI g 253 (jrw n f))]) ?_ rfl rfl rfl rfl
      refine j_astore (L' := [(0, .ref m0), (1, .int (nI k)), (2, .int 1), (3, .int y), (4, .int w), (5, .ref (tr k))]) C dX5_whyRange_28 (Nat.le_of_ble_eq_true rfl) rfl rfl ?_
      refine j_iload_n 2 C dX5_whyRange_30 rfl rfl ?_
      refine j_if_eq (tgt := 39) C dX5_whyRange_31 (by decide) (fun c_3 => ?_) (fun c_3 => ?_)
      · skip
        exact absurd c_3 (by decide)
      · skip
        refine j_iload_n 2 C dX5_whyRange_34 rfl rfl ?_
        refine j_iconst (v := 4) C dX5_whyRange_35 rfl ?_
        refine j_icmp_ne (tgt := 43) C dX5_whyRange_36 (by decide) (fun c_4 => ?_) (fun c_4 => ?_)
        · skip
          refine j_iconst (v := 0) C dX5_whyRange_43 rfl ?_
          refine j_istore (L' := [(0, .ref m0), (1, .int (nI k)), (2, .int 1), (3, .int y), (4, .int w), (5, .ref (tr k)), (6, .int 0)]) C dX5_whyRange_44 (Nat.le_of_ble_eq_true rfl) rfl rfl ?_
          refine j_iload_n 2 C dX5_whyRange_46 rfl rfl ?_
          refine j_iconst (v := 5) C dX5_whyRange_47 rfl ?_
          refine j_icmp_ne (tgt := 58) C dX5_whyRange_48 (by decide) (fun c_5 => ?_) (fun c_5 => ?_)
          · skip
            refine j_iload_n 3 C dX5_whyRange_58 rfl rfl ?_
            refine j_i2l (v := y.toInt64) C dX5_whyRange_59 rfl ?_
            refine j_lconst (v := 0) C dX5_whyRange_60 rfl ?_
            refine j_aload 5 C dX5_whyRange_61 rfl ?_
            refine j_iconst (v := 0) C dX5_whyRange_63 rfl ?_
            refine j_ialdR0 2 C dX5_whyRange_64 rfl rfl ?_
            refine j_iload 6 C dX5_whyRange_65 rfl ?_
            refine j_if_eq (tgt := 74) C dX5_whyRange_67 (by decide) (fun c_6 => ?_) (fun c_6 => ?_)
            · skip
              refine j_iconst (v := 1) C dX5_whyRange_74 rfl ?_
              refine j_isub (x := nI n) (y := 1) (v := nI n - 1) C dX5_whyRange_75 rfl ?_
              refine j_i2l (v := (nI n - 1).toInt64) C dX5_whyRange_76 rfl ?_
              refine j_callRi (v := jb (jIn y.toInt64 0 ((nI n - 1).toInt64))) (j_runS (As := [.long y.toInt64, .long 0, .long ((nI n - 1).toInt64)]) (rest := []) [] C (c_X5_isIn l g y.toInt64 0 ((nI n - 1).toInt64)) gX5_whyRange_X5_isIn rfl rfl rfl hd_X5_isIn ⟨Nat.le_of_ble_eq_true rfl, Nat.le_of_ble_eq_true rfl⟩ rfl rfl dX5_whyRange_77 rfl (Nat.le_of_ble_eq_true rfl) ⟨Nat.le_of_ble_eq_true rfl, Nat.le_of_ble_eq_true rfl⟩) ?_
              refine j_eq (pc' := 80) (L' := [(0, .ref m0), (1, .int (nI k)), (2, .int 1), (3, .int y), (4, .int w), (5, .ref (tr k)), (6, .int 0)]) (st' := [.int (jb (jBt y 0 (nI n - 1)))]) (ws' := [(m0, .inr (4, [.int th, .int (nI N), .ref tb, .ref md, .ref rw0, .int sz, .ref cs, .ref va, .int lk, .ref rn, .ref kp])), (tb, jaR g 10 (fun i => some (tr i))), (tr k, jaI g 253 (jrw n f))]) ?_ rfl rfl (by rw [jIn_b y 0 (nI n - 1) _ _ (by decide) rfl]) rfl
              refine j_eq (pc' := 80) (L' := [(0, .ref m0), (1, .int (nI k)), (2, .int 1), (3, .int y), (4, .int w), (5, .ref (tr k)), (6, .int 0)]) (st' := [.int (jb false)]) (ws' := [(m0, .inr (4, [.int th, .int (nI N), .ref tb, .ref md, .ref rw0, .int sz, .ref cs, .ref va, .int lk, .ref rn, .ref kp])), (tb, jaR g 10 (fun i => some (tr i))), (tr k, jaI g 253 (jrw n f))]) ?_ rfl rfl (by rw [hy]) rfl
              refine j_if_ne (tgt := 85) C dX5_whyRange_80 (by decide) (fun c_7 => ?_) (fun c_7 => ?_)
              · skip
                have c_7 : false = true := jb_1 c_7
                (first | exact absurd c_7 (by decide) | exact absurd c_7 (by omega) | simp_all)
              · skip
                have c_7 : false = false := jb_0 c_7
                refine j_iconst (v := 1) C dX5_whyRange_83 rfl ?_
                exact j_iretR (v := 1) C hr dX5_whyRange_84 rfl
            · skip
              exact absurd c_6 (by decide)
          · skip
            exact absurd c_5 (by decide)
        · skip
          exact absurd c_4 (by decide)
    · skip
      have c_2 : true = false := jb_0 c_2
      (first | exact absurd c_2 (by decide) | exact absurd c_2 (by omega) | simp_all)
set_option maxHeartbeats 4000000 in
set_option maxRecDepth 100000 in
theorem c_X5_whyRange_l2 (l : Launch) (g : jG) (m0 : Nat) (th : Int32) (N tb md rw0 : Nat) (sz : Int32) (cs va : Nat) (lk : Int32) (rn kp : Nat) (tr : Nat → Nat) (k n : Nat) (f : Nat → Int32) (y w : Int32) (hk : k < N) (hN : N ≤ 10) (hy : jBt y 0 (nI n - 1) = false) : jRi l yX5_whyRange wsX5_whyRange ({ frames := 3, cells := 0, slots := 0, locals := 100 }) g [.ref m0, .int (nI k), .int 2, .int y, .int w] [(m0, .inr (4, [.int th, .int (nI N), .ref tb, .ref md, .ref rw0, .int sz, .ref cs, .ref va, .int lk, .ref rn, .ref kp])), (tb, jaR g 10 (fun i => some (tr i))), (tr k, jaI g 253 (jrw n f))] 1 := by
  refine j_enterR (cc := cX5_whyRange) (maxL := 8) (ret := (some .int)) (own := RX5) (L := [(0, .ref m0), (1, .int (nI k)), (2, .int 2), (3, .int y), (4, .int w)]) (by decide) rfl rfl (Nat.le_of_ble_eq_true rfl) rfl (fun p e s m args below meth c C hr => ?_)
  refine j_aload_n 0 C dX5_whyRange_0 rfl rfl ?_
  refine j_iload_n 1 C dX5_whyRange_1 rfl rfl ?_
  refine j_callRi (v := jb (jBt (nI k) 0 ((nI N) - 1))) (j_runV (ci := 0) (As := [.int (nI k)]) (rest := []) [0] C (c_X5_isProgram l g m0 th (nI N) tb md rw0 sz cs va lk rn kp (nI k)) gX5_whyRange_X5_isProgram rfl rfl rfl hd_X5_isProgram ⟨Nat.le_of_ble_eq_true rfl, Nat.le_of_ble_eq_true rfl⟩ rfl rfl rfl rfl dX5_whyRange_2 rfl (Nat.le_of_ble_eq_true rfl) ⟨Nat.le_of_ble_eq_true rfl, Nat.le_of_ble_eq_true rfl⟩) ?_
  refine j_eq (pc' := 5) (L' := [(0, .ref m0), (1, .int (nI k)), (2, .int 2), (3, .int y), (4, .int w)]) (st' := [.int (jb true)]) (ws' := [(m0, .inr (4, [.int th, .int (nI N), .ref tb, .ref md, .ref rw0, .int sz, .ref cs, .ref va, .int lk, .ref rn, .ref kp])), (tb, jaR g 10 (fun i => some (tr i))), (tr k, jaI g 253 (jrw n f))]) ?_ rfl rfl (by rw [jBt_n hk (by omega)]) rfl
  refine j_if_eq (tgt := 20) C dX5_whyRange_5 (by decide) (fun c_1 => ?_) (fun c_1 => ?_)
  · skip
    have c_1 : true = false := jb_0 c_1
    (first | exact absurd c_1 (by decide) | exact absurd c_1 (by omega) | simp_all)
  · skip
    have c_1 : true = true := jb_1 c_1
    refine j_iload_n 2 C dX5_whyRange_8 rfl rfl ?_
    refine j_i2l (v := 2) C dX5_whyRange_9 (by decide) ?_
    refine j_lconst (v := 0) C dX5_whyRange_10 rfl ?_
    refine j_ldc2 (v := 5) C dX5_whyRange_11 (List.mem_of_getElem? (i := 1) rfl) ?_
    refine j_callRi (v := jb (jIn 2 0 5)) (j_runS (As := [.long 2, .long 0, .long 5]) (rest := []) [] C (c_X5_isIn l g 2 0 5) gX5_whyRange_X5_isIn rfl rfl rfl hd_X5_isIn ⟨Nat.le_of_ble_eq_true rfl, Nat.le_of_ble_eq_true rfl⟩ rfl rfl dX5_whyRange_14 rfl (Nat.le_of_ble_eq_true rfl) ⟨Nat.le_of_ble_eq_true rfl, Nat.le_of_ble_eq_true rfl⟩) ?_
    refine j_eq (pc' := 17) (L' := [(0, .ref m0), (1, .int (nI k)), (2, .int 2), (3, .int y), (4, .int w)]) (st' := [.int (jb true)]) (ws' := [(m0, .inr (4, [.int th, .int (nI N), .ref tb, .ref md, .ref rw0, .int sz, .ref cs, .ref va, .int lk, .ref rn, .ref kp])), (tb, jaR g 10 (fun i => some (tr i))), (tr k, jaI g 253 (jrw n f))]) ?_ rfl rfl (by rw [show jIn 2 0 5 = true by decide]) rfl
    refine j_if_ne (tgt := 22) C dX5_whyRange_17 (by decide) (fun c_2 => ?_) (fun c_2 => ?_)
    · skip
      have c_2 : true = true := jb_1 c_2
      refine j_aload_n 0 C dX5_whyRange_22 rfl rfl ?_
      refine j_get (Cn := RX5) (T := TX5) (N := 11) 0 2 C dX5_whyRange_23 hin_X5_whyRange_X5 rfl rfl (by decide) (List.mem_of_getElem? (i := 2) rfl) rfl ?_
      refine j_iload_n 1 C dX5_whyRange_26 rfl rfl ?_
      refine j_aldR (x := k) 1 C dX5_whyRange_27 rfl rfl (by omega) (by decide) ?_
      refine j_eq (pc' := 28) (L' := [(0, .ref m0), (1, .int (nI k)), (2, .int 2), (3, .int y), (4, .int w)]) (st' := [.ref (tr k)]) (ws' := [(m0, .inr (4, [.int th, .int (nI N), .ref tb, .ref md, .ref rw0, .int sz, .ref cs, .ref va, .int lk, .ref rn, .ref kp])), (tb, jaR g 10 (fun i => some (tr i))), (tr k, jaI g 253 (jrw n f))]) ?_ rfl rfl rfl rfl
      refine j_astore (L' := [(0, .ref m0), (1, .int (nI k)), (2, .int 2), (3, .int y), (4, .int w), (5, .ref (tr k))]) C dX5_whyRange_28 (Nat.le_of_ble_eq_true rfl) rfl rfl ?_
      refine j_iload_n 2 C dX5_whyRange_30 rfl rfl ?_
      refine j_if_eq (tgt := 39) C dX5_whyRange_31 (by decide) (fun c_3 => ?_) (fun c_3 => ?_)
      · skip
        exact absurd c_3 (by decide)
      · skip
        refine j_iload_n 2 C dX5_whyRange_34 rfl rfl ?_
        refine j_iconst (v := 4) C dX5_whyRange_35 rfl ?_
        refine j_icmp_ne (tgt := 43) C dX5_whyRange_36 (by decide) (fun c_4 => ?_) (fun c_4 => ?_)
        · skip
          refine j_iconst (v := 0) C dX5_whyRange_43 rfl ?_
          refine j_istore (L' := [(0, .ref m0), (1, .int (nI k)), (2, .int 2), (3, .int y), (4, .int w), (5, .ref (tr k)), (6, .int 0)]) C dX5_whyRange_44 (Nat.le_of_ble_eq_true rfl) rfl rfl ?_
          refine j_iload_n 2 C dX5_whyRange_46 rfl rfl ?_
          refine j_iconst (v := 5) C dX5_whyRange_47 rfl ?_
          refine j_icmp_ne (tgt := 58) C dX5_whyRange_48 (by decide) (fun c_5 => ?_) (fun c_5 => ?_)
          · skip
            refine j_iload_n 3 C dX5_whyRange_58 rfl rfl ?_
            refine j_i2l (v := y.toInt64) C dX5_whyRange_59 rfl ?_
            refine j_lconst (v := 0) C dX5_whyRange_60 rfl ?_
            refine j_aload 5 C dX5_whyRange_61 rfl ?_
            refine j_iconst (v := 0) C dX5_whyRange_63 rfl ?_
            refine j_ialdR0 2 C dX5_whyRange_64 rfl rfl ?_
            refine j_iload 6 C dX5_whyRange_65 rfl ?_
            refine j_if_eq (tgt := 74) C dX5_whyRange_67 (by decide) (fun c_6 => ?_) (fun c_6 => ?_)
            · skip
              refine j_iconst (v := 1) C dX5_whyRange_74 rfl ?_
              refine j_isub (x := nI n) (y := 1) (v := nI n - 1) C dX5_whyRange_75 rfl ?_
              refine j_i2l (v := (nI n - 1).toInt64) C dX5_whyRange_76 rfl ?_
              refine j_callRi (v := jb (jIn y.toInt64 0 ((nI n - 1).toInt64))) (j_runS (As := [.long y.toInt64, .long 0, .long ((nI n - 1).toInt64)]) (rest := []) [] C (c_X5_isIn l g y.toInt64 0 ((nI n - 1).toInt64)) gX5_whyRange_X5_isIn rfl rfl rfl hd_X5_isIn ⟨Nat.le_of_ble_eq_true rfl, Nat.le_of_ble_eq_true rfl⟩ rfl rfl dX5_whyRange_77 rfl (Nat.le_of_ble_eq_true rfl) ⟨Nat.le_of_ble_eq_true rfl, Nat.le_of_ble_eq_true rfl⟩) ?_
              refine j_eq (pc' := 80) (L' := [(0, .ref m0), (1, .int (nI k)), (2, .int 2), (3, .int y), (4, .int w), (5, .ref (tr k)), (6, .int 0)]) (st' := [.int (jb (jBt y 0 (nI n - 1)))]) (ws' := [(m0, .inr (4, [.int th, .int (nI N), .ref tb, .ref md, .ref rw0, .int sz, .ref cs, .ref va, .int lk, .ref rn, .ref kp])), (tb, jaR g 10 (fun i => some (tr i))), (tr k, jaI g 253 (jrw n f))]) ?_ rfl rfl (by rw [jIn_b y 0 (nI n - 1) _ _ (by decide) rfl]) rfl
              refine j_eq (pc' := 80) (L' := [(0, .ref m0), (1, .int (nI k)), (2, .int 2), (3, .int y), (4, .int w), (5, .ref (tr k)), (6, .int 0)]) (st' := [.int (jb false)]) (ws' := [(m0, .inr (4, [.int th, .int (nI N), .ref tb, .ref md, .ref rw0, .int sz, .ref cs, .ref va, .int lk, .ref rn, .ref kp])), (tb, jaR g 10 (fun i => some (tr i))), (tr k, jaI g 253 (jrw n f))]) ?_ rfl rfl (by rw [hy]) rfl
              refine j_if_ne (tgt := 85) C dX5_whyRange_80 (by decide) (fun c_7 => ?_) (fun c_7 => ?_)
              · skip
                have c_7 : false = true := jb_1 c_7
                (first | exact absurd c_7 (by decide) | exact absurd c_7 (by omega) | simp_all)
              · skip
                have c_7 : false = false := jb_0 c_7
                refine j_iconst (v := 1) C dX5_whyRange_83 rfl ?_
                exact j_iretR (v := 1) C hr dX5_whyRange_84 rfl
            · skip
              exact absurd c_6 (by decide)
          · skip
            exact absurd c_5 (by decide)
        · skip
          exact absurd c_4 (by decide)
    · skip
      have c_2 : true = false := jb_0 c_2
      (first | exact absurd c_2 (by decide) | exact absurd c_2 (by omega) | simp_all)
set_option maxHeartbeats 4000000 in
set_option maxRecDepth 100000 in
theorem c_X5_whyRange_l3 (l : Launch) (g : jG) (m0 : Nat) (th : Int32) (N tb md rw0 : Nat) (sz : Int32) (cs va : Nat) (lk : Int32) (rn kp : Nat) (tr : Nat → Nat) (k n : Nat) (f : Nat → Int32) (y w : Int32) (hk : k < N) (hN : N ≤ 10) (hy : jBt y 0 (nI n - 1) = false) : jRi l yX5_whyRange wsX5_whyRange ({ frames := 3, cells := 0, slots := 0, locals := 100 }) g [.ref m0, .int (nI k), .int 3, .int y, .int w] [(m0, .inr (4, [.int th, .int (nI N), .ref tb, .ref md, .ref rw0, .int sz, .ref cs, .ref va, .int lk, .ref rn, .ref kp])), (tb, jaR g 10 (fun i => some (tr i))), (tr k, jaI g 253 (jrw n f))] 1 := by
  refine j_enterR (cc := cX5_whyRange) (maxL := 8) (ret := (some .int)) (own := RX5) (L := [(0, .ref m0), (1, .int (nI k)), (2, .int 3), (3, .int y), (4, .int w)]) (by decide) rfl rfl (Nat.le_of_ble_eq_true rfl) rfl (fun p e s m args below meth c C hr => ?_)
  refine j_aload_n 0 C dX5_whyRange_0 rfl rfl ?_
  refine j_iload_n 1 C dX5_whyRange_1 rfl rfl ?_
  refine j_callRi (v := jb (jBt (nI k) 0 ((nI N) - 1))) (j_runV (ci := 0) (As := [.int (nI k)]) (rest := []) [0] C (c_X5_isProgram l g m0 th (nI N) tb md rw0 sz cs va lk rn kp (nI k)) gX5_whyRange_X5_isProgram rfl rfl rfl hd_X5_isProgram ⟨Nat.le_of_ble_eq_true rfl, Nat.le_of_ble_eq_true rfl⟩ rfl rfl rfl rfl dX5_whyRange_2 rfl (Nat.le_of_ble_eq_true rfl) ⟨Nat.le_of_ble_eq_true rfl, Nat.le_of_ble_eq_true rfl⟩) ?_
  refine j_eq (pc' := 5) (L' := [(0, .ref m0), (1, .int (nI k)), (2, .int 3), (3, .int y), (4, .int w)]) (st' := [.int (jb true)]) (ws' := [(m0, .inr (4, [.int th, .int (nI N), .ref tb, .ref md, .ref rw0, .int sz, .ref cs, .ref va, .int lk, .ref rn, .ref kp])), (tb, jaR g 10 (fun i => some (tr i))), (tr k, jaI g 253 (jrw n f))]) ?_ rfl rfl (by rw [jBt_n hk (by omega)]) rfl
  refine j_if_eq (tgt := 20) C dX5_whyRange_5 (by decide) (fun c_1 => ?_) (fun c_1 => ?_)
  · skip
    have c_1 : true = false := jb_0 c_1
    (first | exact absurd c_1 (by decide) | exact absurd c_1 (by omega) | simp_all)
  · skip
    have c_1 : true = true := jb_1 c_1
    refine j_iload_n 2 C dX5_whyRange_8 rfl rfl ?_
    refine j_i2l (v := 3) C dX5_whyRange_9 (by decide) ?_
    refine j_lconst (v := 0) C dX5_whyRange_10 rfl ?_
    refine j_ldc2 (v := 5) C dX5_whyRange_11 (List.mem_of_getElem? (i := 1) rfl) ?_
    refine j_callRi (v := jb (jIn 3 0 5)) (j_runS (As := [.long 3, .long 0, .long 5]) (rest := []) [] C (c_X5_isIn l g 3 0 5) gX5_whyRange_X5_isIn rfl rfl rfl hd_X5_isIn ⟨Nat.le_of_ble_eq_true rfl, Nat.le_of_ble_eq_true rfl⟩ rfl rfl dX5_whyRange_14 rfl (Nat.le_of_ble_eq_true rfl) ⟨Nat.le_of_ble_eq_true rfl, Nat.le_of_ble_eq_true rfl⟩) ?_
    refine j_eq (pc' := 17) (L' := [(0, .ref m0), (1, .int (nI k)), (2, .int 3), (3, .int y), (4, .int w)]) (st' := [.int (jb true)]) (ws' := [(m0, .inr (4, [.int th, .int (nI N), .ref tb, .ref md, .ref rw0, .int sz, .ref cs, .ref va, .int lk, .ref rn, .ref kp])), (tb, jaR g 10 (fun i => some (tr i))), (tr k, jaI g 253 (jrw n f))]) ?_ rfl rfl (by rw [show jIn 3 0 5 = true by decide]) rfl
    refine j_if_ne (tgt := 22) C dX5_whyRange_17 (by decide) (fun c_2 => ?_) (fun c_2 => ?_)
    · skip
      have c_2 : true = true := jb_1 c_2
      refine j_aload_n 0 C dX5_whyRange_22 rfl rfl ?_
      refine j_get (Cn := RX5) (T := TX5) (N := 11) 0 2 C dX5_whyRange_23 hin_X5_whyRange_X5 rfl rfl (by decide) (List.mem_of_getElem? (i := 2) rfl) rfl ?_
      refine j_iload_n 1 C dX5_whyRange_26 rfl rfl ?_
      refine j_aldR (x := k) 1 C dX5_whyRange_27 rfl rfl (by omega) (by decide) ?_
      refine j_eq (pc' := 28) (L' := [(0, .ref m0), (1, .int (nI k)), (2, .int 3), (3, .int y), (4, .int w)]) (st' := [.ref (tr k)]) (ws' := [(m0, .inr (4, [.int th, .int (nI N), .ref tb, .ref md, .ref rw0, .int sz, .ref cs, .ref va, .int lk, .ref rn, .ref kp])), (tb, jaR g 10 (fun i => some (tr i))), (tr k, jaI g 253 (jrw n f))]) ?_ rfl rfl rfl rfl
      refine j_astore (L' := [(0, .ref m0), (1, .int (nI k)), (2, .int 3), (3, .int y), (4, .int w), (5, .ref (tr k))]) C dX5_whyRange_28 (Nat.le_of_ble_eq_true rfl) rfl rfl ?_
      refine j_iload_n 2 C dX5_whyRange_30 rfl rfl ?_
      refine j_if_eq (tgt := 39) C dX5_whyRange_31 (by decide) (fun c_3 => ?_) (fun c_3 => ?_)
      · skip
        exact absurd c_3 (by decide)
      · skip
        refine j_iload_n 2 C dX5_whyRange_34 rfl rfl ?_
        refine j_iconst (v := 4) C dX5_whyRange_35 rfl ?_
        refine j_icmp_ne (tgt := 43) C dX5_whyRange_36 (by decide) (fun c_4 => ?_) (fun c_4 => ?_)
        · skip
          refine j_iconst (v := 0) C dX5_whyRange_43 rfl ?_
          refine j_istore (L' := [(0, .ref m0), (1, .int (nI k)), (2, .int 3), (3, .int y), (4, .int w), (5, .ref (tr k)), (6, .int 0)]) C dX5_whyRange_44 (Nat.le_of_ble_eq_true rfl) rfl rfl ?_
          refine j_iload_n 2 C dX5_whyRange_46 rfl rfl ?_
          refine j_iconst (v := 5) C dX5_whyRange_47 rfl ?_
          refine j_icmp_ne (tgt := 58) C dX5_whyRange_48 (by decide) (fun c_5 => ?_) (fun c_5 => ?_)
          · skip
            refine j_iload_n 3 C dX5_whyRange_58 rfl rfl ?_
            refine j_i2l (v := y.toInt64) C dX5_whyRange_59 rfl ?_
            refine j_lconst (v := 0) C dX5_whyRange_60 rfl ?_
            refine j_aload 5 C dX5_whyRange_61 rfl ?_
            refine j_iconst (v := 0) C dX5_whyRange_63 rfl ?_
            refine j_ialdR0 2 C dX5_whyRange_64 rfl rfl ?_
            refine j_iload 6 C dX5_whyRange_65 rfl ?_
            refine j_if_eq (tgt := 74) C dX5_whyRange_67 (by decide) (fun c_6 => ?_) (fun c_6 => ?_)
            · skip
              refine j_iconst (v := 1) C dX5_whyRange_74 rfl ?_
              refine j_isub (x := nI n) (y := 1) (v := nI n - 1) C dX5_whyRange_75 rfl ?_
              refine j_i2l (v := (nI n - 1).toInt64) C dX5_whyRange_76 rfl ?_
              refine j_callRi (v := jb (jIn y.toInt64 0 ((nI n - 1).toInt64))) (j_runS (As := [.long y.toInt64, .long 0, .long ((nI n - 1).toInt64)]) (rest := []) [] C (c_X5_isIn l g y.toInt64 0 ((nI n - 1).toInt64)) gX5_whyRange_X5_isIn rfl rfl rfl hd_X5_isIn ⟨Nat.le_of_ble_eq_true rfl, Nat.le_of_ble_eq_true rfl⟩ rfl rfl dX5_whyRange_77 rfl (Nat.le_of_ble_eq_true rfl) ⟨Nat.le_of_ble_eq_true rfl, Nat.le_of_ble_eq_true rfl⟩) ?_
              refine j_eq (pc' := 80) (L' := [(0, .ref m0), (1, .int (nI k)), (2, .int 3), (3, .int y), (4, .int w), (5, .ref (tr k)), (6, .int 0)]) (st' := [.int (jb (jBt y 0 (nI n - 1)))]) (ws' := [(m0, .inr (4, [.int th, .int (nI N), .ref tb, .ref md, .ref rw0, .int sz, .ref cs, .ref va, .int lk, .ref rn, .ref kp])), (tb, jaR g 10 (fun i => some (tr i))), (tr k, jaI g 253 (jrw n f))]) ?_ rfl rfl (by rw [jIn_b y 0 (nI n - 1) _ _ (by decide) rfl]) rfl
              refine j_eq (pc' := 80) (L' := [(0, .ref m0), (1, .int (nI k)), (2, .int 3), (3, .int y), (4, .int w), (5, .ref (tr k)), (6, .int 0)]) (st' := [.int (jb false)]) (ws' := [(m0, .inr (4, [.int th, .int (nI N), .ref tb, .ref md, .ref rw0, .int sz, .ref cs, .ref va, .int lk, .ref rn, .ref kp])), (tb, jaR g 10 (fun i => some (tr i))), (tr k, jaI g 253 (jrw n f))]) ?_ rfl rfl (by rw [hy]) rfl
              refine j_if_ne (tgt := 85) C dX5_whyRange_80 (by decide) (fun c_7 => ?_) (fun c_7 => ?_)
              · skip
                have c_7 : false = true := jb_1 c_7
                (first | exact absurd c_7 (by decide) | exact absurd c_7 (by omega) | simp_all)
              · skip
                have c_7 : false = false := jb_0 c_7
                refine j_iconst (v := 1) C dX5_whyRange_83 rfl ?_
                exact j_iretR (v := 1) C hr dX5_whyRange_84 rfl
            · skip
              exact absurd c_6 (by decide)
          · skip
            exact absurd c_5 (by decide)
        · skip
          exact absurd c_4 (by decide)
    · skip
      have c_2 : true = false := jb_0 c_2
      (first | exact absurd c_2 (by decide) | exact absurd c_2 (by omega) | simp_all)
set_option maxHeartbeats 4000000 in
set_option maxRecDepth 100000 in
theorem c_X5_whyRange_l4 (l : Launch) (g : jG) (m0 : Nat) (th : Int32) (N tb md rw0 : Nat) (sz : Int32) (cs va : Nat) (lk : Int32) (rn kp : Nat) (tr : Nat → Nat) (k n : Nat) (f : Nat → Int32) (y w : Int32) (hk : k < N) (hN : N ≤ 10) (hy : jBt y 0 (nI n - 2) = false) : jRi l yX5_whyRange wsX5_whyRange ({ frames := 3, cells := 0, slots := 0, locals := 100 }) g [.ref m0, .int (nI k), .int 4, .int y, .int w] [(m0, .inr (4, [.int th, .int (nI N), .ref tb, .ref md, .ref rw0, .int sz, .ref cs, .ref va, .int lk, .ref rn, .ref kp])), (tb, jaR g 10 (fun i => some (tr i))), (tr k, jaI g 253 (jrw n f))] 1 := by
  refine j_enterR (cc := cX5_whyRange) (maxL := 8) (ret := (some .int)) (own := RX5) (L := [(0, .ref m0), (1, .int (nI k)), (2, .int 4), (3, .int y), (4, .int w)]) (by decide) rfl rfl (Nat.le_of_ble_eq_true rfl) rfl (fun p e s m args below meth c C hr => ?_)
  refine j_aload_n 0 C dX5_whyRange_0 rfl rfl ?_
  refine j_iload_n 1 C dX5_whyRange_1 rfl rfl ?_
  refine j_callRi (v := jb (jBt (nI k) 0 ((nI N) - 1))) (j_runV (ci := 0) (As := [.int (nI k)]) (rest := []) [0] C (c_X5_isProgram l g m0 th (nI N) tb md rw0 sz cs va lk rn kp (nI k)) gX5_whyRange_X5_isProgram rfl rfl rfl hd_X5_isProgram ⟨Nat.le_of_ble_eq_true rfl, Nat.le_of_ble_eq_true rfl⟩ rfl rfl rfl rfl dX5_whyRange_2 rfl (Nat.le_of_ble_eq_true rfl) ⟨Nat.le_of_ble_eq_true rfl, Nat.le_of_ble_eq_true rfl⟩) ?_
  refine j_eq (pc' := 5) (L' := [(0, .ref m0), (1, .int (nI k)), (2, .int 4), (3, .int y), (4, .int w)]) (st' := [.int (jb true)]) (ws' := [(m0, .inr (4, [.int th, .int (nI N), .ref tb, .ref md, .ref rw0, .int sz, .ref cs, .ref va, .int lk, .ref rn, .ref kp])), (tb, jaR g 10 (fun i => some (tr i))), (tr k, jaI g 253 (jrw n f))]) ?_ rfl rfl (by rw [jBt_n hk (by omega)]) rfl
  refine j_if_eq (tgt := 20) C dX5_whyRange_5 (by decide) (fun c_1 => ?_) (fun c_1 => ?_)
  · skip
    have c_1 : true = false := jb_0 c_1
    (first | exact absurd c_1 (by decide) | exact absurd c_1 (by omega) | simp_all)
  · skip
    have c_1 : true = true := jb_1 c_1
    refine j_iload_n 2 C dX5_whyRange_8 rfl rfl ?_
    refine j_i2l (v := 4) C dX5_whyRange_9 (by decide) ?_
    refine j_lconst (v := 0) C dX5_whyRange_10 rfl ?_
    refine j_ldc2 (v := 5) C dX5_whyRange_11 (List.mem_of_getElem? (i := 1) rfl) ?_
    refine j_callRi (v := jb (jIn 4 0 5)) (j_runS (As := [.long 4, .long 0, .long 5]) (rest := []) [] C (c_X5_isIn l g 4 0 5) gX5_whyRange_X5_isIn rfl rfl rfl hd_X5_isIn ⟨Nat.le_of_ble_eq_true rfl, Nat.le_of_ble_eq_true rfl⟩ rfl rfl dX5_whyRange_14 rfl (Nat.le_of_ble_eq_true rfl) ⟨Nat.le_of_ble_eq_true rfl, Nat.le_of_ble_eq_true rfl⟩) ?_
    refine j_eq (pc' := 17) (L' := [(0, .ref m0), (1, .int (nI k)), (2, .int 4), (3, .int y), (4, .int w)]) (st' := [.int (jb true)]) (ws' := [(m0, .inr (4, [.int th, .int (nI N), .ref tb, .ref md, .ref rw0, .int sz, .ref cs, .ref va, .int lk, .ref rn, .ref kp])), (tb, jaR g 10 (fun i => some (tr i))), (tr k, jaI g 253 (jrw n f))]) ?_ rfl rfl (by rw [show jIn 4 0 5 = true by decide]) rfl
    refine j_if_ne (tgt := 22) C dX5_whyRange_17 (by decide) (fun c_2 => ?_) (fun c_2 => ?_)
    · skip
      have c_2 : true = true := jb_1 c_2
      refine j_aload_n 0 C dX5_whyRange_22 rfl rfl ?_
      refine j_get (Cn := RX5) (T := TX5) (N := 11) 0 2 C dX5_whyRange_23 hin_X5_whyRange_X5 rfl rfl (by decide) (List.mem_of_getElem? (i := 2) rfl) rfl ?_
      refine j_iload_n 1 C dX5_whyRange_26 rfl rfl ?_
      refine j_aldR (x := k) 1 C dX5_whyRange_27 rfl rfl (by omega) (by decide) ?_
      refine j_eq (pc' := 28) (L' := [(0, .ref m0), (1, .int (nI k)), (2, .int 4), (3, .int y), (4, .int w)]) (st' := [.ref (tr k)]) (ws' := [(m0, .inr (4, [.int th, .int (nI N), .ref tb, .ref md, .ref rw0, .int sz, .ref cs, .ref va, .int lk, .ref rn, .ref kp])), (tb, jaR g 10 (fun i => some (tr i))), (tr k, jaI g 253 (jrw n f))]) ?_ rfl rfl rfl rfl
      refine j_astore (L' := [(0, .ref m0), (1, .int (nI k)), (2, .int 4), (3, .int y), (4, .int w), (5, .ref (tr k))]) C dX5_whyRange_28 (Nat.le_of_ble_eq_true rfl) rfl rfl ?_
      refine j_iload_n 2 C dX5_whyRange_30 rfl rfl ?_
      refine j_if_eq (tgt := 39) C dX5_whyRange_31 (by decide) (fun c_3 => ?_) (fun c_3 => ?_)
      · skip
        exact absurd c_3 (by decide)
      · skip
        refine j_iload_n 2 C dX5_whyRange_34 rfl rfl ?_
        refine j_iconst (v := 4) C dX5_whyRange_35 rfl ?_
        refine j_icmp_ne (tgt := 43) C dX5_whyRange_36 (by decide) (fun c_4 => ?_) (fun c_4 => ?_)
        · skip
          exact absurd c_4 (by decide)
        · skip
          refine j_iconst (v := 1) C dX5_whyRange_39 rfl ?_
          refine j_goto (tgt := 44) C dX5_whyRange_40 (by decide) ?_
          refine j_istore (L' := [(0, .ref m0), (1, .int (nI k)), (2, .int 4), (3, .int y), (4, .int w), (5, .ref (tr k)), (6, .int 1)]) C dX5_whyRange_44 (Nat.le_of_ble_eq_true rfl) rfl rfl ?_
          refine j_iload_n 2 C dX5_whyRange_46 rfl rfl ?_
          refine j_iconst (v := 5) C dX5_whyRange_47 rfl ?_
          refine j_icmp_ne (tgt := 58) C dX5_whyRange_48 (by decide) (fun c_5 => ?_) (fun c_5 => ?_)
          · skip
            refine j_iload_n 3 C dX5_whyRange_58 rfl rfl ?_
            refine j_i2l (v := y.toInt64) C dX5_whyRange_59 rfl ?_
            refine j_lconst (v := 0) C dX5_whyRange_60 rfl ?_
            refine j_aload 5 C dX5_whyRange_61 rfl ?_
            refine j_iconst (v := 0) C dX5_whyRange_63 rfl ?_
            refine j_ialdR0 2 C dX5_whyRange_64 rfl rfl ?_
            refine j_iload 6 C dX5_whyRange_65 rfl ?_
            refine j_if_eq (tgt := 74) C dX5_whyRange_67 (by decide) (fun c_6 => ?_) (fun c_6 => ?_)
            · skip
              exact absurd c_6 (by decide)
            · skip
              refine j_iconst (v := 2) C dX5_whyRange_70 rfl ?_
              refine j_goto (tgt := 75) C dX5_whyRange_71 (by decide) ?_
              refine j_isub (x := nI n) (y := 2) (v := nI n - 2) C dX5_whyRange_75 rfl ?_
              refine j_i2l (v := (nI n - 2).toInt64) C dX5_whyRange_76 rfl ?_
              refine j_callRi (v := jb (jIn y.toInt64 0 ((nI n - 2).toInt64))) (j_runS (As := [.long y.toInt64, .long 0, .long ((nI n - 2).toInt64)]) (rest := []) [] C (c_X5_isIn l g y.toInt64 0 ((nI n - 2).toInt64)) gX5_whyRange_X5_isIn rfl rfl rfl hd_X5_isIn ⟨Nat.le_of_ble_eq_true rfl, Nat.le_of_ble_eq_true rfl⟩ rfl rfl dX5_whyRange_77 rfl (Nat.le_of_ble_eq_true rfl) ⟨Nat.le_of_ble_eq_true rfl, Nat.le_of_ble_eq_true rfl⟩) ?_
              refine j_eq (pc' := 80) (L' := [(0, .ref m0), (1, .int (nI k)), (2, .int 4), (3, .int y), (4, .int w), (5, .ref (tr k)), (6, .int 1)]) (st' := [.int (jb (jBt y 0 (nI n - 2)))]) (ws' := [(m0, .inr (4, [.int th, .int (nI N), .ref tb, .ref md, .ref rw0, .int sz, .ref cs, .ref va, .int lk, .ref rn, .ref kp])), (tb, jaR g 10 (fun i => some (tr i))), (tr k, jaI g 253 (jrw n f))]) ?_ rfl rfl (by rw [jIn_b y 0 (nI n - 2) _ _ (by decide) rfl]) rfl
              refine j_eq (pc' := 80) (L' := [(0, .ref m0), (1, .int (nI k)), (2, .int 4), (3, .int y), (4, .int w), (5, .ref (tr k)), (6, .int 1)]) (st' := [.int (jb false)]) (ws' := [(m0, .inr (4, [.int th, .int (nI N), .ref tb, .ref md, .ref rw0, .int sz, .ref cs, .ref va, .int lk, .ref rn, .ref kp])), (tb, jaR g 10 (fun i => some (tr i))), (tr k, jaI g 253 (jrw n f))]) ?_ rfl rfl (by rw [hy]) rfl
              refine j_if_ne (tgt := 85) C dX5_whyRange_80 (by decide) (fun c_7 => ?_) (fun c_7 => ?_)
              · skip
                have c_7 : false = true := jb_1 c_7
                (first | exact absurd c_7 (by decide) | exact absurd c_7 (by omega) | simp_all)
              · skip
                have c_7 : false = false := jb_0 c_7
                refine j_iconst (v := 1) C dX5_whyRange_83 rfl ?_
                exact j_iretR (v := 1) C hr dX5_whyRange_84 rfl
          · skip
            exact absurd c_5 (by decide)
    · skip
      have c_2 : true = false := jb_0 c_2
      (first | exact absurd c_2 (by decide) | exact absurd c_2 (by omega) | simp_all)
set_option maxHeartbeats 4000000 in
set_option maxRecDepth 100000 in
theorem c_X5_whyRange_l5 (l : Launch) (g : jG) (m0 : Nat) (th : Int32) (N tb md rw0 : Nat) (sz : Int32) (cs va : Nat) (lk : Int32) (rn kp : Nat) (tr : Nat → Nat) (k n : Nat) (f : Nat → Int32) (y w : Int32) (hk : k < N) (hN : N ≤ 10) (hy : ¬ y = 0) : jRi l yX5_whyRange wsX5_whyRange ({ frames := 3, cells := 0, slots := 0, locals := 100 }) g [.ref m0, .int (nI k), .int 5, .int y, .int w] [(m0, .inr (4, [.int th, .int (nI N), .ref tb, .ref md, .ref rw0, .int sz, .ref cs, .ref va, .int lk, .ref rn, .ref kp])), (tb, jaR g 10 (fun i => some (tr i))), (tr k, jaI g 253 (jrw n f))] 1 := by
  refine j_enterR (cc := cX5_whyRange) (maxL := 8) (ret := (some .int)) (own := RX5) (L := [(0, .ref m0), (1, .int (nI k)), (2, .int 5), (3, .int y), (4, .int w)]) (by decide) rfl rfl (Nat.le_of_ble_eq_true rfl) rfl (fun p e s m args below meth c C hr => ?_)
  refine j_aload_n 0 C dX5_whyRange_0 rfl rfl ?_
  refine j_iload_n 1 C dX5_whyRange_1 rfl rfl ?_
  refine j_callRi (v := jb (jBt (nI k) 0 ((nI N) - 1))) (j_runV (ci := 0) (As := [.int (nI k)]) (rest := []) [0] C (c_X5_isProgram l g m0 th (nI N) tb md rw0 sz cs va lk rn kp (nI k)) gX5_whyRange_X5_isProgram rfl rfl rfl hd_X5_isProgram ⟨Nat.le_of_ble_eq_true rfl, Nat.le_of_ble_eq_true rfl⟩ rfl rfl rfl rfl dX5_whyRange_2 rfl (Nat.le_of_ble_eq_true rfl) ⟨Nat.le_of_ble_eq_true rfl, Nat.le_of_ble_eq_true rfl⟩) ?_
  refine j_eq (pc' := 5) (L' := [(0, .ref m0), (1, .int (nI k)), (2, .int 5), (3, .int y), (4, .int w)]) (st' := [.int (jb true)]) (ws' := [(m0, .inr (4, [.int th, .int (nI N), .ref tb, .ref md, .ref rw0, .int sz, .ref cs, .ref va, .int lk, .ref rn, .ref kp])), (tb, jaR g 10 (fun i => some (tr i))), (tr k, jaI g 253 (jrw n f))]) ?_ rfl rfl (by rw [jBt_n hk (by omega)]) rfl
  refine j_if_eq (tgt := 20) C dX5_whyRange_5 (by decide) (fun c_1 => ?_) (fun c_1 => ?_)
  · skip
    have c_1 : true = false := jb_0 c_1
    (first | exact absurd c_1 (by decide) | exact absurd c_1 (by omega) | simp_all)
  · skip
    have c_1 : true = true := jb_1 c_1
    refine j_iload_n 2 C dX5_whyRange_8 rfl rfl ?_
    refine j_i2l (v := 5) C dX5_whyRange_9 (by decide) ?_
    refine j_lconst (v := 0) C dX5_whyRange_10 rfl ?_
    refine j_ldc2 (v := 5) C dX5_whyRange_11 (List.mem_of_getElem? (i := 1) rfl) ?_
    refine j_callRi (v := jb (jIn 5 0 5)) (j_runS (As := [.long 5, .long 0, .long 5]) (rest := []) [] C (c_X5_isIn l g 5 0 5) gX5_whyRange_X5_isIn rfl rfl rfl hd_X5_isIn ⟨Nat.le_of_ble_eq_true rfl, Nat.le_of_ble_eq_true rfl⟩ rfl rfl dX5_whyRange_14 rfl (Nat.le_of_ble_eq_true rfl) ⟨Nat.le_of_ble_eq_true rfl, Nat.le_of_ble_eq_true rfl⟩) ?_
    refine j_eq (pc' := 17) (L' := [(0, .ref m0), (1, .int (nI k)), (2, .int 5), (3, .int y), (4, .int w)]) (st' := [.int (jb true)]) (ws' := [(m0, .inr (4, [.int th, .int (nI N), .ref tb, .ref md, .ref rw0, .int sz, .ref cs, .ref va, .int lk, .ref rn, .ref kp])), (tb, jaR g 10 (fun i => some (tr i))), (tr k, jaI g 253 (jrw n f))]) ?_ rfl rfl (by rw [show jIn 5 0 5 = true by decide]) rfl
    refine j_if_ne (tgt := 22) C dX5_whyRange_17 (by decide) (fun c_2 => ?_) (fun c_2 => ?_)
    · skip
      have c_2 : true = true := jb_1 c_2
      refine j_aload_n 0 C dX5_whyRange_22 rfl rfl ?_
      refine j_get (Cn := RX5) (T := TX5) (N := 11) 0 2 C dX5_whyRange_23 hin_X5_whyRange_X5 rfl rfl (by decide) (List.mem_of_getElem? (i := 2) rfl) rfl ?_
      refine j_iload_n 1 C dX5_whyRange_26 rfl rfl ?_
      refine j_aldR (x := k) 1 C dX5_whyRange_27 rfl rfl (by omega) (by decide) ?_
      refine j_eq (pc' := 28) (L' := [(0, .ref m0), (1, .int (nI k)), (2, .int 5), (3, .int y), (4, .int w)]) (st' := [.ref (tr k)]) (ws' := [(m0, .inr (4, [.int th, .int (nI N), .ref tb, .ref md, .ref rw0, .int sz, .ref cs, .ref va, .int lk, .ref rn, .ref kp])), (tb, jaR g 10 (fun i => some (tr i))), (tr k, jaI g 253 (jrw n f))]) ?_ rfl rfl rfl rfl
      refine j_astore (L' := [(0, .ref m0), (1, .int (nI k)), (2, .int 5), (3, .int y), (4, .int w), (5, .ref (tr k))]) C dX5_whyRange_28 (Nat.le_of_ble_eq_true rfl) rfl rfl ?_
      refine j_iload_n 2 C dX5_whyRange_30 rfl rfl ?_
      refine j_if_eq (tgt := 39) C dX5_whyRange_31 (by decide) (fun c_3 => ?_) (fun c_3 => ?_)
      · skip
        exact absurd c_3 (by decide)
      · skip
        refine j_iload_n 2 C dX5_whyRange_34 rfl rfl ?_
        refine j_iconst (v := 4) C dX5_whyRange_35 rfl ?_
        refine j_icmp_ne (tgt := 43) C dX5_whyRange_36 (by decide) (fun c_4 => ?_) (fun c_4 => ?_)
        · skip
          refine j_iconst (v := 0) C dX5_whyRange_43 rfl ?_
          refine j_istore (L' := [(0, .ref m0), (1, .int (nI k)), (2, .int 5), (3, .int y), (4, .int w), (5, .ref (tr k)), (6, .int 0)]) C dX5_whyRange_44 (Nat.le_of_ble_eq_true rfl) rfl rfl ?_
          refine j_iload_n 2 C dX5_whyRange_46 rfl rfl ?_
          refine j_iconst (v := 5) C dX5_whyRange_47 rfl ?_
          refine j_icmp_ne (tgt := 58) C dX5_whyRange_48 (by decide) (fun c_5 => ?_) (fun c_5 => ?_)
          · skip
            exact absurd c_5 (by decide)
          · skip
            refine j_iload_n 3 C dX5_whyRange_51 rfl rfl ?_
            refine j_if_eq (tgt := 85) C dX5_whyRange_52 (by decide) (fun c_6 => ?_) (fun c_6 => ?_)
            · skip
              (first | exact absurd c_6 (by decide) | exact absurd c_6 (by omega) | simp_all)
            · skip
              refine j_goto (tgt := 83) C dX5_whyRange_55 (by decide) ?_
              refine j_iconst (v := 1) C dX5_whyRange_83 rfl ?_
              exact j_iretR (v := 1) C hr dX5_whyRange_84 rfl
        · skip
          exact absurd c_4 (by decide)
    · skip
      have c_2 : true = false := jb_0 c_2
      (first | exact absurd c_2 (by decide) | exact absurd c_2 (by omega) | simp_all)
set_option maxHeartbeats 4000000 in
set_option maxRecDepth 100000 in
theorem c_X5_whyRange_w0 (l : Launch) (g : jG) (m0 : Nat) (th : Int32) (N tb md rw0 : Nat) (sz : Int32) (cs va : Nat) (lk : Int32) (rn kp : Nat) (tr : Nat → Nat) (k n : Nat) (f : Nat → Int32) (j : Nat) (w : Int32) (hk : k < N) (hN : N ≤ 10) (hj : j + 1 < n) (hn : n ≤ 8) (hw : ¬ w = 0) : jRi l yX5_whyRange wsX5_whyRange ({ frames := 3, cells := 0, slots := 0, locals := 100 }) g [.ref m0, .int (nI k), .int 0, .int (nI j), .int w] [(m0, .inr (4, [.int th, .int (nI N), .ref tb, .ref md, .ref rw0, .int sz, .ref cs, .ref va, .int lk, .ref rn, .ref kp])), (tb, jaR g 10 (fun i => some (tr i))), (tr k, jaI g 253 (jrw n f))] 2 := by
  refine j_enterR (cc := cX5_whyRange) (maxL := 8) (ret := (some .int)) (own := RX5) (L := [(0, .ref m0), (1, .int (nI k)), (2, .int 0), (3, .int (nI j)), (4, .int w)]) (by decide) rfl rfl (Nat.le_of_ble_eq_true rfl) rfl (fun p e s m args below meth c C hr => ?_)
  refine j_aload_n 0 C dX5_whyRange_0 rfl rfl ?_
  refine j_iload_n 1 C dX5_whyRange_1 rfl rfl ?_
  refine j_callRi (v := jb (jBt (nI k) 0 ((nI N) - 1))) (j_runV (ci := 0) (As := [.int (nI k)]) (rest := []) [0] C (c_X5_isProgram l g m0 th (nI N) tb md rw0 sz cs va lk rn kp (nI k)) gX5_whyRange_X5_isProgram rfl rfl rfl hd_X5_isProgram ⟨Nat.le_of_ble_eq_true rfl, Nat.le_of_ble_eq_true rfl⟩ rfl rfl rfl rfl dX5_whyRange_2 rfl (Nat.le_of_ble_eq_true rfl) ⟨Nat.le_of_ble_eq_true rfl, Nat.le_of_ble_eq_true rfl⟩) ?_
  refine j_eq (pc' := 5) (L' := [(0, .ref m0), (1, .int (nI k)), (2, .int 0), (3, .int (nI j)), (4, .int w)]) (st' := [.int (jb true)]) (ws' := [(m0, .inr (4, [.int th, .int (nI N), .ref tb, .ref md, .ref rw0, .int sz, .ref cs, .ref va, .int lk, .ref rn, .ref kp])), (tb, jaR g 10 (fun i => some (tr i))), (tr k, jaI g 253 (jrw n f))]) ?_ rfl rfl (by rw [jBt_n hk (by omega)]) rfl
  refine j_if_eq (tgt := 20) C dX5_whyRange_5 (by decide) (fun c_1 => ?_) (fun c_1 => ?_)
  · skip
    have c_1 : true = false := jb_0 c_1
    (first | exact absurd c_1 (by decide) | exact absurd c_1 (by omega) | simp_all)
  · skip
    have c_1 : true = true := jb_1 c_1
    refine j_iload_n 2 C dX5_whyRange_8 rfl rfl ?_
    refine j_i2l (v := 0) C dX5_whyRange_9 (by decide) ?_
    refine j_lconst (v := 0) C dX5_whyRange_10 rfl ?_
    refine j_ldc2 (v := 5) C dX5_whyRange_11 (List.mem_of_getElem? (i := 1) rfl) ?_
    refine j_callRi (v := jb (jIn 0 0 5)) (j_runS (As := [.long 0, .long 0, .long 5]) (rest := []) [] C (c_X5_isIn l g 0 0 5) gX5_whyRange_X5_isIn rfl rfl rfl hd_X5_isIn ⟨Nat.le_of_ble_eq_true rfl, Nat.le_of_ble_eq_true rfl⟩ rfl rfl dX5_whyRange_14 rfl (Nat.le_of_ble_eq_true rfl) ⟨Nat.le_of_ble_eq_true rfl, Nat.le_of_ble_eq_true rfl⟩) ?_
    refine j_eq (pc' := 17) (L' := [(0, .ref m0), (1, .int (nI k)), (2, .int 0), (3, .int (nI j)), (4, .int w)]) (st' := [.int (jb true)]) (ws' := [(m0, .inr (4, [.int th, .int (nI N), .ref tb, .ref md, .ref rw0, .int sz, .ref cs, .ref va, .int lk, .ref rn, .ref kp])), (tb, jaR g 10 (fun i => some (tr i))), (tr k, jaI g 253 (jrw n f))]) ?_ rfl rfl (by rw [show jIn 0 0 5 = true by decide]) rfl
    refine j_if_ne (tgt := 22) C dX5_whyRange_17 (by decide) (fun c_2 => ?_) (fun c_2 => ?_)
    · skip
      have c_2 : true = true := jb_1 c_2
      refine j_aload_n 0 C dX5_whyRange_22 rfl rfl ?_
      refine j_get (Cn := RX5) (T := TX5) (N := 11) 0 2 C dX5_whyRange_23 hin_X5_whyRange_X5 rfl rfl (by decide) (List.mem_of_getElem? (i := 2) rfl) rfl ?_
      refine j_iload_n 1 C dX5_whyRange_26 rfl rfl ?_
      refine j_aldR (x := k) 1 C dX5_whyRange_27 rfl rfl (by omega) (by decide) ?_
      refine j_eq (pc' := 28) (L' := [(0, .ref m0), (1, .int (nI k)), (2, .int 0), (3, .int (nI j)), (4, .int w)]) (st' := [.ref (tr k)]) (ws' := [(m0, .inr (4, [.int th, .int (nI N), .ref tb, .ref md, .ref rw0, .int sz, .ref cs, .ref va, .int lk, .ref rn, .ref kp])), (tb, jaR g 10 (fun i => some (tr i))), (tr k, jaI g 253 (jrw n f))]) ?_ rfl rfl rfl rfl
      refine j_astore (L' := [(0, .ref m0), (1, .int (nI k)), (2, .int 0), (3, .int (nI j)), (4, .int w), (5, .ref (tr k))]) C dX5_whyRange_28 (Nat.le_of_ble_eq_true rfl) rfl rfl ?_
      refine j_iload_n 2 C dX5_whyRange_30 rfl rfl ?_
      refine j_if_eq (tgt := 39) C dX5_whyRange_31 (by decide) (fun c_3 => ?_) (fun c_3 => ?_)
      · skip
        refine j_iconst (v := 1) C dX5_whyRange_39 rfl ?_
        refine j_goto (tgt := 44) C dX5_whyRange_40 (by decide) ?_
        refine j_istore (L' := [(0, .ref m0), (1, .int (nI k)), (2, .int 0), (3, .int (nI j)), (4, .int w), (5, .ref (tr k)), (6, .int 1)]) C dX5_whyRange_44 (Nat.le_of_ble_eq_true rfl) rfl rfl ?_
        refine j_iload_n 2 C dX5_whyRange_46 rfl rfl ?_
        refine j_iconst (v := 5) C dX5_whyRange_47 rfl ?_
        refine j_icmp_ne (tgt := 58) C dX5_whyRange_48 (by decide) (fun c_4 => ?_) (fun c_4 => ?_)
        · skip
          refine j_iload_n 3 C dX5_whyRange_58 rfl rfl ?_
          refine j_i2l (v := (nI j).toInt64) C dX5_whyRange_59 rfl ?_
          refine j_lconst (v := 0) C dX5_whyRange_60 rfl ?_
          refine j_aload 5 C dX5_whyRange_61 rfl ?_
          refine j_iconst (v := 0) C dX5_whyRange_63 rfl ?_
          refine j_ialdR0 2 C dX5_whyRange_64 rfl rfl ?_
          refine j_iload 6 C dX5_whyRange_65 rfl ?_
          refine j_if_eq (tgt := 74) C dX5_whyRange_67 (by decide) (fun c_5 => ?_) (fun c_5 => ?_)
          · skip
            exact absurd c_5 (by decide)
          · skip
            refine j_iconst (v := 2) C dX5_whyRange_70 rfl ?_
            refine j_goto (tgt := 75) C dX5_whyRange_71 (by decide) ?_
            refine j_isub (x := nI n) (y := 2) (v := nI n - 2) C dX5_whyRange_75 rfl ?_
            refine j_i2l (v := (nI n - 2).toInt64) C dX5_whyRange_76 rfl ?_
            refine j_callRi (v := jb (jIn ((nI j).toInt64) 0 ((nI n - 2).toInt64))) (j_runS (As := [.long ((nI j).toInt64), .long 0, .long ((nI n - 2).toInt64)]) (rest := []) [] C (c_X5_isIn l g ((nI j).toInt64) 0 ((nI n - 2).toInt64)) gX5_whyRange_X5_isIn rfl rfl rfl hd_X5_isIn ⟨Nat.le_of_ble_eq_true rfl, Nat.le_of_ble_eq_true rfl⟩ rfl rfl dX5_whyRange_77 rfl (Nat.le_of_ble_eq_true rfl) ⟨Nat.le_of_ble_eq_true rfl, Nat.le_of_ble_eq_true rfl⟩) ?_
            refine j_eq (pc' := 80) (L' := [(0, .ref m0), (1, .int (nI k)), (2, .int 0), (3, .int (nI j)), (4, .int w), (5, .ref (tr k)), (6, .int 1)]) (st' := [.int (jb (jBt (nI j) 0 (nI n - 2)))]) (ws' := [(m0, .inr (4, [.int th, .int (nI N), .ref tb, .ref md, .ref rw0, .int sz, .ref cs, .ref va, .int lk, .ref rn, .ref kp])), (tb, jaR g 10 (fun i => some (tr i))), (tr k, jaI g 253 (jrw n f))]) ?_ rfl rfl (by rw [jIn_b (nI j) 0 (nI n - 2) _ _ (by decide) rfl]) rfl
            refine j_eq (pc' := 80) (L' := [(0, .ref m0), (1, .int (nI k)), (2, .int 0), (3, .int (nI j)), (4, .int w), (5, .ref (tr k)), (6, .int 1)]) (st' := [.int (jb true)]) (ws' := [(m0, .inr (4, [.int th, .int (nI N), .ref tb, .ref md, .ref rw0, .int sz, .ref cs, .ref va, .int lk, .ref rn, .ref kp])), (tb, jaR g 10 (fun i => some (tr i))), (tr k, jaI g 253 (jrw n f))]) ?_ rfl rfl (by rw [jBt_n2 hj (by omega)]) rfl
            refine j_if_ne (tgt := 85) C dX5_whyRange_80 (by decide) (fun c_6 => ?_) (fun c_6 => ?_)
            · skip
              have c_6 : true = true := jb_1 c_6
              refine j_iload_n 2 C dX5_whyRange_85 rfl rfl ?_
              refine j_iconst (v := 1) C dX5_whyRange_86 rfl ?_
              refine j_icmp_ne (tgt := 109) C dX5_whyRange_87 (by decide) (fun c_7 => ?_) (fun c_7 => ?_)
              · skip
                refine j_iload_n 2 C dX5_whyRange_109 rfl rfl ?_
                refine j_iconst (v := 2) C dX5_whyRange_110 rfl ?_
                refine j_icmp_ne (tgt := 127) C dX5_whyRange_111 (by decide) (fun c_8 => ?_) (fun c_8 => ?_)
                · skip
                  refine j_iload 4 C dX5_whyRange_127 rfl ?_
                  refine j_if_ne (tgt := 136) C dX5_whyRange_129 (by decide) (fun c_9 => ?_) (fun c_9 => ?_)
                  · skip
                    refine j_iconst (v := 0) C dX5_whyRange_136 rfl ?_
                    refine j_istore (L' := [(0, .ref m0), (1, .int (nI k)), (2, .int 0), (3, .int (nI j)), (4, .int w), (5, .ref (tr k)), (6, .int 1), (7, .int 0)]) C dX5_whyRange_137 (Nat.le_of_ble_eq_true rfl) rfl rfl ?_
                    refine j_iload 7 C dX5_whyRange_139 rfl ?_
                    refine j_if_eq (tgt := 148) C dX5_whyRange_141 (by decide) (fun c_10 => ?_) (fun c_10 => ?_)
                    · skip
                      refine j_iconst (v := 2) C dX5_whyRange_148 rfl ?_
                      exact j_iretR (v := 2) C hr dX5_whyRange_149 rfl
                    · skip
                      exact absurd c_10 (by decide)
                  · skip
                    (first | exact absurd c_9 (by decide) | exact absurd c_9 (by omega) | simp_all)
                · skip
                  exact absurd c_8 (by decide)
              · skip
                exact absurd c_7 (by decide)
            · skip
              have c_6 : true = false := jb_0 c_6
              (first | exact absurd c_6 (by decide) | exact absurd c_6 (by omega) | simp_all)
        · skip
          exact absurd c_4 (by decide)
      · skip
        exact absurd c_3 (by decide)
    · skip
      have c_2 : true = false := jb_0 c_2
      (first | exact absurd c_2 (by decide) | exact absurd c_2 (by omega) | simp_all)
set_option maxHeartbeats 4000000 in
set_option maxRecDepth 100000 in
theorem c_X5_whyRange_w1 (l : Launch) (g : jG) (m0 : Nat) (th : Int32) (N tb md rw0 : Nat) (sz : Int32) (cs va : Nat) (lk : Int32) (rn kp : Nat) (tr : Nat → Nat) (k n : Nat) (f : Nat → Int32) (j a : Nat) (w : Int32) (hk : k < N) (hN : N ≤ 10) (hj : j < n) (hn : n ≤ 8) (ha : f (j * 28 + 3) = nI a) (ha6 : a ≤ 6) (hw : jBt w 1 (nI a - 1) = false) : jRi l yX5_whyRange wsX5_whyRange ({ frames := 3, cells := 0, slots := 0, locals := 100 }) g [.ref m0, .int (nI k), .int 1, .int (nI j), .int w] [(m0, .inr (4, [.int th, .int (nI N), .ref tb, .ref md, .ref rw0, .int sz, .ref cs, .ref va, .int lk, .ref rn, .ref kp])), (tb, jaR g 10 (fun i => some (tr i))), (tr k, jaI g 253 (jrw n f))] 2 := by
  refine j_enterR (cc := cX5_whyRange) (maxL := 8) (ret := (some .int)) (own := RX5) (L := [(0, .ref m0), (1, .int (nI k)), (2, .int 1), (3, .int (nI j)), (4, .int w)]) (by decide) rfl rfl (Nat.le_of_ble_eq_true rfl) rfl (fun p e s m args below meth c C hr => ?_)
  refine j_aload_n 0 C dX5_whyRange_0 rfl rfl ?_
  refine j_iload_n 1 C dX5_whyRange_1 rfl rfl ?_
  refine j_callRi (v := jb (jBt (nI k) 0 ((nI N) - 1))) (j_runV (ci := 0) (As := [.int (nI k)]) (rest := []) [0] C (c_X5_isProgram l g m0 th (nI N) tb md rw0 sz cs va lk rn kp (nI k)) gX5_whyRange_X5_isProgram rfl rfl rfl hd_X5_isProgram ⟨Nat.le_of_ble_eq_true rfl, Nat.le_of_ble_eq_true rfl⟩ rfl rfl rfl rfl dX5_whyRange_2 rfl (Nat.le_of_ble_eq_true rfl) ⟨Nat.le_of_ble_eq_true rfl, Nat.le_of_ble_eq_true rfl⟩) ?_
  refine j_eq (pc' := 5) (L' := [(0, .ref m0), (1, .int (nI k)), (2, .int 1), (3, .int (nI j)), (4, .int w)]) (st' := [.int (jb true)]) (ws' := [(m0, .inr (4, [.int th, .int (nI N), .ref tb, .ref md, .ref rw0, .int sz, .ref cs, .ref va, .int lk, .ref rn, .ref kp])), (tb, jaR g 10 (fun i => some (tr i))), (tr k, jaI g 253 (jrw n f))]) ?_ rfl rfl (by rw [jBt_n hk (by omega)]) rfl
  refine j_if_eq (tgt := 20) C dX5_whyRange_5 (by decide) (fun c_1 => ?_) (fun c_1 => ?_)
  · skip
    have c_1 : true = false := jb_0 c_1
    (first | exact absurd c_1 (by decide) | exact absurd c_1 (by omega) | simp_all)
  · skip
    have c_1 : true = true := jb_1 c_1
    refine j_iload_n 2 C dX5_whyRange_8 rfl rfl ?_
    refine j_i2l (v := 1) C dX5_whyRange_9 (by decide) ?_
    refine j_lconst (v := 0) C dX5_whyRange_10 rfl ?_
    refine j_ldc2 (v := 5) C dX5_whyRange_11 (List.mem_of_getElem? (i := 1) rfl) ?_
    refine j_callRi (v := jb (jIn 1 0 5)) (j_runS (As := [.long 1, .long 0, .long 5]) (rest := []) [] C (c_X5_isIn l g 1 0 5) gX5_whyRange_X5_isIn rfl rfl rfl hd_X5_isIn ⟨Nat.le_of_ble_eq_true rfl, Nat.le_of_ble_eq_true rfl⟩ rfl rfl dX5_whyRange_14 rfl (Nat.le_of_ble_eq_true rfl) ⟨Nat.le_of_ble_eq_true rfl, Nat.le_of_ble_eq_true rfl⟩) ?_
    refine j_eq (pc' := 17) (L' := [(0, .ref m0), (1, .int (nI k)), (2, .int 1), (3, .int (nI j)), (4, .int w)]) (st' := [.int (jb true)]) (ws' := [(m0, .inr (4, [.int th, .int (nI N), .ref tb, .ref md, .ref rw0, .int sz, .ref cs, .ref va, .int lk, .ref rn, .ref kp])), (tb, jaR g 10 (fun i => some (tr i))), (tr k, jaI g 253 (jrw n f))]) ?_ rfl rfl (by rw [show jIn 1 0 5 = true by decide]) rfl
    refine j_if_ne (tgt := 22) C dX5_whyRange_17 (by decide) (fun c_2 => ?_) (fun c_2 => ?_)
    · skip
      have c_2 : true = true := jb_1 c_2
      refine j_aload_n 0 C dX5_whyRange_22 rfl rfl ?_
      refine j_get (Cn := RX5) (T := TX5) (N := 11) 0 2 C dX5_whyRange_23 hin_X5_whyRange_X5 rfl rfl (by decide) (List.mem_of_getElem? (i := 2) rfl) rfl ?_
      refine j_iload_n 1 C dX5_whyRange_26 rfl rfl ?_
      refine j_aldR (x := k) 1 C dX5_whyRange_27 rfl rfl (by omega) (by decide) ?_
      refine j_eq (pc' := 28) (L' := [(0, .ref m0), (1, .int (nI k)), (2, .int 1), (3, .int (nI j)), (4, .int w)]) (st' := [.ref (tr k)]) (ws' := [(m0, .inr (4, [.int th, .int (nI N), .ref tb, .ref md, .ref rw0, .int sz, .ref cs, .ref va, .int lk, .ref rn, .ref kp])), (tb, jaR g 10 (fun i => some (tr i))), (tr k, jaI g 253 (jrw n f))]) ?_ rfl rfl rfl rfl
      refine j_astore (L' := [(0, .ref m0), (1, .int (nI k)), (2, .int 1), (3, .int (nI j)), (4, .int w), (5, .ref (tr k))]) C dX5_whyRange_28 (Nat.le_of_ble_eq_true rfl) rfl rfl ?_
      refine j_iload_n 2 C dX5_whyRange_30 rfl rfl ?_
      refine j_if_eq (tgt := 39) C dX5_whyRange_31 (by decide) (fun c_3 => ?_) (fun c_3 => ?_)
      · skip
        exact absurd c_3 (by decide)
      · skip
        refine j_iload_n 2 C dX5_whyRange_34 rfl rfl ?_
        refine j_iconst (v := 4) C dX5_whyRange_35 rfl ?_
        refine j_icmp_ne (tgt := 43) C dX5_whyRange_36 (by decide) (fun c_4 => ?_) (fun c_4 => ?_)
        · skip
          refine j_iconst (v := 0) C dX5_whyRange_43 rfl ?_
          refine j_istore (L' := [(0, .ref m0), (1, .int (nI k)), (2, .int 1), (3, .int (nI j)), (4, .int w), (5, .ref (tr k)), (6, .int 0)]) C dX5_whyRange_44 (Nat.le_of_ble_eq_true rfl) rfl rfl ?_
          refine j_iload_n 2 C dX5_whyRange_46 rfl rfl ?_
          refine j_iconst (v := 5) C dX5_whyRange_47 rfl ?_
          refine j_icmp_ne (tgt := 58) C dX5_whyRange_48 (by decide) (fun c_5 => ?_) (fun c_5 => ?_)
          · skip
            refine j_iload_n 3 C dX5_whyRange_58 rfl rfl ?_
            refine j_i2l (v := (nI j).toInt64) C dX5_whyRange_59 rfl ?_
            refine j_lconst (v := 0) C dX5_whyRange_60 rfl ?_
            refine j_aload 5 C dX5_whyRange_61 rfl ?_
            refine j_iconst (v := 0) C dX5_whyRange_63 rfl ?_
            refine j_ialdR0 2 C dX5_whyRange_64 rfl rfl ?_
            refine j_iload 6 C dX5_whyRange_65 rfl ?_
            refine j_if_eq (tgt := 74) C dX5_whyRange_67 (by decide) (fun c_6 => ?_) (fun c_6 => ?_)
            · skip
              refine j_iconst (v := 1) C dX5_whyRange_74 rfl ?_
              refine j_isub (x := nI n) (y := 1) (v := nI n - 1) C dX5_whyRange_75 rfl ?_
              refine j_i2l (v := (nI n - 1).toInt64) C dX5_whyRange_76 rfl ?_
              refine j_callRi (v := jb (jIn ((nI j).toInt64) 0 ((nI n - 1).toInt64))) (j_runS (As := [.long ((nI j).toInt64), .long 0, .long ((nI n - 1).toInt64)]) (rest := []) [] C (c_X5_isIn l g ((nI j).toInt64) 0 ((nI n - 1).toInt64)) gX5_whyRange_X5_isIn rfl rfl rfl hd_X5_isIn ⟨Nat.le_of_ble_eq_true rfl, Nat.le_of_ble_eq_true rfl⟩ rfl rfl dX5_whyRange_77 rfl (Nat.le_of_ble_eq_true rfl) ⟨Nat.le_of_ble_eq_true rfl, Nat.le_of_ble_eq_true rfl⟩) ?_
              refine j_eq (pc' := 80) (L' := [(0, .ref m0), (1, .int (nI k)), (2, .int 1), (3, .int (nI j)), (4, .int w), (5, .ref (tr k)), (6, .int 0)]) (st' := [.int (jb (jBt (nI j) 0 (nI n - 1)))]) (ws' := [(m0, .inr (4, [.int th, .int (nI N), .ref tb, .ref md, .ref rw0, .int sz, .ref cs, .ref va, .int lk, .ref rn, .ref kp])), (tb, jaR g 10 (fun i => some (tr i))), (tr k, jaI g 253 (jrw n f))]) ?_ rfl rfl (by rw [jIn_b (nI j) 0 (nI n - 1) _ _ (by decide) rfl]) rfl
              refine j_eq (pc' := 80) (L' := [(0, .ref m0), (1, .int (nI k)), (2, .int 1), (3, .int (nI j)), (4, .int w), (5, .ref (tr k)), (6, .int 0)]) (st' := [.int (jb true)]) (ws' := [(m0, .inr (4, [.int th, .int (nI N), .ref tb, .ref md, .ref rw0, .int sz, .ref cs, .ref va, .int lk, .ref rn, .ref kp])), (tb, jaR g 10 (fun i => some (tr i))), (tr k, jaI g 253 (jrw n f))]) ?_ rfl rfl (by rw [jBt_n hj (by omega)]) rfl
              refine j_if_ne (tgt := 85) C dX5_whyRange_80 (by decide) (fun c_7 => ?_) (fun c_7 => ?_)
              · skip
                have c_7 : true = true := jb_1 c_7
                refine j_iload_n 2 C dX5_whyRange_85 rfl rfl ?_
                refine j_iconst (v := 1) C dX5_whyRange_86 rfl ?_
                refine j_icmp_ne (tgt := 109) C dX5_whyRange_87 (by decide) (fun c_8 => ?_) (fun c_8 => ?_)
                · skip
                  exact absurd c_8 (by decide)
                · skip
                  refine j_iload 4 C dX5_whyRange_90 rfl ?_
                  refine j_i2l (v := w.toInt64) C dX5_whyRange_92 rfl ?_
                  refine j_lconst (v := 1) C dX5_whyRange_93 rfl ?_
                  refine j_aload 5 C dX5_whyRange_94 rfl ?_
                  refine j_iload_n 3 C dX5_whyRange_96 rfl rfl ?_
                  refine j_callRi (v := f (j * 28 + 3)) (j_runS (As := [.ref (tr k), .int (nI j)]) (rest := [.long 1, .long w.toInt64]) [2] C (c_X5_steps l g (tr k) n f j (by omega)) gX5_whyRange_X5_steps rfl rfl rfl hd_X5_steps ⟨Nat.le_of_ble_eq_true rfl, Nat.le_of_ble_eq_true rfl⟩ rfl rfl dX5_whyRange_97 rfl (Nat.le_of_ble_eq_true rfl) ⟨Nat.le_of_ble_eq_true rfl, Nat.le_of_ble_eq_true rfl⟩) ?_
                  refine j_eq (pc' := 100) (L' := [(0, .ref m0), (1, .int (nI k)), (2, .int 1), (3, .int (nI j)), (4, .int w), (5, .ref (tr k)), (6, .int 0)]) (st' := [.int (nI a), .long 1, .long w.toInt64]) (ws' := [(m0, .inr (4, [.int th, .int (nI N), .ref tb, .ref md, .ref rw0, .int sz, .ref cs, .ref va, .int lk, .ref rn, .ref kp])), (tb, jaR g 10 (fun i => some (tr i))), (tr k, jaI g 253 (jrw n f))]) ?_ rfl rfl (by rw [ha]) rfl
                  refine j_iconst (v := 1) C dX5_whyRange_100 rfl ?_
                  refine j_isub (x := nI a) (y := 1) (v := nI a - 1) C dX5_whyRange_101 rfl ?_
                  refine j_i2l (v := (nI a - 1).toInt64) C dX5_whyRange_102 rfl ?_
                  refine j_callRi (v := jb (jIn w.toInt64 1 ((nI a - 1).toInt64))) (j_runS (As := [.long w.toInt64, .long 1, .long ((nI a - 1).toInt64)]) (rest := []) [] C (c_X5_isIn l g w.toInt64 1 ((nI a - 1).toInt64)) gX5_whyRange_X5_isIn rfl rfl rfl hd_X5_isIn ⟨Nat.le_of_ble_eq_true rfl, Nat.le_of_ble_eq_true rfl⟩ rfl rfl dX5_whyRange_103 rfl (Nat.le_of_ble_eq_true rfl) ⟨Nat.le_of_ble_eq_true rfl, Nat.le_of_ble_eq_true rfl⟩) ?_
                  refine j_eq (pc' := 106) (L' := [(0, .ref m0), (1, .int (nI k)), (2, .int 1), (3, .int (nI j)), (4, .int w), (5, .ref (tr k)), (6, .int 0)]) (st' := [.int (jb (jBt w 1 (nI a - 1)))]) (ws' := [(m0, .inr (4, [.int th, .int (nI N), .ref tb, .ref md, .ref rw0, .int sz, .ref cs, .ref va, .int lk, .ref rn, .ref kp])), (tb, jaR g 10 (fun i => some (tr i))), (tr k, jaI g 253 (jrw n f))]) ?_ rfl rfl (by rw [jIn_b w 1 (nI a - 1) _ _ (by decide) rfl]) rfl
                  refine j_eq (pc' := 106) (L' := [(0, .ref m0), (1, .int (nI k)), (2, .int 1), (3, .int (nI j)), (4, .int w), (5, .ref (tr k)), (6, .int 0)]) (st' := [.int (jb false)]) (ws' := [(m0, .inr (4, [.int th, .int (nI N), .ref tb, .ref md, .ref rw0, .int sz, .ref cs, .ref va, .int lk, .ref rn, .ref kp])), (tb, jaR g 10 (fun i => some (tr i))), (tr k, jaI g 253 (jrw n f))]) ?_ rfl rfl (by rw [hw]) rfl
                  refine j_goto (tgt := 137) C dX5_whyRange_106 (by decide) ?_
                  refine j_istore (L' := [(0, .ref m0), (1, .int (nI k)), (2, .int 1), (3, .int (nI j)), (4, .int w), (5, .ref (tr k)), (6, .int 0), (7, .int (jb false))]) C dX5_whyRange_137 (Nat.le_of_ble_eq_true rfl) rfl rfl ?_
                  refine j_iload 7 C dX5_whyRange_139 rfl ?_
                  refine j_if_eq (tgt := 148) C dX5_whyRange_141 (by decide) (fun c_9 => ?_) (fun c_9 => ?_)
                  · skip
                    have c_9 : false = false := jb_0 c_9
                    refine j_iconst (v := 2) C dX5_whyRange_148 rfl ?_
                    exact j_iretR (v := 2) C hr dX5_whyRange_149 rfl
                  · skip
                    have c_9 : false = true := jb_1 c_9
                    (first | exact absurd c_9 (by decide) | exact absurd c_9 (by omega) | simp_all)
              · skip
                have c_7 : true = false := jb_0 c_7
                (first | exact absurd c_7 (by decide) | exact absurd c_7 (by omega) | simp_all)
            · skip
              exact absurd c_6 (by decide)
          · skip
            exact absurd c_5 (by decide)
        · skip
          exact absurd c_4 (by decide)
    · skip
      have c_2 : true = false := jb_0 c_2
      (first | exact absurd c_2 (by decide) | exact absurd c_2 (by omega) | simp_all)
set_option maxHeartbeats 4000000 in
set_option maxRecDepth 100000 in
theorem c_X5_whyRange_w2 (l : Launch) (g : jG) (m0 : Nat) (th : Int32) (N tb md rw0 : Nat) (sz : Int32) (cs va : Nat) (lk : Int32) (rn kp : Nat) (tr : Nat → Nat) (k n : Nat) (f : Nat → Int32) (j : Nat) (w : Int32) (hk : k < N) (hN : N ≤ 10) (hj : j < n) (hn : n ≤ 8) (hw : jBt w 1 10 = false) : jRi l yX5_whyRange wsX5_whyRange ({ frames := 3, cells := 0, slots := 0, locals := 100 }) g [.ref m0, .int (nI k), .int 2, .int (nI j), .int w] [(m0, .inr (4, [.int th, .int (nI N), .ref tb, .ref md, .ref rw0, .int sz, .ref cs, .ref va, .int lk, .ref rn, .ref kp])), (tb, jaR g 10 (fun i => some (tr i))), (tr k, jaI g 253 (jrw n f))] 2 := by
  refine j_enterR (cc := cX5_whyRange) (maxL := 8) (ret := (some .int)) (own := RX5) (L := [(0, .ref m0), (1, .int (nI k)), (2, .int 2), (3, .int (nI j)), (4, .int w)]) (by decide) rfl rfl (Nat.le_of_ble_eq_true rfl) rfl (fun p e s m args below meth c C hr => ?_)
  refine j_aload_n 0 C dX5_whyRange_0 rfl rfl ?_
  refine j_iload_n 1 C dX5_whyRange_1 rfl rfl ?_
  refine j_callRi (v := jb (jBt (nI k) 0 ((nI N) - 1))) (j_runV (ci := 0) (As := [.int (nI k)]) (rest := []) [0] C (c_X5_isProgram l g m0 th (nI N) tb md rw0 sz cs va lk rn kp (nI k)) gX5_whyRange_X5_isProgram rfl rfl rfl hd_X5_isProgram ⟨Nat.le_of_ble_eq_true rfl, Nat.le_of_ble_eq_true rfl⟩ rfl rfl rfl rfl dX5_whyRange_2 rfl (Nat.le_of_ble_eq_true rfl) ⟨Nat.le_of_ble_eq_true rfl, Nat.le_of_ble_eq_true rfl⟩) ?_
  refine j_eq (pc' := 5) (L' := [(0, .ref m0), (1, .int (nI k)), (2, .int 2), (3, .int (nI j)), (4, .int w)]) (st' := [.int (jb true)]) (ws' := [(m0, .inr (4, [.int th, .int (nI N), .ref tb, .ref md, .ref rw0, .int sz, .ref cs, .ref va, .int lk, .ref rn, .ref kp])), (tb, jaR g 10 (fun i => some (tr i))), (tr k, jaI g 253 (jrw n f))]) ?_ rfl rfl (by rw [jBt_n hk (by omega)]) rfl
  refine j_if_eq (tgt := 20) C dX5_whyRange_5 (by decide) (fun c_1 => ?_) (fun c_1 => ?_)
  · skip
    have c_1 : true = false := jb_0 c_1
    (first | exact absurd c_1 (by decide) | exact absurd c_1 (by omega) | simp_all)
  · skip
    have c_1 : true = true := jb_1 c_1
    refine j_iload_n 2 C dX5_whyRange_8 rfl rfl ?_
    refine j_i2l (v := 2) C dX5_whyRange_9 (by decide) ?_
    refine j_lconst (v := 0) C dX5_whyRange_10 rfl ?_
    refine j_ldc2 (v := 5) C dX5_whyRange_11 (List.mem_of_getElem? (i := 1) rfl) ?_
    refine j_callRi (v := jb (jIn 2 0 5)) (j_runS (As := [.long 2, .long 0, .long 5]) (rest := []) [] C (c_X5_isIn l g 2 0 5) gX5_whyRange_X5_isIn rfl rfl rfl hd_X5_isIn ⟨Nat.le_of_ble_eq_true rfl, Nat.le_of_ble_eq_true rfl⟩ rfl rfl dX5_whyRange_14 rfl (Nat.le_of_ble_eq_true rfl) ⟨Nat.le_of_ble_eq_true rfl, Nat.le_of_ble_eq_true rfl⟩) ?_
    refine j_eq (pc' := 17) (L' := [(0, .ref m0), (1, .int (nI k)), (2, .int 2), (3, .int (nI j)), (4, .int w)]) (st' := [.int (jb true)]) (ws' := [(m0, .inr (4, [.int th, .int (nI N), .ref tb, .ref md, .ref rw0, .int sz, .ref cs, .ref va, .int lk, .ref rn, .ref kp])), (tb, jaR g 10 (fun i => some (tr i))), (tr k, jaI g 253 (jrw n f))]) ?_ rfl rfl (by rw [show jIn 2 0 5 = true by decide]) rfl
    refine j_if_ne (tgt := 22) C dX5_whyRange_17 (by decide) (fun c_2 => ?_) (fun c_2 => ?_)
    · skip
      have c_2 : true = true := jb_1 c_2
      refine j_aload_n 0 C dX5_whyRange_22 rfl rfl ?_
      refine j_get (Cn := RX5) (T := TX5) (N := 11) 0 2 C dX5_whyRange_23 hin_X5_whyRange_X5 rfl rfl (by decide) (List.mem_of_getElem? (i := 2) rfl) rfl ?_
      refine j_iload_n 1 C dX5_whyRange_26 rfl rfl ?_
      refine j_aldR (x := k) 1 C dX5_whyRange_27 rfl rfl (by omega) (by decide) ?_
      refine j_eq (pc' := 28) (L' := [(0, .ref m0), (1, .int (nI k)), (2, .int 2), (3, .int (nI j)), (4, .int w)]) (st' := [.ref (tr k)]) (ws' := [(m0, .inr (4, [.int th, .int (nI N), .ref tb, .ref md, .ref rw0, .int sz, .ref cs, .ref va, .int lk, .ref rn, .ref kp])), (tb, jaR g 10 (fun i => some (tr i))), (tr k, jaI g 253 (jrw n f))]) ?_ rfl rfl rfl rfl
      refine j_astore (L' := [(0, .ref m0), (1, .int (nI k)), (2, .int 2), (3, .int (nI j)), (4, .int w), (5, .ref (tr k))]) C dX5_whyRange_28 (Nat.le_of_ble_eq_true rfl) rfl rfl ?_
      refine j_iload_n 2 C dX5_whyRange_30 rfl rfl ?_
      refine j_if_eq (tgt := 39) C dX5_whyRange_31 (by decide) (fun c_3 => ?_) (fun c_3 => ?_)
      · skip
        exact absurd c_3 (by decide)
      · skip
        refine j_iload_n 2 C dX5_whyRange_34 rfl rfl ?_
        refine j_iconst (v := 4) C dX5_whyRange_35 rfl ?_
        refine j_icmp_ne (tgt := 43) C dX5_whyRange_36 (by decide) (fun c_4 => ?_) (fun c_4 => ?_)
        · skip
          refine j_iconst (v := 0) C dX5_whyRange_43 rfl ?_
          refine j_istore (L' := [(0, .ref m0), (1, .int (nI k)), (2, .int 2), (3, .int (nI j)), (4, .int w), (5, .ref (tr k)), (6, .int 0)]) C dX5_whyRange_44 (Nat.le_of_ble_eq_true rfl) rfl rfl ?_
          refine j_iload_n 2 C dX5_whyRange_46 rfl rfl ?_
          refine j_iconst (v := 5) C dX5_whyRange_47 rfl ?_
          refine j_icmp_ne (tgt := 58) C dX5_whyRange_48 (by decide) (fun c_5 => ?_) (fun c_5 => ?_)
          · skip
            refine j_iload_n 3 C dX5_whyRange_58 rfl rfl ?_
            refine j_i2l (v := (nI j).toInt64) C dX5_whyRange_59 rfl ?_
            refine j_lconst (v := 0) C dX5_whyRange_60 rfl ?_
            refine j_aload 5 C dX5_whyRange_61 rfl ?_
            refine j_iconst (v := 0) C dX5_whyRange_63 rfl ?_
            refine j_ialdR0 2 C dX5_whyRange_64 rfl rfl ?_
            refine j_iload 6 C dX5_whyRange_65 rfl ?_
            refine j_if_eq (tgt := 74) C dX5_whyRange_67 (by decide) (fun c_6 => ?_) (fun c_6 => ?_)
            · skip
              refine j_iconst (v := 1) C dX5_whyRange_74 rfl ?_
              refine j_isub (x := nI n) (y := 1) (v := nI n - 1) C dX5_whyRange_75 rfl ?_
              refine j_i2l (v := (nI n - 1).toInt64) C dX5_whyRange_76 rfl ?_
              refine j_callRi (v := jb (jIn ((nI j).toInt64) 0 ((nI n - 1).toInt64))) (j_runS (As := [.long ((nI j).toInt64), .long 0, .long ((nI n - 1).toInt64)]) (rest := []) [] C (c_X5_isIn l g ((nI j).toInt64) 0 ((nI n - 1).toInt64)) gX5_whyRange_X5_isIn rfl rfl rfl hd_X5_isIn ⟨Nat.le_of_ble_eq_true rfl, Nat.le_of_ble_eq_true rfl⟩ rfl rfl dX5_whyRange_77 rfl (Nat.le_of_ble_eq_true rfl) ⟨Nat.le_of_ble_eq_true rfl, Nat.le_of_ble_eq_true rfl⟩) ?_
              refine j_eq (pc' := 80) (L' := [(0, .ref m0), (1, .int (nI k)), (2, .int 2), (3, .int (nI j)), (4, .int w), (5, .ref (tr k)), (6, .int 0)]) (st' := [.int (jb (jBt (nI j) 0 (nI n - 1)))]) (ws' := [(m0, .inr (4, [.int th, .int (nI N), .ref tb, .ref md, .ref rw0, .int sz, .ref cs, .ref va, .int lk, .ref rn, .ref kp])), (tb, jaR g 10 (fun i => some (tr i))), (tr k, jaI g 253 (jrw n f))]) ?_ rfl rfl (by rw [jIn_b (nI j) 0 (nI n - 1) _ _ (by decide) rfl]) rfl
              refine j_eq (pc' := 80) (L' := [(0, .ref m0), (1, .int (nI k)), (2, .int 2), (3, .int (nI j)), (4, .int w), (5, .ref (tr k)), (6, .int 0)]) (st' := [.int (jb true)]) (ws' := [(m0, .inr (4, [.int th, .int (nI N), .ref tb, .ref md, .ref rw0, .int sz, .ref cs, .ref va, .int lk, .ref rn, .ref kp])), (tb, jaR g 10 (fun i => some (tr i))), (tr k, jaI g 253 (jrw n f))]) ?_ rfl rfl (by rw [jBt_n hj (by omega)]) rfl
              refine j_if_ne (tgt := 85) C dX5_whyRange_80 (by decide) (fun c_7 => ?_) (fun c_7 => ?_)
              · skip
                have c_7 : true = true := jb_1 c_7
                refine j_iload_n 2 C dX5_whyRange_85 rfl rfl ?_
                refine j_iconst (v := 1) C dX5_whyRange_86 rfl ?_
                refine j_icmp_ne (tgt := 109) C dX5_whyRange_87 (by decide) (fun c_8 => ?_) (fun c_8 => ?_)
                · skip
                  refine j_iload_n 2 C dX5_whyRange_109 rfl rfl ?_
                  refine j_iconst (v := 2) C dX5_whyRange_110 rfl ?_
                  refine j_icmp_ne (tgt := 127) C dX5_whyRange_111 (by decide) (fun c_9 => ?_) (fun c_9 => ?_)
                  · skip
                    exact absurd c_9 (by decide)
                  · skip
                    refine j_iload 4 C dX5_whyRange_114 rfl ?_
                    refine j_i2l (v := w.toInt64) C dX5_whyRange_116 rfl ?_
                    refine j_lconst (v := 1) C dX5_whyRange_117 rfl ?_
                    refine j_ldc2 (v := 10) C dX5_whyRange_118 (List.mem_of_getElem? (i := 3) rfl) ?_
                    refine j_callRi (v := jb (jIn w.toInt64 1 10)) (j_runS (As := [.long w.toInt64, .long 1, .long 10]) (rest := []) [] C (c_X5_isIn l g w.toInt64 1 10) gX5_whyRange_X5_isIn rfl rfl rfl hd_X5_isIn ⟨Nat.le_of_ble_eq_true rfl, Nat.le_of_ble_eq_true rfl⟩ rfl rfl dX5_whyRange_121 rfl (Nat.le_of_ble_eq_true rfl) ⟨Nat.le_of_ble_eq_true rfl, Nat.le_of_ble_eq_true rfl⟩) ?_
                    refine j_eq (pc' := 124) (L' := [(0, .ref m0), (1, .int (nI k)), (2, .int 2), (3, .int (nI j)), (4, .int w), (5, .ref (tr k)), (6, .int 0)]) (st' := [.int (jb (jBt w 1 10))]) (ws' := [(m0, .inr (4, [.int th, .int (nI N), .ref tb, .ref md, .ref rw0, .int sz, .ref cs, .ref va, .int lk, .ref rn, .ref kp])), (tb, jaR g 10 (fun i => some (tr i))), (tr k, jaI g 253 (jrw n f))]) ?_ rfl rfl (by rw [jIn_b w 1 10 _ _ (by decide) (by decide)]) rfl
                    refine j_eq (pc' := 124) (L' := [(0, .ref m0), (1, .int (nI k)), (2, .int 2), (3, .int (nI j)), (4, .int w), (5, .ref (tr k)), (6, .int 0)]) (st' := [.int (jb false)]) (ws' := [(m0, .inr (4, [.int th, .int (nI N), .ref tb, .ref md, .ref rw0, .int sz, .ref cs, .ref va, .int lk, .ref rn, .ref kp])), (tb, jaR g 10 (fun i => some (tr i))), (tr k, jaI g 253 (jrw n f))]) ?_ rfl rfl (by rw [hw]) rfl
                    refine j_goto (tgt := 137) C dX5_whyRange_124 (by decide) ?_
                    refine j_istore (L' := [(0, .ref m0), (1, .int (nI k)), (2, .int 2), (3, .int (nI j)), (4, .int w), (5, .ref (tr k)), (6, .int 0), (7, .int (jb false))]) C dX5_whyRange_137 (Nat.le_of_ble_eq_true rfl) rfl rfl ?_
                    refine j_iload 7 C dX5_whyRange_139 rfl ?_
                    refine j_if_eq (tgt := 148) C dX5_whyRange_141 (by decide) (fun c_10 => ?_) (fun c_10 => ?_)
                    · skip
                      have c_10 : false = false := jb_0 c_10
                      refine j_iconst (v := 2) C dX5_whyRange_148 rfl ?_
                      exact j_iretR (v := 2) C hr dX5_whyRange_149 rfl
                    · skip
                      have c_10 : false = true := jb_1 c_10
                      (first | exact absurd c_10 (by decide) | exact absurd c_10 (by omega) | simp_all)
                · skip
                  exact absurd c_8 (by decide)
              · skip
                have c_7 : true = false := jb_0 c_7
                (first | exact absurd c_7 (by decide) | exact absurd c_7 (by omega) | simp_all)
            · skip
              exact absurd c_6 (by decide)
          · skip
            exact absurd c_5 (by decide)
        · skip
          exact absurd c_4 (by decide)
    · skip
      have c_2 : true = false := jb_0 c_2
      (first | exact absurd c_2 (by decide) | exact absurd c_2 (by omega) | simp_all)
set_option maxHeartbeats 4000000 in
set_option maxRecDepth 100000 in
theorem c_X5_whyRange_w3 (l : Launch) (g : jG) (m0 : Nat) (th : Int32) (N tb md rw0 : Nat) (sz : Int32) (cs va : Nat) (lk : Int32) (rn kp : Nat) (tr : Nat → Nat) (k n : Nat) (f : Nat → Int32) (j : Nat) (w : Int32) (hk : k < N) (hN : N ≤ 10) (hj : j < n) (hn : n ≤ 8) (hw : ¬ w = 0) : jRi l yX5_whyRange wsX5_whyRange ({ frames := 3, cells := 0, slots := 0, locals := 100 }) g [.ref m0, .int (nI k), .int 3, .int (nI j), .int w] [(m0, .inr (4, [.int th, .int (nI N), .ref tb, .ref md, .ref rw0, .int sz, .ref cs, .ref va, .int lk, .ref rn, .ref kp])), (tb, jaR g 10 (fun i => some (tr i))), (tr k, jaI g 253 (jrw n f))] 2 := by
  refine j_enterR (cc := cX5_whyRange) (maxL := 8) (ret := (some .int)) (own := RX5) (L := [(0, .ref m0), (1, .int (nI k)), (2, .int 3), (3, .int (nI j)), (4, .int w)]) (by decide) rfl rfl (Nat.le_of_ble_eq_true rfl) rfl (fun p e s m args below meth c C hr => ?_)
  refine j_aload_n 0 C dX5_whyRange_0 rfl rfl ?_
  refine j_iload_n 1 C dX5_whyRange_1 rfl rfl ?_
  refine j_callRi (v := jb (jBt (nI k) 0 ((nI N) - 1))) (j_runV (ci := 0) (As := [.int (nI k)]) (rest := []) [0] C (c_X5_isProgram l g m0 th (nI N) tb md rw0 sz cs va lk rn kp (nI k)) gX5_whyRange_X5_isProgram rfl rfl rfl hd_X5_isProgram ⟨Nat.le_of_ble_eq_true rfl, Nat.le_of_ble_eq_true rfl⟩ rfl rfl rfl rfl dX5_whyRange_2 rfl (Nat.le_of_ble_eq_true rfl) ⟨Nat.le_of_ble_eq_true rfl, Nat.le_of_ble_eq_true rfl⟩) ?_
  refine j_eq (pc' := 5) (L' := [(0, .ref m0), (1, .int (nI k)), (2, .int 3), (3, .int (nI j)), (4, .int w)]) (st' := [.int (jb true)]) (ws' := [(m0, .inr (4, [.int th, .int (nI N), .ref tb, .ref md, .ref rw0, .int sz, .ref cs, .ref va, .int lk, .ref rn, .ref kp])), (tb, jaR g 10 (fun i => some (tr i))), (tr k, jaI g 253 (jrw n f))]) ?_ rfl rfl (by rw [jBt_n hk (by omega)]) rfl
  refine j_if_eq (tgt := 20) C dX5_whyRange_5 (by decide) (fun c_1 => ?_) (fun c_1 => ?_)
  · skip
    have c_1 : true = false := jb_0 c_1
    (first | exact absurd c_1 (by decide) | exact absurd c_1 (by omega) | simp_all)
  · skip
    have c_1 : true = true := jb_1 c_1
    refine j_iload_n 2 C dX5_whyRange_8 rfl rfl ?_
    refine j_i2l (v := 3) C dX5_whyRange_9 (by decide) ?_
    refine j_lconst (v := 0) C dX5_whyRange_10 rfl ?_
    refine j_ldc2 (v := 5) C dX5_whyRange_11 (List.mem_of_getElem? (i := 1) rfl) ?_
    refine j_callRi (v := jb (jIn 3 0 5)) (j_runS (As := [.long 3, .long 0, .long 5]) (rest := []) [] C (c_X5_isIn l g 3 0 5) gX5_whyRange_X5_isIn rfl rfl rfl hd_X5_isIn ⟨Nat.le_of_ble_eq_true rfl, Nat.le_of_ble_eq_true rfl⟩ rfl rfl dX5_whyRange_14 rfl (Nat.le_of_ble_eq_true rfl) ⟨Nat.le_of_ble_eq_true rfl, Nat.le_of_ble_eq_true rfl⟩) ?_
    refine j_eq (pc' := 17) (L' := [(0, .ref m0), (1, .int (nI k)), (2, .int 3), (3, .int (nI j)), (4, .int w)]) (st' := [.int (jb true)]) (ws' := [(m0, .inr (4, [.int th, .int (nI N), .ref tb, .ref md, .ref rw0, .int sz, .ref cs, .ref va, .int lk, .ref rn, .ref kp])), (tb, jaR g 10 (fun i => some (tr i))), (tr k, jaI g 253 (jrw n f))]) ?_ rfl rfl (by rw [show jIn 3 0 5 = true by decide]) rfl
    refine j_if_ne (tgt := 22) C dX5_whyRange_17 (by decide) (fun c_2 => ?_) (fun c_2 => ?_)
    · skip
      have c_2 : true = true := jb_1 c_2
      refine j_aload_n 0 C dX5_whyRange_22 rfl rfl ?_
      refine j_get (Cn := RX5) (T := TX5) (N := 11) 0 2 C dX5_whyRange_23 hin_X5_whyRange_X5 rfl rfl (by decide) (List.mem_of_getElem? (i := 2) rfl) rfl ?_
      refine j_iload_n 1 C dX5_whyRange_26 rfl rfl ?_
      refine j_aldR (x := k) 1 C dX5_whyRange_27 rfl rfl (by omega) (by decide) ?_
      refine j_eq (pc' := 28) (L' := [(0, .ref m0), (1, .int (nI k)), (2, .int 3), (3, .int (nI j)), (4, .int w)]) (st' := [.ref (tr k)]) (ws' := [(m0, .inr (4, [.int th, .int (nI N), .ref tb, .ref md, .ref rw0, .int sz, .ref cs, .ref va, .int lk, .ref rn, .ref kp])), (tb, jaR g 10 (fun i => some (tr i))), (tr k, jaI g 253 (jrw n f))]) ?_ rfl rfl rfl rfl
      refine j_astore (L' := [(0, .ref m0), (1, .int (nI k)), (2, .int 3), (3, .int (nI j)), (4, .int w), (5, .ref (tr k))]) C dX5_whyRange_28 (Nat.le_of_ble_eq_true rfl) rfl rfl ?_
      refine j_iload_n 2 C dX5_whyRange_30 rfl rfl ?_
      refine j_if_eq (tgt := 39) C dX5_whyRange_31 (by decide) (fun c_3 => ?_) (fun c_3 => ?_)
      · skip
        exact absurd c_3 (by decide)
      · skip
        refine j_iload_n 2 C dX5_whyRange_34 rfl rfl ?_
        refine j_iconst (v := 4) C dX5_whyRange_35 rfl ?_
        refine j_icmp_ne (tgt := 43) C dX5_whyRange_36 (by decide) (fun c_4 => ?_) (fun c_4 => ?_)
        · skip
          refine j_iconst (v := 0) C dX5_whyRange_43 rfl ?_
          refine j_istore (L' := [(0, .ref m0), (1, .int (nI k)), (2, .int 3), (3, .int (nI j)), (4, .int w), (5, .ref (tr k)), (6, .int 0)]) C dX5_whyRange_44 (Nat.le_of_ble_eq_true rfl) rfl rfl ?_
          refine j_iload_n 2 C dX5_whyRange_46 rfl rfl ?_
          refine j_iconst (v := 5) C dX5_whyRange_47 rfl ?_
          refine j_icmp_ne (tgt := 58) C dX5_whyRange_48 (by decide) (fun c_5 => ?_) (fun c_5 => ?_)
          · skip
            refine j_iload_n 3 C dX5_whyRange_58 rfl rfl ?_
            refine j_i2l (v := (nI j).toInt64) C dX5_whyRange_59 rfl ?_
            refine j_lconst (v := 0) C dX5_whyRange_60 rfl ?_
            refine j_aload 5 C dX5_whyRange_61 rfl ?_
            refine j_iconst (v := 0) C dX5_whyRange_63 rfl ?_
            refine j_ialdR0 2 C dX5_whyRange_64 rfl rfl ?_
            refine j_iload 6 C dX5_whyRange_65 rfl ?_
            refine j_if_eq (tgt := 74) C dX5_whyRange_67 (by decide) (fun c_6 => ?_) (fun c_6 => ?_)
            · skip
              refine j_iconst (v := 1) C dX5_whyRange_74 rfl ?_
              refine j_isub (x := nI n) (y := 1) (v := nI n - 1) C dX5_whyRange_75 rfl ?_
              refine j_i2l (v := (nI n - 1).toInt64) C dX5_whyRange_76 rfl ?_
              refine j_callRi (v := jb (jIn ((nI j).toInt64) 0 ((nI n - 1).toInt64))) (j_runS (As := [.long ((nI j).toInt64), .long 0, .long ((nI n - 1).toInt64)]) (rest := []) [] C (c_X5_isIn l g ((nI j).toInt64) 0 ((nI n - 1).toInt64)) gX5_whyRange_X5_isIn rfl rfl rfl hd_X5_isIn ⟨Nat.le_of_ble_eq_true rfl, Nat.le_of_ble_eq_true rfl⟩ rfl rfl dX5_whyRange_77 rfl (Nat.le_of_ble_eq_true rfl) ⟨Nat.le_of_ble_eq_true rfl, Nat.le_of_ble_eq_true rfl⟩) ?_
              refine j_eq (pc' := 80) (L' := [(0, .ref m0), (1, .int (nI k)), (2, .int 3), (3, .int (nI j)), (4, .int w), (5, .ref (tr k)), (6, .int 0)]) (st' := [.int (jb (jBt (nI j) 0 (nI n - 1)))]) (ws' := [(m0, .inr (4, [.int th, .int (nI N), .ref tb, .ref md, .ref rw0, .int sz, .ref cs, .ref va, .int lk, .ref rn, .ref kp])), (tb, jaR g 10 (fun i => some (tr i))), (tr k, jaI g 253 (jrw n f))]) ?_ rfl rfl (by rw [jIn_b (nI j) 0 (nI n - 1) _ _ (by decide) rfl]) rfl
              refine j_eq (pc' := 80) (L' := [(0, .ref m0), (1, .int (nI k)), (2, .int 3), (3, .int (nI j)), (4, .int w), (5, .ref (tr k)), (6, .int 0)]) (st' := [.int (jb true)]) (ws' := [(m0, .inr (4, [.int th, .int (nI N), .ref tb, .ref md, .ref rw0, .int sz, .ref cs, .ref va, .int lk, .ref rn, .ref kp])), (tb, jaR g 10 (fun i => some (tr i))), (tr k, jaI g 253 (jrw n f))]) ?_ rfl rfl (by rw [jBt_n hj (by omega)]) rfl
              refine j_if_ne (tgt := 85) C dX5_whyRange_80 (by decide) (fun c_7 => ?_) (fun c_7 => ?_)
              · skip
                have c_7 : true = true := jb_1 c_7
                refine j_iload_n 2 C dX5_whyRange_85 rfl rfl ?_
                refine j_iconst (v := 1) C dX5_whyRange_86 rfl ?_
                refine j_icmp_ne (tgt := 109) C dX5_whyRange_87 (by decide) (fun c_8 => ?_) (fun c_8 => ?_)
                · skip
                  refine j_iload_n 2 C dX5_whyRange_109 rfl rfl ?_
                  refine j_iconst (v := 2) C dX5_whyRange_110 rfl ?_
                  refine j_icmp_ne (tgt := 127) C dX5_whyRange_111 (by decide) (fun c_9 => ?_) (fun c_9 => ?_)
                  · skip
                    refine j_iload 4 C dX5_whyRange_127 rfl ?_
                    refine j_if_ne (tgt := 136) C dX5_whyRange_129 (by decide) (fun c_10 => ?_) (fun c_10 => ?_)
                    · skip
                      refine j_iconst (v := 0) C dX5_whyRange_136 rfl ?_
                      refine j_istore (L' := [(0, .ref m0), (1, .int (nI k)), (2, .int 3), (3, .int (nI j)), (4, .int w), (5, .ref (tr k)), (6, .int 0), (7, .int 0)]) C dX5_whyRange_137 (Nat.le_of_ble_eq_true rfl) rfl rfl ?_
                      refine j_iload 7 C dX5_whyRange_139 rfl ?_
                      refine j_if_eq (tgt := 148) C dX5_whyRange_141 (by decide) (fun c_11 => ?_) (fun c_11 => ?_)
                      · skip
                        refine j_iconst (v := 2) C dX5_whyRange_148 rfl ?_
                        exact j_iretR (v := 2) C hr dX5_whyRange_149 rfl
                      · skip
                        exact absurd c_11 (by decide)
                    · skip
                      (first | exact absurd c_10 (by decide) | exact absurd c_10 (by omega) | simp_all)
                  · skip
                    exact absurd c_9 (by decide)
                · skip
                  exact absurd c_8 (by decide)
              · skip
                have c_7 : true = false := jb_0 c_7
                (first | exact absurd c_7 (by decide) | exact absurd c_7 (by omega) | simp_all)
            · skip
              exact absurd c_6 (by decide)
          · skip
            exact absurd c_5 (by decide)
        · skip
          exact absurd c_4 (by decide)
    · skip
      have c_2 : true = false := jb_0 c_2
      (first | exact absurd c_2 (by decide) | exact absurd c_2 (by omega) | simp_all)
set_option maxHeartbeats 4000000 in
set_option maxRecDepth 100000 in
theorem c_X5_whyRange_w4 (l : Launch) (g : jG) (m0 : Nat) (th : Int32) (N tb md rw0 : Nat) (sz : Int32) (cs va : Nat) (lk : Int32) (rn kp : Nat) (tr : Nat → Nat) (k n : Nat) (f : Nat → Int32) (j : Nat) (w : Int32) (hk : k < N) (hN : N ≤ 10) (hj : j + 1 < n) (hn : n ≤ 8) (hw : ¬ w = 0) : jRi l yX5_whyRange wsX5_whyRange ({ frames := 3, cells := 0, slots := 0, locals := 100 }) g [.ref m0, .int (nI k), .int 4, .int (nI j), .int w] [(m0, .inr (4, [.int th, .int (nI N), .ref tb, .ref md, .ref rw0, .int sz, .ref cs, .ref va, .int lk, .ref rn, .ref kp])), (tb, jaR g 10 (fun i => some (tr i))), (tr k, jaI g 253 (jrw n f))] 2 := by
  refine j_enterR (cc := cX5_whyRange) (maxL := 8) (ret := (some .int)) (own := RX5) (L := [(0, .ref m0), (1, .int (nI k)), (2, .int 4), (3, .int (nI j)), (4, .int w)]) (by decide) rfl rfl (Nat.le_of_ble_eq_true rfl) rfl (fun p e s m args below meth c C hr => ?_)
  refine j_aload_n 0 C dX5_whyRange_0 rfl rfl ?_
  refine j_iload_n 1 C dX5_whyRange_1 rfl rfl ?_
  refine j_callRi (v := jb (jBt (nI k) 0 ((nI N) - 1))) (j_runV (ci := 0) (As := [.int (nI k)]) (rest := []) [0] C (c_X5_isProgram l g m0 th (nI N) tb md rw0 sz cs va lk rn kp (nI k)) gX5_whyRange_X5_isProgram rfl rfl rfl hd_X5_isProgram ⟨Nat.le_of_ble_eq_true rfl, Nat.le_of_ble_eq_true rfl⟩ rfl rfl rfl rfl dX5_whyRange_2 rfl (Nat.le_of_ble_eq_true rfl) ⟨Nat.le_of_ble_eq_true rfl, Nat.le_of_ble_eq_true rfl⟩) ?_
  refine j_eq (pc' := 5) (L' := [(0, .ref m0), (1, .int (nI k)), (2, .int 4), (3, .int (nI j)), (4, .int w)]) (st' := [.int (jb true)]) (ws' := [(m0, .inr (4, [.int th, .int (nI N), .ref tb, .ref md, .ref rw0, .int sz, .ref cs, .ref va, .int lk, .ref rn, .ref kp])), (tb, jaR g 10 (fun i => some (tr i))), (tr k, jaI g 253 (jrw n f))]) ?_ rfl rfl (by rw [jBt_n hk (by omega)]) rfl
  refine j_if_eq (tgt := 20) C dX5_whyRange_5 (by decide) (fun c_1 => ?_) (fun c_1 => ?_)
  · skip
    have c_1 : true = false := jb_0 c_1
    (first | exact absurd c_1 (by decide) | exact absurd c_1 (by omega) | simp_all)
  · skip
    have c_1 : true = true := jb_1 c_1
    refine j_iload_n 2 C dX5_whyRange_8 rfl rfl ?_
    refine j_i2l (v := 4) C dX5_whyRange_9 (by decide) ?_
    refine j_lconst (v := 0) C dX5_whyRange_10 rfl ?_
    refine j_ldc2 (v := 5) C dX5_whyRange_11 (List.mem_of_getElem? (i := 1) rfl) ?_
    refine j_callRi (v := jb (jIn 4 0 5)) (j_runS (As := [.long 4, .long 0, .long 5]) (rest := []) [] C (c_X5_isIn l g 4 0 5) gX5_whyRange_X5_isIn rfl rfl rfl hd_X5_isIn ⟨Nat.le_of_ble_eq_true rfl, Nat.le_of_ble_eq_true rfl⟩ rfl rfl dX5_whyRange_14 rfl (Nat.le_of_ble_eq_true rfl) ⟨Nat.le_of_ble_eq_true rfl, Nat.le_of_ble_eq_true rfl⟩) ?_
    refine j_eq (pc' := 17) (L' := [(0, .ref m0), (1, .int (nI k)), (2, .int 4), (3, .int (nI j)), (4, .int w)]) (st' := [.int (jb true)]) (ws' := [(m0, .inr (4, [.int th, .int (nI N), .ref tb, .ref md, .ref rw0, .int sz, .ref cs, .ref va, .int lk, .ref rn, .ref kp])), (tb, jaR g 10 (fun i => some (tr i))), (tr k, jaI g 253 (jrw n f))]) ?_ rfl rfl (by rw [show jIn 4 0 5 = true by decide]) rfl
    refine j_if_ne (tgt := 22) C dX5_whyRange_17 (by decide) (fun c_2 => ?_) (fun c_2 => ?_)
    · skip
      have c_2 : true = true := jb_1 c_2
      refine j_aload_n 0 C dX5_whyRange_22 rfl rfl ?_
      refine j_get (Cn := RX5) (T := TX5) (N := 11) 0 2 C dX5_whyRange_23 hin_X5_whyRange_X5 rfl rfl (by decide) (List.mem_of_getElem? (i := 2) rfl) rfl ?_
      refine j_iload_n 1 C dX5_whyRange_26 rfl rfl ?_
      refine j_aldR (x := k) 1 C dX5_whyRange_27 rfl rfl (by omega) (by decide) ?_
      refine j_eq (pc' := 28) (L' := [(0, .ref m0), (1, .int (nI k)), (2, .int 4), (3, .int (nI j)), (4, .int w)]) (st' := [.ref (tr k)]) (ws' := [(m0, .inr (4, [.int th, .int (nI N), .ref tb, .ref md, .ref rw0, .int sz, .ref cs, .ref va, .int lk, .ref rn, .ref kp])), (tb, jaR g 10 (fun i => some (tr i))), (tr k, jaI g 253 (jrw n f))]) ?_ rfl rfl rfl rfl
      refine j_astore (L' := [(0, .ref m0), (1, .int (nI k)), (2, .int 4), (3, .int (nI j)), (4, .int w), (5, .ref (tr k))]) C dX5_whyRange_28 (Nat.le_of_ble_eq_true rfl) rfl rfl ?_
      refine j_iload_n 2 C dX5_whyRange_30 rfl rfl ?_
      refine j_if_eq (tgt := 39) C dX5_whyRange_31 (by decide) (fun c_3 => ?_) (fun c_3 => ?_)
      · skip
        exact absurd c_3 (by decide)
      · skip
        refine j_iload_n 2 C dX5_whyRange_34 rfl rfl ?_
        refine j_iconst (v := 4) C dX5_whyRange_35 rfl ?_
        refine j_icmp_ne (tgt := 43) C dX5_whyRange_36 (by decide) (fun c_4 => ?_) (fun c_4 => ?_)
        · skip
          exact absurd c_4 (by decide)
        · skip
          refine j_iconst (v := 1) C dX5_whyRange_39 rfl ?_
          refine j_goto (tgt := 44) C dX5_whyRange_40 (by decide) ?_
          refine j_istore (L' := [(0, .ref m0), (1, .int (nI k)), (2, .int 4), (3, .int (nI j)), (4, .int w), (5, .ref (tr k)), (6, .int 1)]) C dX5_whyRange_44 (Nat.le_of_ble_eq_true rfl) rfl rfl ?_
          refine j_iload_n 2 C dX5_whyRange_46 rfl rfl ?_
          refine j_iconst (v := 5) C dX5_whyRange_47 rfl ?_
          refine j_icmp_ne (tgt := 58) C dX5_whyRange_48 (by decide) (fun c_5 => ?_) (fun c_5 => ?_)
          · skip
            refine j_iload_n 3 C dX5_whyRange_58 rfl rfl ?_
            refine j_i2l (v := (nI j).toInt64) C dX5_whyRange_59 rfl ?_
            refine j_lconst (v := 0) C dX5_whyRange_60 rfl ?_
            refine j_aload 5 C dX5_whyRange_61 rfl ?_
            refine j_iconst (v := 0) C dX5_whyRange_63 rfl ?_
            refine j_ialdR0 2 C dX5_whyRange_64 rfl rfl ?_
            refine j_iload 6 C dX5_whyRange_65 rfl ?_
            refine j_if_eq (tgt := 74) C dX5_whyRange_67 (by decide) (fun c_6 => ?_) (fun c_6 => ?_)
            · skip
              exact absurd c_6 (by decide)
            · skip
              refine j_iconst (v := 2) C dX5_whyRange_70 rfl ?_
              refine j_goto (tgt := 75) C dX5_whyRange_71 (by decide) ?_
              refine j_isub (x := nI n) (y := 2) (v := nI n - 2) C dX5_whyRange_75 rfl ?_
              refine j_i2l (v := (nI n - 2).toInt64) C dX5_whyRange_76 rfl ?_
              refine j_callRi (v := jb (jIn ((nI j).toInt64) 0 ((nI n - 2).toInt64))) (j_runS (As := [.long ((nI j).toInt64), .long 0, .long ((nI n - 2).toInt64)]) (rest := []) [] C (c_X5_isIn l g ((nI j).toInt64) 0 ((nI n - 2).toInt64)) gX5_whyRange_X5_isIn rfl rfl rfl hd_X5_isIn ⟨Nat.le_of_ble_eq_true rfl, Nat.le_of_ble_eq_true rfl⟩ rfl rfl dX5_whyRange_77 rfl (Nat.le_of_ble_eq_true rfl) ⟨Nat.le_of_ble_eq_true rfl, Nat.le_of_ble_eq_true rfl⟩) ?_
              refine j_eq (pc' := 80) (L' := [(0, .ref m0), (1, .int (nI k)), (2, .int 4), (3, .int (nI j)), (4, .int w), (5, .ref (tr k)), (6, .int 1)]) (st' := [.int (jb (jBt (nI j) 0 (nI n - 2)))]) (ws' := [(m0, .inr (4, [.int th, .int (nI N), .ref tb, .ref md, .ref rw0, .int sz, .ref cs, .ref va, .int lk, .ref rn, .ref kp])), (tb, jaR g 10 (fun i => some (tr i))), (tr k, jaI g 253 (jrw n f))]) ?_ rfl rfl (by rw [jIn_b (nI j) 0 (nI n - 2) _ _ (by decide) rfl]) rfl
              refine j_eq (pc' := 80) (L' := [(0, .ref m0), (1, .int (nI k)), (2, .int 4), (3, .int (nI j)), (4, .int w), (5, .ref (tr k)), (6, .int 1)]) (st' := [.int (jb true)]) (ws' := [(m0, .inr (4, [.int th, .int (nI N), .ref tb, .ref md, .ref rw0, .int sz, .ref cs, .ref va, .int lk, .ref rn, .ref kp])), (tb, jaR g 10 (fun i => some (tr i))), (tr k, jaI g 253 (jrw n f))]) ?_ rfl rfl (by rw [jBt_n2 hj (by omega)]) rfl
              refine j_if_ne (tgt := 85) C dX5_whyRange_80 (by decide) (fun c_7 => ?_) (fun c_7 => ?_)
              · skip
                have c_7 : true = true := jb_1 c_7
                refine j_iload_n 2 C dX5_whyRange_85 rfl rfl ?_
                refine j_iconst (v := 1) C dX5_whyRange_86 rfl ?_
                refine j_icmp_ne (tgt := 109) C dX5_whyRange_87 (by decide) (fun c_8 => ?_) (fun c_8 => ?_)
                · skip
                  refine j_iload_n 2 C dX5_whyRange_109 rfl rfl ?_
                  refine j_iconst (v := 2) C dX5_whyRange_110 rfl ?_
                  refine j_icmp_ne (tgt := 127) C dX5_whyRange_111 (by decide) (fun c_9 => ?_) (fun c_9 => ?_)
                  · skip
                    refine j_iload 4 C dX5_whyRange_127 rfl ?_
                    refine j_if_ne (tgt := 136) C dX5_whyRange_129 (by decide) (fun c_10 => ?_) (fun c_10 => ?_)
                    · skip
                      refine j_iconst (v := 0) C dX5_whyRange_136 rfl ?_
                      refine j_istore (L' := [(0, .ref m0), (1, .int (nI k)), (2, .int 4), (3, .int (nI j)), (4, .int w), (5, .ref (tr k)), (6, .int 1), (7, .int 0)]) C dX5_whyRange_137 (Nat.le_of_ble_eq_true rfl) rfl rfl ?_
                      refine j_iload 7 C dX5_whyRange_139 rfl ?_
                      refine j_if_eq (tgt := 148) C dX5_whyRange_141 (by decide) (fun c_11 => ?_) (fun c_11 => ?_)
                      · skip
                        refine j_iconst (v := 2) C dX5_whyRange_148 rfl ?_
                        exact j_iretR (v := 2) C hr dX5_whyRange_149 rfl
                      · skip
                        exact absurd c_11 (by decide)
                    · skip
                      (first | exact absurd c_10 (by decide) | exact absurd c_10 (by omega) | simp_all)
                  · skip
                    exact absurd c_9 (by decide)
                · skip
                  exact absurd c_8 (by decide)
              · skip
                have c_7 : true = false := jb_0 c_7
                (first | exact absurd c_7 (by decide) | exact absurd c_7 (by omega) | simp_all)
          · skip
            exact absurd c_5 (by decide)
    · skip
      have c_2 : true = false := jb_0 c_2
      (first | exact absurd c_2 (by decide) | exact absurd c_2 (by omega) | simp_all)
set_option maxHeartbeats 4000000 in
set_option maxRecDepth 100000 in
theorem c_X5_whyRange_w5 (l : Launch) (g : jG) (m0 : Nat) (th : Int32) (N tb md rw0 : Nat) (sz : Int32) (cs va : Nat) (lk : Int32) (rn kp : Nat) (tr : Nat → Nat) (k n : Nat) (f : Nat → Int32) (w : Int32) (hk : k < N) (hN : N ≤ 10) (hw : ¬ w = 0) : jRi l yX5_whyRange wsX5_whyRange ({ frames := 3, cells := 0, slots := 0, locals := 100 }) g [.ref m0, .int (nI k), .int 5, .int 0, .int w] [(m0, .inr (4, [.int th, .int (nI N), .ref tb, .ref md, .ref rw0, .int sz, .ref cs, .ref va, .int lk, .ref rn, .ref kp])), (tb, jaR g 10 (fun i => some (tr i))), (tr k, jaI g 253 (jrw n f))] 2 := by
  refine j_enterR (cc := cX5_whyRange) (maxL := 8) (ret := (some .int)) (own := RX5) (L := [(0, .ref m0), (1, .int (nI k)), (2, .int 5), (3, .int 0), (4, .int w)]) (by decide) rfl rfl (Nat.le_of_ble_eq_true rfl) rfl (fun p e s m args below meth c C hr => ?_)
  refine j_aload_n 0 C dX5_whyRange_0 rfl rfl ?_
  refine j_iload_n 1 C dX5_whyRange_1 rfl rfl ?_
  refine j_callRi (v := jb (jBt (nI k) 0 ((nI N) - 1))) (j_runV (ci := 0) (As := [.int (nI k)]) (rest := []) [0] C (c_X5_isProgram l g m0 th (nI N) tb md rw0 sz cs va lk rn kp (nI k)) gX5_whyRange_X5_isProgram rfl rfl rfl hd_X5_isProgram ⟨Nat.le_of_ble_eq_true rfl, Nat.le_of_ble_eq_true rfl⟩ rfl rfl rfl rfl dX5_whyRange_2 rfl (Nat.le_of_ble_eq_true rfl) ⟨Nat.le_of_ble_eq_true rfl, Nat.le_of_ble_eq_true rfl⟩) ?_
  refine j_eq (pc' := 5) (L' := [(0, .ref m0), (1, .int (nI k)), (2, .int 5), (3, .int 0), (4, .int w)]) (st' := [.int (jb true)]) (ws' := [(m0, .inr (4, [.int th, .int (nI N), .ref tb, .ref md, .ref rw0, .int sz, .ref cs, .ref va, .int lk, .ref rn, .ref kp])), (tb, jaR g 10 (fun i => some (tr i))), (tr k, jaI g 253 (jrw n f))]) ?_ rfl rfl (by rw [jBt_n hk (by omega)]) rfl
  refine j_if_eq (tgt := 20) C dX5_whyRange_5 (by decide) (fun c_1 => ?_) (fun c_1 => ?_)
  · skip
    have c_1 : true = false := jb_0 c_1
    (first | exact absurd c_1 (by decide) | exact absurd c_1 (by omega) | simp_all)
  · skip
    have c_1 : true = true := jb_1 c_1
    refine j_iload_n 2 C dX5_whyRange_8 rfl rfl ?_
    refine j_i2l (v := 5) C dX5_whyRange_9 (by decide) ?_
    refine j_lconst (v := 0) C dX5_whyRange_10 rfl ?_
    refine j_ldc2 (v := 5) C dX5_whyRange_11 (List.mem_of_getElem? (i := 1) rfl) ?_
    refine j_callRi (v := jb (jIn 5 0 5)) (j_runS (As := [.long 5, .long 0, .long 5]) (rest := []) [] C (c_X5_isIn l g 5 0 5) gX5_whyRange_X5_isIn rfl rfl rfl hd_X5_isIn ⟨Nat.le_of_ble_eq_true rfl, Nat.le_of_ble_eq_true rfl⟩ rfl rfl dX5_whyRange_14 rfl (Nat.le_of_ble_eq_true rfl) ⟨Nat.le_of_ble_eq_true rfl, Nat.le_of_ble_eq_true rfl⟩) ?_
    refine j_eq (pc' := 17) (L' := [(0, .ref m0), (1, .int (nI k)), (2, .int 5), (3, .int 0), (4, .int w)]) (st' := [.int (jb true)]) (ws' := [(m0, .inr (4, [.int th, .int (nI N), .ref tb, .ref md, .ref rw0, .int sz, .ref cs, .ref va, .int lk, .ref rn, .ref kp])), (tb, jaR g 10 (fun i => some (tr i))), (tr k, jaI g 253 (jrw n f))]) ?_ rfl rfl (by rw [show jIn 5 0 5 = true by decide]) rfl
    refine j_if_ne (tgt := 22) C dX5_whyRange_17 (by decide) (fun c_2 => ?_) (fun c_2 => ?_)
    · skip
      have c_2 : true = true := jb_1 c_2
      refine j_aload_n 0 C dX5_whyRange_22 rfl rfl ?_
      refine j_get (Cn := RX5) (T := TX5) (N := 11) 0 2 C dX5_whyRange_23 hin_X5_whyRange_X5 rfl rfl (by decide) (List.mem_of_getElem? (i := 2) rfl) rfl ?_
      refine j_iload_n 1 C dX5_whyRange_26 rfl rfl ?_
      refine j_aldR (x := k) 1 C dX5_whyRange_27 rfl rfl (by omega) (by decide) ?_
      refine j_eq (pc' := 28) (L' := [(0, .ref m0), (1, .int (nI k)), (2, .int 5), (3, .int 0), (4, .int w)]) (st' := [.ref (tr k)]) (ws' := [(m0, .inr (4, [.int th, .int (nI N), .ref tb, .ref md, .ref rw0, .int sz, .ref cs, .ref va, .int lk, .ref rn, .ref kp])), (tb, jaR g 10 (fun i => some (tr i))), (tr k, jaI g 253 (jrw n f))]) ?_ rfl rfl rfl rfl
      refine j_astore (L' := [(0, .ref m0), (1, .int (nI k)), (2, .int 5), (3, .int 0), (4, .int w), (5, .ref (tr k))]) C dX5_whyRange_28 (Nat.le_of_ble_eq_true rfl) rfl rfl ?_
      refine j_iload_n 2 C dX5_whyRange_30 rfl rfl ?_
      refine j_if_eq (tgt := 39) C dX5_whyRange_31 (by decide) (fun c_3 => ?_) (fun c_3 => ?_)
      · skip
        exact absurd c_3 (by decide)
      · skip
        refine j_iload_n 2 C dX5_whyRange_34 rfl rfl ?_
        refine j_iconst (v := 4) C dX5_whyRange_35 rfl ?_
        refine j_icmp_ne (tgt := 43) C dX5_whyRange_36 (by decide) (fun c_4 => ?_) (fun c_4 => ?_)
        · skip
          refine j_iconst (v := 0) C dX5_whyRange_43 rfl ?_
          refine j_istore (L' := [(0, .ref m0), (1, .int (nI k)), (2, .int 5), (3, .int 0), (4, .int w), (5, .ref (tr k)), (6, .int 0)]) C dX5_whyRange_44 (Nat.le_of_ble_eq_true rfl) rfl rfl ?_
          refine j_iload_n 2 C dX5_whyRange_46 rfl rfl ?_
          refine j_iconst (v := 5) C dX5_whyRange_47 rfl ?_
          refine j_icmp_ne (tgt := 58) C dX5_whyRange_48 (by decide) (fun c_5 => ?_) (fun c_5 => ?_)
          · skip
            exact absurd c_5 (by decide)
          · skip
            refine j_iload_n 3 C dX5_whyRange_51 rfl rfl ?_
            refine j_if_eq (tgt := 85) C dX5_whyRange_52 (by decide) (fun c_6 => ?_) (fun c_6 => ?_)
            · skip
              refine j_iload_n 2 C dX5_whyRange_85 rfl rfl ?_
              refine j_iconst (v := 1) C dX5_whyRange_86 rfl ?_
              refine j_icmp_ne (tgt := 109) C dX5_whyRange_87 (by decide) (fun c_7 => ?_) (fun c_7 => ?_)
              · skip
                refine j_iload_n 2 C dX5_whyRange_109 rfl rfl ?_
                refine j_iconst (v := 2) C dX5_whyRange_110 rfl ?_
                refine j_icmp_ne (tgt := 127) C dX5_whyRange_111 (by decide) (fun c_8 => ?_) (fun c_8 => ?_)
                · skip
                  refine j_iload 4 C dX5_whyRange_127 rfl ?_
                  refine j_if_ne (tgt := 136) C dX5_whyRange_129 (by decide) (fun c_9 => ?_) (fun c_9 => ?_)
                  · skip
                    refine j_iconst (v := 0) C dX5_whyRange_136 rfl ?_
                    refine j_istore (L' := [(0, .ref m0), (1, .int (nI k)), (2, .int 5), (3, .int 0), (4, .int w), (5, .ref (tr k)), (6, .int 0), (7, .int 0)]) C dX5_whyRange_137 (Nat.le_of_ble_eq_true rfl) rfl rfl ?_
                    refine j_iload 7 C dX5_whyRange_139 rfl ?_
                    refine j_if_eq (tgt := 148) C dX5_whyRange_141 (by decide) (fun c_10 => ?_) (fun c_10 => ?_)
                    · skip
                      refine j_iconst (v := 2) C dX5_whyRange_148 rfl ?_
                      exact j_iretR (v := 2) C hr dX5_whyRange_149 rfl
                    · skip
                      exact absurd c_10 (by decide)
                  · skip
                    (first | exact absurd c_9 (by decide) | exact absurd c_9 (by omega) | simp_all)
                · skip
                  exact absurd c_8 (by decide)
              · skip
                exact absurd c_7 (by decide)
            · skip
              exact absurd c_6 (by decide)
        · skip
          exact absurd c_4 (by decide)
    · skip
      have c_2 : true = false := jb_0 c_2
      (first | exact absurd c_2 (by decide) | exact absurd c_2 (by omega) | simp_all)
set_option maxHeartbeats 4000000 in
set_option maxRecDepth 100000 in
theorem c_X5_whyRange_0 (l : Launch) (g : jG) (m0 : Nat) (th : Int32) (N tb md rw0 : Nat) (sz : Int32) (cs va : Nat) (lk : Int32) (rn kp : Nat) (tr : Nat → Nat) (k n : Nat) (f : Nat → Int32) (j a b : Nat) (hk : k < N) (hN : N ≤ 10) (hj : j + 1 < n) (hn : n ≤ 8) (ha : f (j * 28 + 3) = nI a) (ha6 : a ≤ 6) (hb : f ((j + 1) * 28 + 3) = nI b) (hb6 : b ≤ 6) : jRi l yX5_whyRange wsX5_whyRange ({ frames := 3, cells := 0, slots := 0, locals := 100 }) g [.ref m0, .int (nI k), .int 0, .int (nI j), .int 0] [(m0, .inr (4, [.int th, .int (nI N), .ref tb, .ref md, .ref rw0, .int sz, .ref cs, .ref va, .int lk, .ref rn, .ref kp])), (tb, jaR g 10 (fun i => some (tr i))), (tr k, jaI g 253 (jrw n f))] 0 := by
  refine j_enterR (cc := cX5_whyRange) (maxL := 8) (ret := (some .int)) (own := RX5) (L := [(0, .ref m0), (1, .int (nI k)), (2, .int 0), (3, .int (nI j)), (4, .int 0)]) (by decide) rfl rfl (Nat.le_of_ble_eq_true rfl) rfl (fun p e s m args below meth c C hr => ?_)
  refine j_aload_n 0 C dX5_whyRange_0 rfl rfl ?_
  refine j_iload_n 1 C dX5_whyRange_1 rfl rfl ?_
  refine j_callRi (v := jb (jBt (nI k) 0 ((nI N) - 1))) (j_runV (ci := 0) (As := [.int (nI k)]) (rest := []) [0] C (c_X5_isProgram l g m0 th (nI N) tb md rw0 sz cs va lk rn kp (nI k)) gX5_whyRange_X5_isProgram rfl rfl rfl hd_X5_isProgram ⟨Nat.le_of_ble_eq_true rfl, Nat.le_of_ble_eq_true rfl⟩ rfl rfl rfl rfl dX5_whyRange_2 rfl (Nat.le_of_ble_eq_true rfl) ⟨Nat.le_of_ble_eq_true rfl, Nat.le_of_ble_eq_true rfl⟩) ?_
  refine j_eq (pc' := 5) (L' := [(0, .ref m0), (1, .int (nI k)), (2, .int 0), (3, .int (nI j)), (4, .int 0)]) (st' := [.int (jb true)]) (ws' := [(m0, .inr (4, [.int th, .int (nI N), .ref tb, .ref md, .ref rw0, .int sz, .ref cs, .ref va, .int lk, .ref rn, .ref kp])), (tb, jaR g 10 (fun i => some (tr i))), (tr k, jaI g 253 (jrw n f))]) ?_ rfl rfl (by rw [jBt_n hk (by omega)]) rfl
  refine j_if_eq (tgt := 20) C dX5_whyRange_5 (by decide) (fun c_1 => ?_) (fun c_1 => ?_)
  · skip
    have c_1 : true = false := jb_0 c_1
    (first | exact absurd c_1 (by decide) | exact absurd c_1 (by omega) | simp_all)
  · skip
    have c_1 : true = true := jb_1 c_1
    refine j_iload_n 2 C dX5_whyRange_8 rfl rfl ?_
    refine j_i2l (v := 0) C dX5_whyRange_9 (by decide) ?_
    refine j_lconst (v := 0) C dX5_whyRange_10 rfl ?_
    refine j_ldc2 (v := 5) C dX5_whyRange_11 (List.mem_of_getElem? (i := 1) rfl) ?_
    refine j_callRi (v := jb (jIn 0 0 5)) (j_runS (As := [.long 0, .long 0, .long 5]) (rest := []) [] C (c_X5_isIn l g 0 0 5) gX5_whyRange_X5_isIn rfl rfl rfl hd_X5_isIn ⟨Nat.le_of_ble_eq_true rfl, Nat.le_of_ble_eq_true rfl⟩ rfl rfl dX5_whyRange_14 rfl (Nat.le_of_ble_eq_true rfl) ⟨Nat.le_of_ble_eq_true rfl, Nat.le_of_ble_eq_true rfl⟩) ?_
    refine j_eq (pc' := 17) (L' := [(0, .ref m0), (1, .int (nI k)), (2, .int 0), (3, .int (nI j)), (4, .int 0)]) (st' := [.int (jb true)]) (ws' := [(m0, .inr (4, [.int th, .int (nI N), .ref tb, .ref md, .ref rw0, .int sz, .ref cs, .ref va, .int lk, .ref rn, .ref kp])), (tb, jaR g 10 (fun i => some (tr i))), (tr k, jaI g 253 (jrw n f))]) ?_ rfl rfl (by rw [show jIn 0 0 5 = true by decide]) rfl
    refine j_if_ne (tgt := 22) C dX5_whyRange_17 (by decide) (fun c_2 => ?_) (fun c_2 => ?_)
    · skip
      have c_2 : true = true := jb_1 c_2
      refine j_aload_n 0 C dX5_whyRange_22 rfl rfl ?_
      refine j_get (Cn := RX5) (T := TX5) (N := 11) 0 2 C dX5_whyRange_23 hin_X5_whyRange_X5 rfl rfl (by decide) (List.mem_of_getElem? (i := 2) rfl) rfl ?_
      refine j_iload_n 1 C dX5_whyRange_26 rfl rfl ?_
      refine j_aldR (x := k) 1 C dX5_whyRange_27 rfl rfl (by omega) (by decide) ?_
      refine j_eq (pc' := 28) (L' := [(0, .ref m0), (1, .int (nI k)), (2, .int 0), (3, .int (nI j)), (4, .int 0)]) (st' := [.ref (tr k)]) (ws' := [(m0, .inr (4, [.int th, .int (nI N), .ref tb, .ref md, .ref rw0, .int sz, .ref cs, .ref va, .int lk, .ref rn, .ref kp])), (tb, jaR g 10 (fun i => some (tr i))), (tr k, jaI g 253 (jrw n f))]) ?_ rfl rfl rfl rfl
      refine j_astore (L' := [(0, .ref m0), (1, .int (nI k)), (2, .int 0), (3, .int (nI j)), (4, .int 0), (5, .ref (tr k))]) C dX5_whyRange_28 (Nat.le_of_ble_eq_true rfl) rfl rfl ?_
      refine j_iload_n 2 C dX5_whyRange_30 rfl rfl ?_
      refine j_if_eq (tgt := 39) C dX5_whyRange_31 (by decide) (fun c_3 => ?_) (fun c_3 => ?_)
      · skip
        refine j_iconst (v := 1) C dX5_whyRange_39 rfl ?_
        refine j_goto (tgt := 44) C dX5_whyRange_40 (by decide) ?_
        refine j_istore (L' := [(0, .ref m0), (1, .int (nI k)), (2, .int 0), (3, .int (nI j)), (4, .int 0), (5, .ref (tr k)), (6, .int 1)]) C dX5_whyRange_44 (Nat.le_of_ble_eq_true rfl) rfl rfl ?_
        refine j_iload_n 2 C dX5_whyRange_46 rfl rfl ?_
        refine j_iconst (v := 5) C dX5_whyRange_47 rfl ?_
        refine j_icmp_ne (tgt := 58) C dX5_whyRange_48 (by decide) (fun c_4 => ?_) (fun c_4 => ?_)
        · skip
          refine j_iload_n 3 C dX5_whyRange_58 rfl rfl ?_
          refine j_i2l (v := (nI j).toInt64) C dX5_whyRange_59 rfl ?_
          refine j_lconst (v := 0) C dX5_whyRange_60 rfl ?_
          refine j_aload 5 C dX5_whyRange_61 rfl ?_
          refine j_iconst (v := 0) C dX5_whyRange_63 rfl ?_
          refine j_ialdR0 2 C dX5_whyRange_64 rfl rfl ?_
          refine j_iload 6 C dX5_whyRange_65 rfl ?_
          refine j_if_eq (tgt := 74) C dX5_whyRange_67 (by decide) (fun c_5 => ?_) (fun c_5 => ?_)
          · skip
            exact absurd c_5 (by decide)
          · skip
            refine j_iconst (v := 2) C dX5_whyRange_70 rfl ?_
            refine j_goto (tgt := 75) C dX5_whyRange_71 (by decide) ?_
            refine j_isub (x := nI n) (y := 2) (v := nI n - 2) C dX5_whyRange_75 rfl ?_
            refine j_i2l (v := (nI n - 2).toInt64) C dX5_whyRange_76 rfl ?_
            refine j_callRi (v := jb (jIn ((nI j).toInt64) 0 ((nI n - 2).toInt64))) (j_runS (As := [.long ((nI j).toInt64), .long 0, .long ((nI n - 2).toInt64)]) (rest := []) [] C (c_X5_isIn l g ((nI j).toInt64) 0 ((nI n - 2).toInt64)) gX5_whyRange_X5_isIn rfl rfl rfl hd_X5_isIn ⟨Nat.le_of_ble_eq_true rfl, Nat.le_of_ble_eq_true rfl⟩ rfl rfl dX5_whyRange_77 rfl (Nat.le_of_ble_eq_true rfl) ⟨Nat.le_of_ble_eq_true rfl, Nat.le_of_ble_eq_true rfl⟩) ?_
            refine j_eq (pc' := 80) (L' := [(0, .ref m0), (1, .int (nI k)), (2, .int 0), (3, .int (nI j)), (4, .int 0), (5, .ref (tr k)), (6, .int 1)]) (st' := [.int (jb (jBt (nI j) 0 (nI n - 2)))]) (ws' := [(m0, .inr (4, [.int th, .int (nI N), .ref tb, .ref md, .ref rw0, .int sz, .ref cs, .ref va, .int lk, .ref rn, .ref kp])), (tb, jaR g 10 (fun i => some (tr i))), (tr k, jaI g 253 (jrw n f))]) ?_ rfl rfl (by rw [jIn_b (nI j) 0 (nI n - 2) _ _ (by decide) rfl]) rfl
            refine j_eq (pc' := 80) (L' := [(0, .ref m0), (1, .int (nI k)), (2, .int 0), (3, .int (nI j)), (4, .int 0), (5, .ref (tr k)), (6, .int 1)]) (st' := [.int (jb true)]) (ws' := [(m0, .inr (4, [.int th, .int (nI N), .ref tb, .ref md, .ref rw0, .int sz, .ref cs, .ref va, .int lk, .ref rn, .ref kp])), (tb, jaR g 10 (fun i => some (tr i))), (tr k, jaI g 253 (jrw n f))]) ?_ rfl rfl (by rw [jBt_n2 hj (by omega)]) rfl
            refine j_if_ne (tgt := 85) C dX5_whyRange_80 (by decide) (fun c_6 => ?_) (fun c_6 => ?_)
            · skip
              have c_6 : true = true := jb_1 c_6
              refine j_iload_n 2 C dX5_whyRange_85 rfl rfl ?_
              refine j_iconst (v := 1) C dX5_whyRange_86 rfl ?_
              refine j_icmp_ne (tgt := 109) C dX5_whyRange_87 (by decide) (fun c_7 => ?_) (fun c_7 => ?_)
              · skip
                refine j_iload_n 2 C dX5_whyRange_109 rfl rfl ?_
                refine j_iconst (v := 2) C dX5_whyRange_110 rfl ?_
                refine j_icmp_ne (tgt := 127) C dX5_whyRange_111 (by decide) (fun c_8 => ?_) (fun c_8 => ?_)
                · skip
                  refine j_iload 4 C dX5_whyRange_127 rfl ?_
                  refine j_if_ne (tgt := 136) C dX5_whyRange_129 (by decide) (fun c_9 => ?_) (fun c_9 => ?_)
                  · skip
                    exact absurd c_9 (by decide)
                  · skip
                    refine j_iconst (v := 1) C dX5_whyRange_132 rfl ?_
                    refine j_goto (tgt := 137) C dX5_whyRange_133 (by decide) ?_
                    refine j_istore (L' := [(0, .ref m0), (1, .int (nI k)), (2, .int 0), (3, .int (nI j)), (4, .int 0), (5, .ref (tr k)), (6, .int 1), (7, .int 1)]) C dX5_whyRange_137 (Nat.le_of_ble_eq_true rfl) rfl rfl ?_
                    refine j_iload 7 C dX5_whyRange_139 rfl ?_
                    refine j_if_eq (tgt := 148) C dX5_whyRange_141 (by decide) (fun c_10 => ?_) (fun c_10 => ?_)
                    · skip
                      exact absurd c_10 (by decide)
                    · skip
                      refine j_iconst (v := 0) C dX5_whyRange_144 rfl ?_
                      refine j_goto (tgt := 149) C dX5_whyRange_145 (by decide) ?_
                      exact j_iretR (v := 0) C hr dX5_whyRange_149 rfl
                · skip
                  exact absurd c_8 (by decide)
              · skip
                exact absurd c_7 (by decide)
            · skip
              have c_6 : true = false := jb_0 c_6
              (first | exact absurd c_6 (by decide) | exact absurd c_6 (by omega) | simp_all)
        · skip
          exact absurd c_4 (by decide)
      · skip
        exact absurd c_3 (by decide)
    · skip
      have c_2 : true = false := jb_0 c_2
      (first | exact absurd c_2 (by decide) | exact absurd c_2 (by omega) | simp_all)
set_option maxHeartbeats 4000000 in
set_option maxRecDepth 100000 in
theorem c_X5_whyRange_1 (l : Launch) (g : jG) (m0 : Nat) (th : Int32) (N tb md rw0 : Nat) (sz : Int32) (cs va : Nat) (lk : Int32) (rn kp : Nat) (tr : Nat → Nat) (k n : Nat) (f : Nat → Int32) (j i a : Nat) (hk : k < N) (hN : N ≤ 10) (hj : j < n) (hn : n ≤ 8) (ha : f (j * 28 + 3) = nI a) (ha6 : a ≤ 6) (hi1 : 1 ≤ i) (hi : i < a) : jRi l yX5_whyRange wsX5_whyRange ({ frames := 3, cells := 0, slots := 0, locals := 100 }) g [.ref m0, .int (nI k), .int 1, .int (nI j), .int (nI i)] [(m0, .inr (4, [.int th, .int (nI N), .ref tb, .ref md, .ref rw0, .int sz, .ref cs, .ref va, .int lk, .ref rn, .ref kp])), (tb, jaR g 10 (fun i => some (tr i))), (tr k, jaI g 253 (jrw n f))] 0 := by
  refine j_enterR (cc := cX5_whyRange) (maxL := 8) (ret := (some .int)) (own := RX5) (L := [(0, .ref m0), (1, .int (nI k)), (2, .int 1), (3, .int (nI j)), (4, .int (nI i))]) (by decide) rfl rfl (Nat.le_of_ble_eq_true rfl) rfl (fun p e s m args below meth c C hr => ?_)
  refine j_aload_n 0 C dX5_whyRange_0 rfl rfl ?_
  refine j_iload_n 1 C dX5_whyRange_1 rfl rfl ?_
  refine j_callRi (v := jb (jBt (nI k) 0 ((nI N) - 1))) (j_runV (ci := 0) (As := [.int (nI k)]) (rest := []) [0] C (c_X5_isProgram l g m0 th (nI N) tb md rw0 sz cs va lk rn kp (nI k)) gX5_whyRange_X5_isProgram rfl rfl rfl hd_X5_isProgram ⟨Nat.le_of_ble_eq_true rfl, Nat.le_of_ble_eq_true rfl⟩ rfl rfl rfl rfl dX5_whyRange_2 rfl (Nat.le_of_ble_eq_true rfl) ⟨Nat.le_of_ble_eq_true rfl, Nat.le_of_ble_eq_true rfl⟩) ?_
  refine j_eq (pc' := 5) (L' := [(0, .ref m0), (1, .int (nI k)), (2, .int 1), (3, .int (nI j)), (4, .int (nI i))]) (st' := [.int (jb true)]) (ws' := [(m0, .inr (4, [.int th, .int (nI N), .ref tb, .ref md, .ref rw0, .int sz, .ref cs, .ref va, .int lk, .ref rn, .ref kp])), (tb, jaR g 10 (fun i => some (tr i))), (tr k, jaI g 253 (jrw n f))]) ?_ rfl rfl (by rw [jBt_n hk (by omega)]) rfl
  refine j_if_eq (tgt := 20) C dX5_whyRange_5 (by decide) (fun c_1 => ?_) (fun c_1 => ?_)
  · skip
    have c_1 : true = false := jb_0 c_1
    (first | exact absurd c_1 (by decide) | exact absurd c_1 (by omega) | simp_all)
  · skip
    have c_1 : true = true := jb_1 c_1
    refine j_iload_n 2 C dX5_whyRange_8 rfl rfl ?_
    refine j_i2l (v := 1) C dX5_whyRange_9 (by decide) ?_
    refine j_lconst (v := 0) C dX5_whyRange_10 rfl ?_
    refine j_ldc2 (v := 5) C dX5_whyRange_11 (List.mem_of_getElem? (i := 1) rfl) ?_
    refine j_callRi (v := jb (jIn 1 0 5)) (j_runS (As := [.long 1, .long 0, .long 5]) (rest := []) [] C (c_X5_isIn l g 1 0 5) gX5_whyRange_X5_isIn rfl rfl rfl hd_X5_isIn ⟨Nat.le_of_ble_eq_true rfl, Nat.le_of_ble_eq_true rfl⟩ rfl rfl dX5_whyRange_14 rfl (Nat.le_of_ble_eq_true rfl) ⟨Nat.le_of_ble_eq_true rfl, Nat.le_of_ble_eq_true rfl⟩) ?_
    refine j_eq (pc' := 17) (L' := [(0, .ref m0), (1, .int (nI k)), (2, .int 1), (3, .int (nI j)), (4, .int (nI i))]) (st' := [.int (jb true)]) (ws' := [(m0, .inr (4, [.int th, .int (nI N), .ref tb, .ref md, .ref rw0, .int sz, .ref cs, .ref va, .int lk, .ref rn, .ref kp])), (tb, jaR g 10 (fun i => some (tr i))), (tr k, jaI g 253 (jrw n f))]) ?_ rfl rfl (by rw [show jIn 1 0 5 = true by decide]) rfl
    refine j_if_ne (tgt := 22) C dX5_whyRange_17 (by decide) (fun c_2 => ?_) (fun c_2 => ?_)
    · skip
      have c_2 : true = true := jb_1 c_2
      refine j_aload_n 0 C dX5_whyRange_22 rfl rfl ?_
      refine j_get (Cn := RX5) (T := TX5) (N := 11) 0 2 C dX5_whyRange_23 hin_X5_whyRange_X5 rfl rfl (by decide) (List.mem_of_getElem? (i := 2) rfl) rfl ?_
      refine j_iload_n 1 C dX5_whyRange_26 rfl rfl ?_
      refine j_aldR (x := k) 1 C dX5_whyRange_27 rfl rfl (by omega) (by decide) ?_
      refine j_eq (pc' := 28) (L' := [(0, .ref m0), (1, .int (nI k)), (2, .int 1), (3, .int (nI j)), (4, .int (nI i))]) (st' := [.ref (tr k)]) (ws' := [(m0, .inr (4, [.int th, .int (nI N), .ref tb, .ref md, .ref rw0, .int sz, .ref cs, .ref va, .int lk, .ref rn, .ref kp])), (tb, jaR g 10 (fun i => some (tr i))), (tr k, jaI g 253 (jrw n f))]) ?_ rfl rfl rfl rfl
      refine j_astore (L' := [(0, .ref m0), (1, .int (nI k)), (2, .int 1), (3, .int (nI j)), (4, .int (nI i)), (5, .ref (tr k))]) C dX5_whyRange_28 (Nat.le_of_ble_eq_true rfl) rfl rfl ?_
      refine j_iload_n 2 C dX5_whyRange_30 rfl rfl ?_
      refine j_if_eq (tgt := 39) C dX5_whyRange_31 (by decide) (fun c_3 => ?_) (fun c_3 => ?_)
      · skip
        exact absurd c_3 (by decide)
      · skip
        refine j_iload_n 2 C dX5_whyRange_34 rfl rfl ?_
        refine j_iconst (v := 4) C dX5_whyRange_35 rfl ?_
        refine j_icmp_ne (tgt := 43) C dX5_whyRange_36 (by decide) (fun c_4 => ?_) (fun c_4 => ?_)
        · skip
          refine j_iconst (v := 0) C dX5_whyRange_43 rfl ?_
          refine j_istore (L' := [(0, .ref m0), (1, .int (nI k)), (2, .int 1), (3, .int (nI j)), (4, .int (nI i)), (5, .ref (tr k)), (6, .int 0)]) C dX5_whyRange_44 (Nat.le_of_ble_eq_true rfl) rfl rfl ?_
          refine j_iload_n 2 C dX5_whyRange_46 rfl rfl ?_
          refine j_iconst (v := 5) C dX5_whyRange_47 rfl ?_
          refine j_icmp_ne (tgt := 58) C dX5_whyRange_48 (by decide) (fun c_5 => ?_) (fun c_5 => ?_)
          · skip
            refine j_iload_n 3 C dX5_whyRange_58 rfl rfl ?_
            refine j_i2l (v := (nI j).toInt64) C dX5_whyRange_59 rfl ?_
            refine j_lconst (v := 0) C dX5_whyRange_60 rfl ?_
            refine j_aload 5 C dX5_whyRange_61 rfl ?_
            refine j_iconst (v := 0) C dX5_whyRange_63 rfl ?_
            refine j_ialdR0 2 C dX5_whyRange_64 rfl rfl ?_
            refine j_iload 6 C dX5_whyRange_65 rfl ?_
            refine j_if_eq (tgt := 74) C dX5_whyRange_67 (by decide) (fun c_6 => ?_) (fun c_6 => ?_)
            · skip
              refine j_iconst (v := 1) C dX5_whyRange_74 rfl ?_
              refine j_isub (x := nI n) (y := 1) (v := nI n - 1) C dX5_whyRange_75 rfl ?_
              refine j_i2l (v := (nI n - 1).toInt64) C dX5_whyRange_76 rfl ?_
              refine j_callRi (v := jb (jIn ((nI j).toInt64) 0 ((nI n - 1).toInt64))) (j_runS (As := [.long ((nI j).toInt64), .long 0, .long ((nI n - 1).toInt64)]) (rest := []) [] C (c_X5_isIn l g ((nI j).toInt64) 0 ((nI n - 1).toInt64)) gX5_whyRange_X5_isIn rfl rfl rfl hd_X5_isIn ⟨Nat.le_of_ble_eq_true rfl, Nat.le_of_ble_eq_true rfl⟩ rfl rfl dX5_whyRange_77 rfl (Nat.le_of_ble_eq_true rfl) ⟨Nat.le_of_ble_eq_true rfl, Nat.le_of_ble_eq_true rfl⟩) ?_
              refine j_eq (pc' := 80) (L' := [(0, .ref m0), (1, .int (nI k)), (2, .int 1), (3, .int (nI j)), (4, .int (nI i)), (5, .ref (tr k)), (6, .int 0)]) (st' := [.int (jb (jBt (nI j) 0 (nI n - 1)))]) (ws' := [(m0, .inr (4, [.int th, .int (nI N), .ref tb, .ref md, .ref rw0, .int sz, .ref cs, .ref va, .int lk, .ref rn, .ref kp])), (tb, jaR g 10 (fun i => some (tr i))), (tr k, jaI g 253 (jrw n f))]) ?_ rfl rfl (by rw [jIn_b (nI j) 0 (nI n - 1) _ _ (by decide) rfl]) rfl
              refine j_eq (pc' := 80) (L' := [(0, .ref m0), (1, .int (nI k)), (2, .int 1), (3, .int (nI j)), (4, .int (nI i)), (5, .ref (tr k)), (6, .int 0)]) (st' := [.int (jb true)]) (ws' := [(m0, .inr (4, [.int th, .int (nI N), .ref tb, .ref md, .ref rw0, .int sz, .ref cs, .ref va, .int lk, .ref rn, .ref kp])), (tb, jaR g 10 (fun i => some (tr i))), (tr k, jaI g 253 (jrw n f))]) ?_ rfl rfl (by rw [jBt_n hj (by omega)]) rfl
              refine j_if_ne (tgt := 85) C dX5_whyRange_80 (by decide) (fun c_7 => ?_) (fun c_7 => ?_)
              · skip
                have c_7 : true = true := jb_1 c_7
                refine j_iload_n 2 C dX5_whyRange_85 rfl rfl ?_
                refine j_iconst (v := 1) C dX5_whyRange_86 rfl ?_
                refine j_icmp_ne (tgt := 109) C dX5_whyRange_87 (by decide) (fun c_8 => ?_) (fun c_8 => ?_)
                · skip
                  exact absurd c_8 (by decide)
                · skip
                  refine j_iload 4 C dX5_whyRange_90 rfl ?_
                  refine j_i2l (v := (nI i).toInt64) C dX5_whyRange_92 rfl ?_
                  refine j_lconst (v := 1) C dX5_whyRange_93 rfl ?_
                  refine j_aload 5 C dX5_whyRange_94 rfl ?_
                  refine j_iload_n 3 C dX5_whyRange_96 rfl rfl ?_
                  refine j_callRi (v := f (j * 28 + 3)) (j_runS (As := [.ref (tr k), .int (nI j)]) (rest := [.long 1, .long ((nI i).toInt64)]) [2] C (c_X5_steps l g (tr k) n f j (by omega)) gX5_whyRange_X5_steps rfl rfl rfl hd_X5_steps ⟨Nat.le_of_ble_eq_true rfl, Nat.le_of_ble_eq_true rfl⟩ rfl rfl dX5_whyRange_97 rfl (Nat.le_of_ble_eq_true rfl) ⟨Nat.le_of_ble_eq_true rfl, Nat.le_of_ble_eq_true rfl⟩) ?_
                  refine j_eq (pc' := 100) (L' := [(0, .ref m0), (1, .int (nI k)), (2, .int 1), (3, .int (nI j)), (4, .int (nI i)), (5, .ref (tr k)), (6, .int 0)]) (st' := [.int (nI a), .long 1, .long ((nI i).toInt64)]) (ws' := [(m0, .inr (4, [.int th, .int (nI N), .ref tb, .ref md, .ref rw0, .int sz, .ref cs, .ref va, .int lk, .ref rn, .ref kp])), (tb, jaR g 10 (fun i => some (tr i))), (tr k, jaI g 253 (jrw n f))]) ?_ rfl rfl (by rw [ha]) rfl
                  refine j_iconst (v := 1) C dX5_whyRange_100 rfl ?_
                  refine j_isub (x := nI a) (y := 1) (v := nI a - 1) C dX5_whyRange_101 rfl ?_
                  refine j_i2l (v := (nI a - 1).toInt64) C dX5_whyRange_102 rfl ?_
                  refine j_callRi (v := jb (jIn ((nI i).toInt64) 1 ((nI a - 1).toInt64))) (j_runS (As := [.long ((nI i).toInt64), .long 1, .long ((nI a - 1).toInt64)]) (rest := []) [] C (c_X5_isIn l g ((nI i).toInt64) 1 ((nI a - 1).toInt64)) gX5_whyRange_X5_isIn rfl rfl rfl hd_X5_isIn ⟨Nat.le_of_ble_eq_true rfl, Nat.le_of_ble_eq_true rfl⟩ rfl rfl dX5_whyRange_103 rfl (Nat.le_of_ble_eq_true rfl) ⟨Nat.le_of_ble_eq_true rfl, Nat.le_of_ble_eq_true rfl⟩) ?_
                  refine j_eq (pc' := 106) (L' := [(0, .ref m0), (1, .int (nI k)), (2, .int 1), (3, .int (nI j)), (4, .int (nI i)), (5, .ref (tr k)), (6, .int 0)]) (st' := [.int (jb (jBt (nI i) 1 (nI a - 1)))]) (ws' := [(m0, .inr (4, [.int th, .int (nI N), .ref tb, .ref md, .ref rw0, .int sz, .ref cs, .ref va, .int lk, .ref rn, .ref kp])), (tb, jaR g 10 (fun i => some (tr i))), (tr k, jaI g 253 (jrw n f))]) ?_ rfl rfl (by rw [jIn_b (nI i) 1 (nI a - 1) _ _ (by decide) rfl]) rfl
                  refine j_eq (pc' := 106) (L' := [(0, .ref m0), (1, .int (nI k)), (2, .int 1), (3, .int (nI j)), (4, .int (nI i)), (5, .ref (tr k)), (6, .int 0)]) (st' := [.int (jb true)]) (ws' := [(m0, .inr (4, [.int th, .int (nI N), .ref tb, .ref md, .ref rw0, .int sz, .ref cs, .ref va, .int lk, .ref rn, .ref kp])), (tb, jaR g 10 (fun i => some (tr i))), (tr k, jaI g 253 (jrw n f))]) ?_ rfl rfl (by rw [jBt_1 hi1 hi (by omega)]) rfl
                  refine j_goto (tgt := 137) C dX5_whyRange_106 (by decide) ?_
                  refine j_istore (L' := [(0, .ref m0), (1, .int (nI k)), (2, .int 1), (3, .int (nI j)), (4, .int (nI i)), (5, .ref (tr k)), (6, .int 0), (7, .int (jb true))]) C dX5_whyRange_137 (Nat.le_of_ble_eq_true rfl) rfl rfl ?_
                  refine j_iload 7 C dX5_whyRange_139 rfl ?_
                  refine j_if_eq (tgt := 148) C dX5_whyRange_141 (by decide) (fun c_9 => ?_) (fun c_9 => ?_)
                  · skip
                    have c_9 : true = false := jb_0 c_9
                    (first | exact absurd c_9 (by decide) | exact absurd c_9 (by omega) | simp_all)
                  · skip
                    have c_9 : true = true := jb_1 c_9
                    refine j_iconst (v := 0) C dX5_whyRange_144 rfl ?_
                    refine j_goto (tgt := 149) C dX5_whyRange_145 (by decide) ?_
                    exact j_iretR (v := 0) C hr dX5_whyRange_149 rfl
              · skip
                have c_7 : true = false := jb_0 c_7
                (first | exact absurd c_7 (by decide) | exact absurd c_7 (by omega) | simp_all)
            · skip
              exact absurd c_6 (by decide)
          · skip
            exact absurd c_5 (by decide)
        · skip
          exact absurd c_4 (by decide)
    · skip
      have c_2 : true = false := jb_0 c_2
      (first | exact absurd c_2 (by decide) | exact absurd c_2 (by omega) | simp_all)
set_option maxHeartbeats 4000000 in
set_option maxRecDepth 100000 in
theorem c_X5_whyRange_2 (l : Launch) (g : jG) (m0 : Nat) (th : Int32) (N tb md rw0 : Nat) (sz : Int32) (cs va : Nat) (lk : Int32) (rn kp : Nat) (tr : Nat → Nat) (k n : Nat) (f : Nat → Int32) (j w a v u : Nat) (hk : k < N) (hN : N ≤ 10) (hj : j < n) (hn : n ≤ 8) (ha : f (j * 28 + 3) = nI a) (ha6 : a ≤ 6) (hw1 : 1 ≤ w) (hw2 : w ≤ 10) (hv : f (j * 28 + 0) = nI v) (hv5 : v ≤ 5) (hu : f (j * 28 + 1) = nI u) (hu5 : u ≤ 5) : jRi l yX5_whyRange wsX5_whyRange ({ frames := 3, cells := 0, slots := 0, locals := 100 }) g [.ref m0, .int (nI k), .int 2, .int (nI j), .int (nI w)] [(m0, .inr (4, [.int th, .int (nI N), .ref tb, .ref md, .ref rw0, .int sz, .ref cs, .ref va, .int lk, .ref rn, .ref kp])), (tb, jaR g 10 (fun i => some (tr i))), (tr k, jaI g 253 (jrw n f))] 0 := by
  refine j_enterR (cc := cX5_whyRange) (maxL := 8) (ret := (some .int)) (own := RX5) (L := [(0, .ref m0), (1, .int (nI k)), (2, .int 2), (3, .int (nI j)), (4, .int (nI w))]) (by decide) rfl rfl (Nat.le_of_ble_eq_true rfl) rfl (fun p e s m args below meth c C hr => ?_)
  refine j_aload_n 0 C dX5_whyRange_0 rfl rfl ?_
  refine j_iload_n 1 C dX5_whyRange_1 rfl rfl ?_
  refine j_callRi (v := jb (jBt (nI k) 0 ((nI N) - 1))) (j_runV (ci := 0) (As := [.int (nI k)]) (rest := []) [0] C (c_X5_isProgram l g m0 th (nI N) tb md rw0 sz cs va lk rn kp (nI k)) gX5_whyRange_X5_isProgram rfl rfl rfl hd_X5_isProgram ⟨Nat.le_of_ble_eq_true rfl, Nat.le_of_ble_eq_true rfl⟩ rfl rfl rfl rfl dX5_whyRange_2 rfl (Nat.le_of_ble_eq_true rfl) ⟨Nat.le_of_ble_eq_true rfl, Nat.le_of_ble_eq_true rfl⟩) ?_
  refine j_eq (pc' := 5) (L' := [(0, .ref m0), (1, .int (nI k)), (2, .int 2), (3, .int (nI j)), (4, .int (nI w))]) (st' := [.int (jb true)]) (ws' := [(m0, .inr (4, [.int th, .int (nI N), .ref tb, .ref md, .ref rw0, .int sz, .ref cs, .ref va, .int lk, .ref rn, .ref kp])), (tb, jaR g 10 (fun i => some (tr i))), (tr k, jaI g 253 (jrw n f))]) ?_ rfl rfl (by rw [jBt_n hk (by omega)]) rfl
  refine j_if_eq (tgt := 20) C dX5_whyRange_5 (by decide) (fun c_1 => ?_) (fun c_1 => ?_)
  · skip
    have c_1 : true = false := jb_0 c_1
    (first | exact absurd c_1 (by decide) | exact absurd c_1 (by omega) | simp_all)
  · skip
    have c_1 : true = true := jb_1 c_1
    refine j_iload_n 2 C dX5_whyRange_8 rfl rfl ?_
    refine j_i2l (v := 2) C dX5_whyRange_9 (by decide) ?_
    refine j_lconst (v := 0) C dX5_whyRange_10 rfl ?_
    refine j_ldc2 (v := 5) C dX5_whyRange_11 (List.mem_of_getElem? (i := 1) rfl) ?_
    refine j_callRi (v := jb (jIn 2 0 5)) (j_runS (As := [.long 2, .long 0, .long 5]) (rest := []) [] C (c_X5_isIn l g 2 0 5) gX5_whyRange_X5_isIn rfl rfl rfl hd_X5_isIn ⟨Nat.le_of_ble_eq_true rfl, Nat.le_of_ble_eq_true rfl⟩ rfl rfl dX5_whyRange_14 rfl (Nat.le_of_ble_eq_true rfl) ⟨Nat.le_of_ble_eq_true rfl, Nat.le_of_ble_eq_true rfl⟩) ?_
    refine j_eq (pc' := 17) (L' := [(0, .ref m0), (1, .int (nI k)), (2, .int 2), (3, .int (nI j)), (4, .int (nI w))]) (st' := [.int (jb true)]) (ws' := [(m0, .inr (4, [.int th, .int (nI N), .ref tb, .ref md, .ref rw0, .int sz, .ref cs, .ref va, .int lk, .ref rn, .ref kp])), (tb, jaR g 10 (fun i => some (tr i))), (tr k, jaI g 253 (jrw n f))]) ?_ rfl rfl (by rw [show jIn 2 0 5 = true by decide]) rfl
    refine j_if_ne (tgt := 22) C dX5_whyRange_17 (by decide) (fun c_2 => ?_) (fun c_2 => ?_)
    · skip
      have c_2 : true = true := jb_1 c_2
      refine j_aload_n 0 C dX5_whyRange_22 rfl rfl ?_
      refine j_get (Cn := RX5) (T := TX5) (N := 11) 0 2 C dX5_whyRange_23 hin_X5_whyRange_X5 rfl rfl (by decide) (List.mem_of_getElem? (i := 2) rfl) rfl ?_
      refine j_iload_n 1 C dX5_whyRange_26 rfl rfl ?_
      refine j_aldR (x := k) 1 C dX5_whyRange_27 rfl rfl (by omega) (by decide) ?_
      refine j_eq (pc' := 28) (L' := [(0, .ref m0), (1, .int (nI k)), (2, .int 2), (3, .int (nI j)), (4, .int (nI w))]) (st' := [.ref (tr k)]) (ws' := [(m0, .inr (4, [.int th, .int (nI N), .ref tb, .ref md, .ref rw0, .int sz, .ref cs, .ref va, .int lk, .ref rn, .ref kp])), (tb, jaR g 10 (fun i => some (tr i))), (tr k, jaI g 253 (jrw n f))]) ?_ rfl rfl rfl rfl
      refine j_astore (L' := [(0, .ref m0), (1, .int (nI k)), (2, .int 2), (3, .int (nI j)), (4, .int (nI w)), (5, .ref (tr k))]) C dX5_whyRange_28 (Nat.le_of_ble_eq_true rfl) rfl rfl ?_
      refine j_iload_n 2 C dX5_whyRange_30 rfl rfl ?_
      refine j_if_eq (tgt := 39) C dX5_whyRange_31 (by decide) (fun c_3 => ?_) (fun c_3 => ?_)
      · skip
        exact absurd c_3 (by decide)
      · skip
        refine j_iload_n 2 C dX5_whyRange_34 rfl rfl ?_
        refine j_iconst (v := 4) C dX5_whyRange_35 rfl ?_
        refine j_icmp_ne (tgt := 43) C dX5_whyRange_36 (by decide) (fun c_4 => ?_) (fun c_4 => ?_)
        · skip
          refine j_iconst (v := 0) C dX5_whyRange_43 rfl ?_
          refine j_istore (L' := [(0, .ref m0), (1, .int (nI k)), (2, .int 2), (3, .int (nI j)), (4, .int (nI w)), (5, .ref (tr k)), (6, .int 0)]) C dX5_whyRange_44 (Nat.le_of_ble_eq_true rfl) rfl rfl ?_
          refine j_iload_n 2 C dX5_whyRange_46 rfl rfl ?_
          refine j_iconst (v := 5) C dX5_whyRange_47 rfl ?_
          refine j_icmp_ne (tgt := 58) C dX5_whyRange_48 (by decide) (fun c_5 => ?_) (fun c_5 => ?_)
          · skip
            refine j_iload_n 3 C dX5_whyRange_58 rfl rfl ?_
            refine j_i2l (v := (nI j).toInt64) C dX5_whyRange_59 rfl ?_
            refine j_lconst (v := 0) C dX5_whyRange_60 rfl ?_
            refine j_aload 5 C dX5_whyRange_61 rfl ?_
            refine j_iconst (v := 0) C dX5_whyRange_63 rfl ?_
            refine j_ialdR0 2 C dX5_whyRange_64 rfl rfl ?_
            refine j_iload 6 C dX5_whyRange_65 rfl ?_
            refine j_if_eq (tgt := 74) C dX5_whyRange_67 (by decide) (fun c_6 => ?_) (fun c_6 => ?_)
            · skip
              refine j_iconst (v := 1) C dX5_whyRange_74 rfl ?_
              refine j_isub (x := nI n) (y := 1) (v := nI n - 1) C dX5_whyRange_75 rfl ?_
              refine j_i2l (v := (nI n - 1).toInt64) C dX5_whyRange_76 rfl ?_
              refine j_callRi (v := jb (jIn ((nI j).toInt64) 0 ((nI n - 1).toInt64))) (j_runS (As := [.long ((nI j).toInt64), .long 0, .long ((nI n - 1).toInt64)]) (rest := []) [] C (c_X5_isIn l g ((nI j).toInt64) 0 ((nI n - 1).toInt64)) gX5_whyRange_X5_isIn rfl rfl rfl hd_X5_isIn ⟨Nat.le_of_ble_eq_true rfl, Nat.le_of_ble_eq_true rfl⟩ rfl rfl dX5_whyRange_77 rfl (Nat.le_of_ble_eq_true rfl) ⟨Nat.le_of_ble_eq_true rfl, Nat.le_of_ble_eq_true rfl⟩) ?_
              refine j_eq (pc' := 80) (L' := [(0, .ref m0), (1, .int (nI k)), (2, .int 2), (3, .int (nI j)), (4, .int (nI w)), (5, .ref (tr k)), (6, .int 0)]) (st' := [.int (jb (jBt (nI j) 0 (nI n - 1)))]) (ws' := [(m0, .inr (4, [.int th, .int (nI N), .ref tb, .ref md, .ref rw0, .int sz, .ref cs, .ref va, .int lk, .ref rn, .ref kp])), (tb, jaR g 10 (fun i => some (tr i))), (tr k, jaI g 253 (jrw n f))]) ?_ rfl rfl (by rw [jIn_b (nI j) 0 (nI n - 1) _ _ (by decide) rfl]) rfl
              refine j_eq (pc' := 80) (L' := [(0, .ref m0), (1, .int (nI k)), (2, .int 2), (3, .int (nI j)), (4, .int (nI w)), (5, .ref (tr k)), (6, .int 0)]) (st' := [.int (jb true)]) (ws' := [(m0, .inr (4, [.int th, .int (nI N), .ref tb, .ref md, .ref rw0, .int sz, .ref cs, .ref va, .int lk, .ref rn, .ref kp])), (tb, jaR g 10 (fun i => some (tr i))), (tr k, jaI g 253 (jrw n f))]) ?_ rfl rfl (by rw [jBt_n hj (by omega)]) rfl
              refine j_if_ne (tgt := 85) C dX5_whyRange_80 (by decide) (fun c_7 => ?_) (fun c_7 => ?_)
              · skip
                have c_7 : true = true := jb_1 c_7
                refine j_iload_n 2 C dX5_whyRange_85 rfl rfl ?_
                refine j_iconst (v := 1) C dX5_whyRange_86 rfl ?_
                refine j_icmp_ne (tgt := 109) C dX5_whyRange_87 (by decide) (fun c_8 => ?_) (fun c_8 => ?_)
                · skip
                  refine j_iload_n 2 C dX5_whyRange_109 rfl rfl ?_
                  refine j_iconst (v := 2) C dX5_whyRange_110 rfl ?_
                  refine j_icmp_ne (tgt := 127) C dX5_whyRange_111 (by decide) (fun c_9 => ?_) (fun c_9 => ?_)
                  · skip
                    exact absurd c_9 (by decide)
                  · skip
                    refine j_iload 4 C dX5_whyRange_114 rfl ?_
                    refine j_i2l (v := (nI w).toInt64) C dX5_whyRange_116 rfl ?_
                    refine j_lconst (v := 1) C dX5_whyRange_117 rfl ?_
                    refine j_ldc2 (v := 10) C dX5_whyRange_118 (List.mem_of_getElem? (i := 3) rfl) ?_
                    refine j_callRi (v := jb (jIn ((nI w).toInt64) 1 10)) (j_runS (As := [.long ((nI w).toInt64), .long 1, .long 10]) (rest := []) [] C (c_X5_isIn l g ((nI w).toInt64) 1 10) gX5_whyRange_X5_isIn rfl rfl rfl hd_X5_isIn ⟨Nat.le_of_ble_eq_true rfl, Nat.le_of_ble_eq_true rfl⟩ rfl rfl dX5_whyRange_121 rfl (Nat.le_of_ble_eq_true rfl) ⟨Nat.le_of_ble_eq_true rfl, Nat.le_of_ble_eq_true rfl⟩) ?_
                    refine j_eq (pc' := 124) (L' := [(0, .ref m0), (1, .int (nI k)), (2, .int 2), (3, .int (nI j)), (4, .int (nI w)), (5, .ref (tr k)), (6, .int 0)]) (st' := [.int (jb (jBt (nI w) 1 10))]) (ws' := [(m0, .inr (4, [.int th, .int (nI N), .ref tb, .ref md, .ref rw0, .int sz, .ref cs, .ref va, .int lk, .ref rn, .ref kp])), (tb, jaR g 10 (fun i => some (tr i))), (tr k, jaI g 253 (jrw n f))]) ?_ rfl rfl (by rw [jIn_b (nI w) 1 10 _ _ (by decide) (by decide)]) rfl
                    refine j_eq (pc' := 124) (L' := [(0, .ref m0), (1, .int (nI k)), (2, .int 2), (3, .int (nI j)), (4, .int (nI w)), (5, .ref (tr k)), (6, .int 0)]) (st' := [.int (jb true)]) (ws' := [(m0, .inr (4, [.int th, .int (nI N), .ref tb, .ref md, .ref rw0, .int sz, .ref cs, .ref va, .int lk, .ref rn, .ref kp])), (tb, jaR g 10 (fun i => some (tr i))), (tr k, jaI g 253 (jrw n f))]) ?_ rfl rfl (by rw [(show jBt (nI w) 1 10 = true from jBt_2 (N := 10) hw1 hw2 (by omega))]) rfl
                    refine j_goto (tgt := 137) C dX5_whyRange_124 (by decide) ?_
                    refine j_istore (L' := [(0, .ref m0), (1, .int (nI k)), (2, .int 2), (3, .int (nI j)), (4, .int (nI w)), (5, .ref (tr k)), (6, .int 0), (7, .int (jb true))]) C dX5_whyRange_137 (Nat.le_of_ble_eq_true rfl) rfl rfl ?_
                    refine j_iload 7 C dX5_whyRange_139 rfl ?_
                    refine j_if_eq (tgt := 148) C dX5_whyRange_141 (by decide) (fun c_10 => ?_) (fun c_10 => ?_)
                    · skip
                      have c_10 : true = false := jb_0 c_10
                      (first | exact absurd c_10 (by decide) | exact absurd c_10 (by omega) | simp_all)
                    · skip
                      have c_10 : true = true := jb_1 c_10
                      refine j_iconst (v := 0) C dX5_whyRange_144 rfl ?_
                      refine j_goto (tgt := 149) C dX5_whyRange_145 (by decide) ?_
                      exact j_iretR (v := 0) C hr dX5_whyRange_149 rfl
                · skip
                  exact absurd c_8 (by decide)
              · skip
                have c_7 : true = false := jb_0 c_7
                (first | exact absurd c_7 (by decide) | exact absurd c_7 (by omega) | simp_all)
            · skip
              exact absurd c_6 (by decide)
          · skip
            exact absurd c_5 (by decide)
        · skip
          exact absurd c_4 (by decide)
    · skip
      have c_2 : true = false := jb_0 c_2
      (first | exact absurd c_2 (by decide) | exact absurd c_2 (by omega) | simp_all)
set_option maxHeartbeats 4000000 in
set_option maxRecDepth 100000 in
theorem c_X5_whyRange_3 (l : Launch) (g : jG) (m0 : Nat) (th : Int32) (N tb md rw0 : Nat) (sz : Int32) (cs va : Nat) (lk : Int32) (rn kp : Nat) (tr : Nat → Nat) (k n : Nat) (f : Nat → Int32) (j a : Nat) (hk : k < N) (hN : N ≤ 10) (hj : j < n) (hn : n ≤ 8) (ha : f (j * 28 + 3) = nI a) (ha6 : a ≤ 6) : jRi l yX5_whyRange wsX5_whyRange ({ frames := 3, cells := 0, slots := 0, locals := 100 }) g [.ref m0, .int (nI k), .int 3, .int (nI j), .int 0] [(m0, .inr (4, [.int th, .int (nI N), .ref tb, .ref md, .ref rw0, .int sz, .ref cs, .ref va, .int lk, .ref rn, .ref kp])), (tb, jaR g 10 (fun i => some (tr i))), (tr k, jaI g 253 (jrw n f))] 0 := by
  refine j_enterR (cc := cX5_whyRange) (maxL := 8) (ret := (some .int)) (own := RX5) (L := [(0, .ref m0), (1, .int (nI k)), (2, .int 3), (3, .int (nI j)), (4, .int 0)]) (by decide) rfl rfl (Nat.le_of_ble_eq_true rfl) rfl (fun p e s m args below meth c C hr => ?_)
  refine j_aload_n 0 C dX5_whyRange_0 rfl rfl ?_
  refine j_iload_n 1 C dX5_whyRange_1 rfl rfl ?_
  refine j_callRi (v := jb (jBt (nI k) 0 ((nI N) - 1))) (j_runV (ci := 0) (As := [.int (nI k)]) (rest := []) [0] C (c_X5_isProgram l g m0 th (nI N) tb md rw0 sz cs va lk rn kp (nI k)) gX5_whyRange_X5_isProgram rfl rfl rfl hd_X5_isProgram ⟨Nat.le_of_ble_eq_true rfl, Nat.le_of_ble_eq_true rfl⟩ rfl rfl rfl rfl dX5_whyRange_2 rfl (Nat.le_of_ble_eq_true rfl) ⟨Nat.le_of_ble_eq_true rfl, Nat.le_of_ble_eq_true rfl⟩) ?_
  refine j_eq (pc' := 5) (L' := [(0, .ref m0), (1, .int (nI k)), (2, .int 3), (3, .int (nI j)), (4, .int 0)]) (st' := [.int (jb true)]) (ws' := [(m0, .inr (4, [.int th, .int (nI N), .ref tb, .ref md, .ref rw0, .int sz, .ref cs, .ref va, .int lk, .ref rn, .ref kp])), (tb, jaR g 10 (fun i => some (tr i))), (tr k, jaI g 253 (jrw n f))]) ?_ rfl rfl (by rw [jBt_n hk (by omega)]) rfl
  refine j_if_eq (tgt := 20) C dX5_whyRange_5 (by decide) (fun c_1 => ?_) (fun c_1 => ?_)
  · skip
    have c_1 : true = false := jb_0 c_1
    (first | exact absurd c_1 (by decide) | exact absurd c_1 (by omega) | simp_all)
  · skip
    have c_1 : true = true := jb_1 c_1
    refine j_iload_n 2 C dX5_whyRange_8 rfl rfl ?_
    refine j_i2l (v := 3) C dX5_whyRange_9 (by decide) ?_
    refine j_lconst (v := 0) C dX5_whyRange_10 rfl ?_
    refine j_ldc2 (v := 5) C dX5_whyRange_11 (List.mem_of_getElem? (i := 1) rfl) ?_
    refine j_callRi (v := jb (jIn 3 0 5)) (j_runS (As := [.long 3, .long 0, .long 5]) (rest := []) [] C (c_X5_isIn l g 3 0 5) gX5_whyRange_X5_isIn rfl rfl rfl hd_X5_isIn ⟨Nat.le_of_ble_eq_true rfl, Nat.le_of_ble_eq_true rfl⟩ rfl rfl dX5_whyRange_14 rfl (Nat.le_of_ble_eq_true rfl) ⟨Nat.le_of_ble_eq_true rfl, Nat.le_of_ble_eq_true rfl⟩) ?_
    refine j_eq (pc' := 17) (L' := [(0, .ref m0), (1, .int (nI k)), (2, .int 3), (3, .int (nI j)), (4, .int 0)]) (st' := [.int (jb true)]) (ws' := [(m0, .inr (4, [.int th, .int (nI N), .ref tb, .ref md, .ref rw0, .int sz, .ref cs, .ref va, .int lk, .ref rn, .ref kp])), (tb, jaR g 10 (fun i => some (tr i))), (tr k, jaI g 253 (jrw n f))]) ?_ rfl rfl (by rw [show jIn 3 0 5 = true by decide]) rfl
    refine j_if_ne (tgt := 22) C dX5_whyRange_17 (by decide) (fun c_2 => ?_) (fun c_2 => ?_)
    · skip
      have c_2 : true = true := jb_1 c_2
      refine j_aload_n 0 C dX5_whyRange_22 rfl rfl ?_
      refine j_get (Cn := RX5) (T := TX5) (N := 11) 0 2 C dX5_whyRange_23 hin_X5_whyRange_X5 rfl rfl (by decide) (List.mem_of_getElem? (i := 2) rfl) rfl ?_
      refine j_iload_n 1 C dX5_whyRange_26 rfl rfl ?_
      refine j_aldR (x := k) 1 C dX5_whyRange_27 rfl rfl (by omega) (by decide) ?_
      refine j_eq (pc' := 28) (L' := [(0, .ref m0), (1, .int (nI k)), (2, .int 3), (3, .int (nI j)), (4, .int 0)]) (st' := [.ref (tr k)]) (ws' := [(m0, .inr (4, [.int th, .int (nI N), .ref tb, .ref md, .ref rw0, .int sz, .ref cs, .ref va, .int lk, .ref rn, .ref kp])), (tb, jaR g 10 (fun i => some (tr i))), (tr k, jaI g 253 (jrw n f))]) ?_ rfl rfl rfl rfl
      refine j_astore (L' := [(0, .ref m0), (1, .int (nI k)), (2, .int 3), (3, .int (nI j)), (4, .int 0), (5, .ref (tr k))]) C dX5_whyRange_28 (Nat.le_of_ble_eq_true rfl) rfl rfl ?_
      refine j_iload_n 2 C dX5_whyRange_30 rfl rfl ?_
      refine j_if_eq (tgt := 39) C dX5_whyRange_31 (by decide) (fun c_3 => ?_) (fun c_3 => ?_)
      · skip
        exact absurd c_3 (by decide)
      · skip
        refine j_iload_n 2 C dX5_whyRange_34 rfl rfl ?_
        refine j_iconst (v := 4) C dX5_whyRange_35 rfl ?_
        refine j_icmp_ne (tgt := 43) C dX5_whyRange_36 (by decide) (fun c_4 => ?_) (fun c_4 => ?_)
        · skip
          refine j_iconst (v := 0) C dX5_whyRange_43 rfl ?_
          refine j_istore (L' := [(0, .ref m0), (1, .int (nI k)), (2, .int 3), (3, .int (nI j)), (4, .int 0), (5, .ref (tr k)), (6, .int 0)]) C dX5_whyRange_44 (Nat.le_of_ble_eq_true rfl) rfl rfl ?_
          refine j_iload_n 2 C dX5_whyRange_46 rfl rfl ?_
          refine j_iconst (v := 5) C dX5_whyRange_47 rfl ?_
          refine j_icmp_ne (tgt := 58) C dX5_whyRange_48 (by decide) (fun c_5 => ?_) (fun c_5 => ?_)
          · skip
            refine j_iload_n 3 C dX5_whyRange_58 rfl rfl ?_
            refine j_i2l (v := (nI j).toInt64) C dX5_whyRange_59 rfl ?_
            refine j_lconst (v := 0) C dX5_whyRange_60 rfl ?_
            refine j_aload 5 C dX5_whyRange_61 rfl ?_
            refine j_iconst (v := 0) C dX5_whyRange_63 rfl ?_
            refine j_ialdR0 2 C dX5_whyRange_64 rfl rfl ?_
            refine j_iload 6 C dX5_whyRange_65 rfl ?_
            refine j_if_eq (tgt := 74) C dX5_whyRange_67 (by decide) (fun c_6 => ?_) (fun c_6 => ?_)
            · skip
              refine j_iconst (v := 1) C dX5_whyRange_74 rfl ?_
              refine j_isub (x := nI n) (y := 1) (v := nI n - 1) C dX5_whyRange_75 rfl ?_
              refine j_i2l (v := (nI n - 1).toInt64) C dX5_whyRange_76 rfl ?_
              refine j_callRi (v := jb (jIn ((nI j).toInt64) 0 ((nI n - 1).toInt64))) (j_runS (As := [.long ((nI j).toInt64), .long 0, .long ((nI n - 1).toInt64)]) (rest := []) [] C (c_X5_isIn l g ((nI j).toInt64) 0 ((nI n - 1).toInt64)) gX5_whyRange_X5_isIn rfl rfl rfl hd_X5_isIn ⟨Nat.le_of_ble_eq_true rfl, Nat.le_of_ble_eq_true rfl⟩ rfl rfl dX5_whyRange_77 rfl (Nat.le_of_ble_eq_true rfl) ⟨Nat.le_of_ble_eq_true rfl, Nat.le_of_ble_eq_true rfl⟩) ?_
              refine j_eq (pc' := 80) (L' := [(0, .ref m0), (1, .int (nI k)), (2, .int 3), (3, .int (nI j)), (4, .int 0), (5, .ref (tr k)), (6, .int 0)]) (st' := [.int (jb (jBt (nI j) 0 (nI n - 1)))]) (ws' := [(m0, .inr (4, [.int th, .int (nI N), .ref tb, .ref md, .ref rw0, .int sz, .ref cs, .ref va, .int lk, .ref rn, .ref kp])), (tb, jaR g 10 (fun i => some (tr i))), (tr k, jaI g 253 (jrw n f))]) ?_ rfl rfl (by rw [jIn_b (nI j) 0 (nI n - 1) _ _ (by decide) rfl]) rfl
              refine j_eq (pc' := 80) (L' := [(0, .ref m0), (1, .int (nI k)), (2, .int 3), (3, .int (nI j)), (4, .int 0), (5, .ref (tr k)), (6, .int 0)]) (st' := [.int (jb true)]) (ws' := [(m0, .inr (4, [.int th, .int (nI N), .ref tb, .ref md, .ref rw0, .int sz, .ref cs, .ref va, .int lk, .ref rn, .ref kp])), (tb, jaR g 10 (fun i => some (tr i))), (tr k, jaI g 253 (jrw n f))]) ?_ rfl rfl (by rw [jBt_n hj (by omega)]) rfl
              refine j_if_ne (tgt := 85) C dX5_whyRange_80 (by decide) (fun c_7 => ?_) (fun c_7 => ?_)
              · skip
                have c_7 : true = true := jb_1 c_7
                refine j_iload_n 2 C dX5_whyRange_85 rfl rfl ?_
                refine j_iconst (v := 1) C dX5_whyRange_86 rfl ?_
                refine j_icmp_ne (tgt := 109) C dX5_whyRange_87 (by decide) (fun c_8 => ?_) (fun c_8 => ?_)
                · skip
                  refine j_iload_n 2 C dX5_whyRange_109 rfl rfl ?_
                  refine j_iconst (v := 2) C dX5_whyRange_110 rfl ?_
                  refine j_icmp_ne (tgt := 127) C dX5_whyRange_111 (by decide) (fun c_9 => ?_) (fun c_9 => ?_)
                  · skip
                    refine j_iload 4 C dX5_whyRange_127 rfl ?_
                    refine j_if_ne (tgt := 136) C dX5_whyRange_129 (by decide) (fun c_10 => ?_) (fun c_10 => ?_)
                    · skip
                      exact absurd c_10 (by decide)
                    · skip
                      refine j_iconst (v := 1) C dX5_whyRange_132 rfl ?_
                      refine j_goto (tgt := 137) C dX5_whyRange_133 (by decide) ?_
                      refine j_istore (L' := [(0, .ref m0), (1, .int (nI k)), (2, .int 3), (3, .int (nI j)), (4, .int 0), (5, .ref (tr k)), (6, .int 0), (7, .int 1)]) C dX5_whyRange_137 (Nat.le_of_ble_eq_true rfl) rfl rfl ?_
                      refine j_iload 7 C dX5_whyRange_139 rfl ?_
                      refine j_if_eq (tgt := 148) C dX5_whyRange_141 (by decide) (fun c_11 => ?_) (fun c_11 => ?_)
                      · skip
                        exact absurd c_11 (by decide)
                      · skip
                        refine j_iconst (v := 0) C dX5_whyRange_144 rfl ?_
                        refine j_goto (tgt := 149) C dX5_whyRange_145 (by decide) ?_
                        exact j_iretR (v := 0) C hr dX5_whyRange_149 rfl
                  · skip
                    exact absurd c_9 (by decide)
                · skip
                  exact absurd c_8 (by decide)
              · skip
                have c_7 : true = false := jb_0 c_7
                (first | exact absurd c_7 (by decide) | exact absurd c_7 (by omega) | simp_all)
            · skip
              exact absurd c_6 (by decide)
          · skip
            exact absurd c_5 (by decide)
        · skip
          exact absurd c_4 (by decide)
    · skip
      have c_2 : true = false := jb_0 c_2
      (first | exact absurd c_2 (by decide) | exact absurd c_2 (by omega) | simp_all)
set_option maxHeartbeats 4000000 in
set_option maxRecDepth 100000 in
theorem c_X5_whyRange_4 (l : Launch) (g : jG) (m0 : Nat) (th : Int32) (N tb md rw0 : Nat) (sz : Int32) (cs va : Nat) (lk : Int32) (rn kp : Nat) (tr : Nat → Nat) (k n : Nat) (f : Nat → Int32) (j a b : Nat) (hk : k < N) (hN : N ≤ 10) (hj : j + 1 < n) (hn : n ≤ 8) (ha : f (j * 28 + 3) = nI a) (ha6 : a ≤ 6) (hb : f ((j + 1) * 28 + 3) = nI b) (hb6 : b ≤ 6) : jRi l yX5_whyRange wsX5_whyRange ({ frames := 3, cells := 0, slots := 0, locals := 100 }) g [.ref m0, .int (nI k), .int 4, .int (nI j), .int 0] [(m0, .inr (4, [.int th, .int (nI N), .ref tb, .ref md, .ref rw0, .int sz, .ref cs, .ref va, .int lk, .ref rn, .ref kp])), (tb, jaR g 10 (fun i => some (tr i))), (tr k, jaI g 253 (jrw n f))] 0 := by
  refine j_enterR (cc := cX5_whyRange) (maxL := 8) (ret := (some .int)) (own := RX5) (L := [(0, .ref m0), (1, .int (nI k)), (2, .int 4), (3, .int (nI j)), (4, .int 0)]) (by decide) rfl rfl (Nat.le_of_ble_eq_true rfl) rfl (fun p e s m args below meth c C hr => ?_)
  refine j_aload_n 0 C dX5_whyRange_0 rfl rfl ?_
  refine j_iload_n 1 C dX5_whyRange_1 rfl rfl ?_
  refine j_callRi (v := jb (jBt (nI k) 0 ((nI N) - 1))) (j_runV (ci := 0) (As := [.int (nI k)]) (rest := []) [0] C (c_X5_isProgram l g m0 th (nI N) tb md rw0 sz cs va lk rn kp (nI k)) gX5_whyRange_X5_isProgram rfl rfl rfl hd_X5_isProgram ⟨Nat.le_of_ble_eq_true rfl, Nat.le_of_ble_eq_true rfl⟩ rfl rfl rfl rfl dX5_whyRange_2 rfl (Nat.le_of_ble_eq_true rfl) ⟨Nat.le_of_ble_eq_true rfl, Nat.le_of_ble_eq_true rfl⟩) ?_
  refine j_eq (pc' := 5) (L' := [(0, .ref m0), (1, .int (nI k)), (2, .int 4), (3, .int (nI j)), (4, .int 0)]) (st' := [.int (jb true)]) (ws' := [(m0, .inr (4, [.int th, .int (nI N), .ref tb, .ref md, .ref rw0, .int sz, .ref cs, .ref va, .int lk, .ref rn, .ref kp])), (tb, jaR g 10 (fun i => some (tr i))), (tr k, jaI g 253 (jrw n f))]) ?_ rfl rfl (by rw [jBt_n hk (by omega)]) rfl
  refine j_if_eq (tgt := 20) C dX5_whyRange_5 (by decide) (fun c_1 => ?_) (fun c_1 => ?_)
  · skip
    have c_1 : true = false := jb_0 c_1
    (first | exact absurd c_1 (by decide) | exact absurd c_1 (by omega) | simp_all)
  · skip
    have c_1 : true = true := jb_1 c_1
    refine j_iload_n 2 C dX5_whyRange_8 rfl rfl ?_
    refine j_i2l (v := 4) C dX5_whyRange_9 (by decide) ?_
    refine j_lconst (v := 0) C dX5_whyRange_10 rfl ?_
    refine j_ldc2 (v := 5) C dX5_whyRange_11 (List.mem_of_getElem? (i := 1) rfl) ?_
    refine j_callRi (v := jb (jIn 4 0 5)) (j_runS (As := [.long 4, .long 0, .long 5]) (rest := []) [] C (c_X5_isIn l g 4 0 5) gX5_whyRange_X5_isIn rfl rfl rfl hd_X5_isIn ⟨Nat.le_of_ble_eq_true rfl, Nat.le_of_ble_eq_true rfl⟩ rfl rfl dX5_whyRange_14 rfl (Nat.le_of_ble_eq_true rfl) ⟨Nat.le_of_ble_eq_true rfl, Nat.le_of_ble_eq_true rfl⟩) ?_
    refine j_eq (pc' := 17) (L' := [(0, .ref m0), (1, .int (nI k)), (2, .int 4), (3, .int (nI j)), (4, .int 0)]) (st' := [.int (jb true)]) (ws' := [(m0, .inr (4, [.int th, .int (nI N), .ref tb, .ref md, .ref rw0, .int sz, .ref cs, .ref va, .int lk, .ref rn, .ref kp])), (tb, jaR g 10 (fun i => some (tr i))), (tr k, jaI g 253 (jrw n f))]) ?_ rfl rfl (by rw [show jIn 4 0 5 = true by decide]) rfl
    refine j_if_ne (tgt := 22) C dX5_whyRange_17 (by decide) (fun c_2 => ?_) (fun c_2 => ?_)
    · skip
      have c_2 : true = true := jb_1 c_2
      refine j_aload_n 0 C dX5_whyRange_22 rfl rfl ?_
      refine j_get (Cn := RX5) (T := TX5) (N := 11) 0 2 C dX5_whyRange_23 hin_X5_whyRange_X5 rfl rfl (by decide) (List.mem_of_getElem? (i := 2) rfl) rfl ?_
      refine j_iload_n 1 C dX5_whyRange_26 rfl rfl ?_
      refine j_aldR (x := k) 1 C dX5_whyRange_27 rfl rfl (by omega) (by decide) ?_
      refine j_eq (pc' := 28) (L' := [(0, .ref m0), (1, .int (nI k)), (2, .int 4), (3, .int (nI j)), (4, .int 0)]) (st' := [.ref (tr k)]) (ws' := [(m0, .inr (4, [.int th, .int (nI N), .ref tb, .ref md, .ref rw0, .int sz, .ref cs, .ref va, .int lk, .ref rn, .ref kp])), (tb, jaR g 10 (fun i => some (tr i))), (tr k, jaI g 253 (jrw n f))]) ?_ rfl rfl rfl rfl
      refine j_astore (L' := [(0, .ref m0), (1, .int (nI k)), (2, .int 4), (3, .int (nI j)), (4, .int 0), (5, .ref (tr k))]) C dX5_whyRange_28 (Nat.le_of_ble_eq_true rfl) rfl rfl ?_
      refine j_iload_n 2 C dX5_whyRange_30 rfl rfl ?_
      refine j_if_eq (tgt := 39) C dX5_whyRange_31 (by decide) (fun c_3 => ?_) (fun c_3 => ?_)
      · skip
        exact absurd c_3 (by decide)
      · skip
        refine j_iload_n 2 C dX5_whyRange_34 rfl rfl ?_
        refine j_iconst (v := 4) C dX5_whyRange_35 rfl ?_
        refine j_icmp_ne (tgt := 43) C dX5_whyRange_36 (by decide) (fun c_4 => ?_) (fun c_4 => ?_)
        · skip
          exact absurd c_4 (by decide)
        · skip
          refine j_iconst (v := 1) C dX5_whyRange_39 rfl ?_
          refine j_goto (tgt := 44) C dX5_whyRange_40 (by decide) ?_
          refine j_istore (L' := [(0, .ref m0), (1, .int (nI k)), (2, .int 4), (3, .int (nI j)), (4, .int 0), (5, .ref (tr k)), (6, .int 1)]) C dX5_whyRange_44 (Nat.le_of_ble_eq_true rfl) rfl rfl ?_
          refine j_iload_n 2 C dX5_whyRange_46 rfl rfl ?_
          refine j_iconst (v := 5) C dX5_whyRange_47 rfl ?_
          refine j_icmp_ne (tgt := 58) C dX5_whyRange_48 (by decide) (fun c_5 => ?_) (fun c_5 => ?_)
          · skip
            refine j_iload_n 3 C dX5_whyRange_58 rfl rfl ?_
            refine j_i2l (v := (nI j).toInt64) C dX5_whyRange_59 rfl ?_
            refine j_lconst (v := 0) C dX5_whyRange_60 rfl ?_
            refine j_aload 5 C dX5_whyRange_61 rfl ?_
            refine j_iconst (v := 0) C dX5_whyRange_63 rfl ?_
            refine j_ialdR0 2 C dX5_whyRange_64 rfl rfl ?_
            refine j_iload 6 C dX5_whyRange_65 rfl ?_
            refine j_if_eq (tgt := 74) C dX5_whyRange_67 (by decide) (fun c_6 => ?_) (fun c_6 => ?_)
            · skip
              exact absurd c_6 (by decide)
            · skip
              refine j_iconst (v := 2) C dX5_whyRange_70 rfl ?_
              refine j_goto (tgt := 75) C dX5_whyRange_71 (by decide) ?_
              refine j_isub (x := nI n) (y := 2) (v := nI n - 2) C dX5_whyRange_75 rfl ?_
              refine j_i2l (v := (nI n - 2).toInt64) C dX5_whyRange_76 rfl ?_
              refine j_callRi (v := jb (jIn ((nI j).toInt64) 0 ((nI n - 2).toInt64))) (j_runS (As := [.long ((nI j).toInt64), .long 0, .long ((nI n - 2).toInt64)]) (rest := []) [] C (c_X5_isIn l g ((nI j).toInt64) 0 ((nI n - 2).toInt64)) gX5_whyRange_X5_isIn rfl rfl rfl hd_X5_isIn ⟨Nat.le_of_ble_eq_true rfl, Nat.le_of_ble_eq_true rfl⟩ rfl rfl dX5_whyRange_77 rfl (Nat.le_of_ble_eq_true rfl) ⟨Nat.le_of_ble_eq_true rfl, Nat.le_of_ble_eq_true rfl⟩) ?_
              refine j_eq (pc' := 80) (L' := [(0, .ref m0), (1, .int (nI k)), (2, .int 4), (3, .int (nI j)), (4, .int 0), (5, .ref (tr k)), (6, .int 1)]) (st' := [.int (jb (jBt (nI j) 0 (nI n - 2)))]) (ws' := [(m0, .inr (4, [.int th, .int (nI N), .ref tb, .ref md, .ref rw0, .int sz, .ref cs, .ref va, .int lk, .ref rn, .ref kp])), (tb, jaR g 10 (fun i => some (tr i))), (tr k, jaI g 253 (jrw n f))]) ?_ rfl rfl (by rw [jIn_b (nI j) 0 (nI n - 2) _ _ (by decide) rfl]) rfl
              refine j_eq (pc' := 80) (L' := [(0, .ref m0), (1, .int (nI k)), (2, .int 4), (3, .int (nI j)), (4, .int 0), (5, .ref (tr k)), (6, .int 1)]) (st' := [.int (jb true)]) (ws' := [(m0, .inr (4, [.int th, .int (nI N), .ref tb, .ref md, .ref rw0, .int sz, .ref cs, .ref va, .int lk, .ref rn, .ref kp])), (tb, jaR g 10 (fun i => some (tr i))), (tr k, jaI g 253 (jrw n f))]) ?_ rfl rfl (by rw [jBt_n2 hj (by omega)]) rfl
              refine j_if_ne (tgt := 85) C dX5_whyRange_80 (by decide) (fun c_7 => ?_) (fun c_7 => ?_)
              · skip
                have c_7 : true = true := jb_1 c_7
                refine j_iload_n 2 C dX5_whyRange_85 rfl rfl ?_
                refine j_iconst (v := 1) C dX5_whyRange_86 rfl ?_
                refine j_icmp_ne (tgt := 109) C dX5_whyRange_87 (by decide) (fun c_8 => ?_) (fun c_8 => ?_)
                · skip
                  refine j_iload_n 2 C dX5_whyRange_109 rfl rfl ?_
                  refine j_iconst (v := 2) C dX5_whyRange_110 rfl ?_
                  refine j_icmp_ne (tgt := 127) C dX5_whyRange_111 (by decide) (fun c_9 => ?_) (fun c_9 => ?_)
                  · skip
                    refine j_iload 4 C dX5_whyRange_127 rfl ?_
                    refine j_if_ne (tgt := 136) C dX5_whyRange_129 (by decide) (fun c_10 => ?_) (fun c_10 => ?_)
                    · skip
                      exact absurd c_10 (by decide)
                    · skip
                      refine j_iconst (v := 1) C dX5_whyRange_132 rfl ?_
                      refine j_goto (tgt := 137) C dX5_whyRange_133 (by decide) ?_
                      refine j_istore (L' := [(0, .ref m0), (1, .int (nI k)), (2, .int 4), (3, .int (nI j)), (4, .int 0), (5, .ref (tr k)), (6, .int 1), (7, .int 1)]) C dX5_whyRange_137 (Nat.le_of_ble_eq_true rfl) rfl rfl ?_
                      refine j_iload 7 C dX5_whyRange_139 rfl ?_
                      refine j_if_eq (tgt := 148) C dX5_whyRange_141 (by decide) (fun c_11 => ?_) (fun c_11 => ?_)
                      · skip
                        exact absurd c_11 (by decide)
                      · skip
                        refine j_iconst (v := 0) C dX5_whyRange_144 rfl ?_
                        refine j_goto (tgt := 149) C dX5_whyRange_145 (by decide) ?_
                        exact j_iretR (v := 0) C hr dX5_whyRange_149 rfl
                  · skip
                    exact absurd c_9 (by decide)
                · skip
                  exact absurd c_8 (by decide)
              · skip
                have c_7 : true = false := jb_0 c_7
                (first | exact absurd c_7 (by decide) | exact absurd c_7 (by omega) | simp_all)
          · skip
            exact absurd c_5 (by decide)
    · skip
      have c_2 : true = false := jb_0 c_2
      (first | exact absurd c_2 (by decide) | exact absurd c_2 (by omega) | simp_all)
set_option maxHeartbeats 4000000 in
set_option maxRecDepth 100000 in
theorem c_X5_whyRange_5 (l : Launch) (g : jG) (m0 : Nat) (th : Int32) (N tb md rw0 : Nat) (sz : Int32) (cs va : Nat) (lk : Int32) (rn kp : Nat) (tr : Nat → Nat) (k n : Nat) (f : Nat → Int32) (hk : k < N) (hN : N ≤ 10)  : jRi l yX5_whyRange wsX5_whyRange ({ frames := 3, cells := 0, slots := 0, locals := 100 }) g [.ref m0, .int (nI k), .int 5, .int 0, .int 0] [(m0, .inr (4, [.int th, .int (nI N), .ref tb, .ref md, .ref rw0, .int sz, .ref cs, .ref va, .int lk, .ref rn, .ref kp])), (tb, jaR g 10 (fun i => some (tr i))), (tr k, jaI g 253 (jrw n f))] 0 := by
  refine j_enterR (cc := cX5_whyRange) (maxL := 8) (ret := (some .int)) (own := RX5) (L := [(0, .ref m0), (1, .int (nI k)), (2, .int 5), (3, .int 0), (4, .int 0)]) (by decide) rfl rfl (Nat.le_of_ble_eq_true rfl) rfl (fun p e s m args below meth c C hr => ?_)
  refine j_aload_n 0 C dX5_whyRange_0 rfl rfl ?_
  refine j_iload_n 1 C dX5_whyRange_1 rfl rfl ?_
  refine j_callRi (v := jb (jBt (nI k) 0 ((nI N) - 1))) (j_runV (ci := 0) (As := [.int (nI k)]) (rest := []) [0] C (c_X5_isProgram l g m0 th (nI N) tb md rw0 sz cs va lk rn kp (nI k)) gX5_whyRange_X5_isProgram rfl rfl rfl hd_X5_isProgram ⟨Nat.le_of_ble_eq_true rfl, Nat.le_of_ble_eq_true rfl⟩ rfl rfl rfl rfl dX5_whyRange_2 rfl (Nat.le_of_ble_eq_true rfl) ⟨Nat.le_of_ble_eq_true rfl, Nat.le_of_ble_eq_true rfl⟩) ?_
  refine j_eq (pc' := 5) (L' := [(0, .ref m0), (1, .int (nI k)), (2, .int 5), (3, .int 0), (4, .int 0)]) (st' := [.int (jb true)]) (ws' := [(m0, .inr (4, [.int th, .int (nI N), .ref tb, .ref md, .ref rw0, .int sz, .ref cs, .ref va, .int lk, .ref rn, .ref kp])), (tb, jaR g 10 (fun i => some (tr i))), (tr k, jaI g 253 (jrw n f))]) ?_ rfl rfl (by rw [jBt_n hk (by omega)]) rfl
  refine j_if_eq (tgt := 20) C dX5_whyRange_5 (by decide) (fun c_1 => ?_) (fun c_1 => ?_)
  · skip
    have c_1 : true = false := jb_0 c_1
    (first | exact absurd c_1 (by decide) | exact absurd c_1 (by omega) | simp_all)
  · skip
    have c_1 : true = true := jb_1 c_1
    refine j_iload_n 2 C dX5_whyRange_8 rfl rfl ?_
    refine j_i2l (v := 5) C dX5_whyRange_9 (by decide) ?_
    refine j_lconst (v := 0) C dX5_whyRange_10 rfl ?_
    refine j_ldc2 (v := 5) C dX5_whyRange_11 (List.mem_of_getElem? (i := 1) rfl) ?_
    refine j_callRi (v := jb (jIn 5 0 5)) (j_runS (As := [.long 5, .long 0, .long 5]) (rest := []) [] C (c_X5_isIn l g 5 0 5) gX5_whyRange_X5_isIn rfl rfl rfl hd_X5_isIn ⟨Nat.le_of_ble_eq_true rfl, Nat.le_of_ble_eq_true rfl⟩ rfl rfl dX5_whyRange_14 rfl (Nat.le_of_ble_eq_true rfl) ⟨Nat.le_of_ble_eq_true rfl, Nat.le_of_ble_eq_true rfl⟩) ?_
    refine j_eq (pc' := 17) (L' := [(0, .ref m0), (1, .int (nI k)), (2, .int 5), (3, .int 0), (4, .int 0)]) (st' := [.int (jb true)]) (ws' := [(m0, .inr (4, [.int th, .int (nI N), .ref tb, .ref md, .ref rw0, .int sz, .ref cs, .ref va, .int lk, .ref rn, .ref kp])), (tb, jaR g 10 (fun i => some (tr i))), (tr k, jaI g 253 (jrw n f))]) ?_ rfl rfl (by rw [show jIn 5 0 5 = true by decide]) rfl
    refine j_if_ne (tgt := 22) C dX5_whyRange_17 (by decide) (fun c_2 => ?_) (fun c_2 => ?_)
    · skip
      have c_2 : true = true := jb_1 c_2
      refine j_aload_n 0 C dX5_whyRange_22 rfl rfl ?_
      refine j_get (Cn := RX5) (T := TX5) (N := 11) 0 2 C dX5_whyRange_23 hin_X5_whyRange_X5 rfl rfl (by decide) (List.mem_of_getElem? (i := 2) rfl) rfl ?_
      refine j_iload_n 1 C dX5_whyRange_26 rfl rfl ?_
      refine j_aldR (x := k) 1 C dX5_whyRange_27 rfl rfl (by omega) (by decide) ?_
      refine j_eq (pc' := 28) (L' := [(0, .ref m0), (1, .int (nI k)), (2, .int 5), (3, .int 0), (4, .int 0)]) (st' := [.ref (tr k)]) (ws' := [(m0, .inr (4, [.int th, .int (nI N), .ref tb, .ref md, .ref rw0, .int sz, .ref cs, .ref va, .int lk, .ref rn, .ref kp])), (tb, jaR g 10 (fun i => some (tr i))), (tr k, jaI g 253 (jrw n f))]) ?_ rfl rfl rfl rfl
      refine j_astore (L' := [(0, .ref m0), (1, .int (nI k)), (2, .int 5), (3, .int 0), (4, .int 0), (5, .ref (tr k))]) C dX5_whyRange_28 (Nat.le_of_ble_eq_true rfl) rfl rfl ?_
      refine j_iload_n 2 C dX5_whyRange_30 rfl rfl ?_
      refine j_if_eq (tgt := 39) C dX5_whyRange_31 (by decide) (fun c_3 => ?_) (fun c_3 => ?_)
      · skip
        exact absurd c_3 (by decide)
      · skip
        refine j_iload_n 2 C dX5_whyRange_34 rfl rfl ?_
        refine j_iconst (v := 4) C dX5_whyRange_35 rfl ?_
        refine j_icmp_ne (tgt := 43) C dX5_whyRange_36 (by decide) (fun c_4 => ?_) (fun c_4 => ?_)
        · skip
          refine j_iconst (v := 0) C dX5_whyRange_43 rfl ?_
          refine j_istore (L' := [(0, .ref m0), (1, .int (nI k)), (2, .int 5), (3, .int 0), (4, .int 0), (5, .ref (tr k)), (6, .int 0)]) C dX5_whyRange_44 (Nat.le_of_ble_eq_true rfl) rfl rfl ?_
          refine j_iload_n 2 C dX5_whyRange_46 rfl rfl ?_
          refine j_iconst (v := 5) C dX5_whyRange_47 rfl ?_
          refine j_icmp_ne (tgt := 58) C dX5_whyRange_48 (by decide) (fun c_5 => ?_) (fun c_5 => ?_)
          · skip
            exact absurd c_5 (by decide)
          · skip
            refine j_iload_n 3 C dX5_whyRange_51 rfl rfl ?_
            refine j_if_eq (tgt := 85) C dX5_whyRange_52 (by decide) (fun c_6 => ?_) (fun c_6 => ?_)
            · skip
              refine j_iload_n 2 C dX5_whyRange_85 rfl rfl ?_
              refine j_iconst (v := 1) C dX5_whyRange_86 rfl ?_
              refine j_icmp_ne (tgt := 109) C dX5_whyRange_87 (by decide) (fun c_7 => ?_) (fun c_7 => ?_)
              · skip
                refine j_iload_n 2 C dX5_whyRange_109 rfl rfl ?_
                refine j_iconst (v := 2) C dX5_whyRange_110 rfl ?_
                refine j_icmp_ne (tgt := 127) C dX5_whyRange_111 (by decide) (fun c_8 => ?_) (fun c_8 => ?_)
                · skip
                  refine j_iload 4 C dX5_whyRange_127 rfl ?_
                  refine j_if_ne (tgt := 136) C dX5_whyRange_129 (by decide) (fun c_9 => ?_) (fun c_9 => ?_)
                  · skip
                    exact absurd c_9 (by decide)
                  · skip
                    refine j_iconst (v := 1) C dX5_whyRange_132 rfl ?_
                    refine j_goto (tgt := 137) C dX5_whyRange_133 (by decide) ?_
                    refine j_istore (L' := [(0, .ref m0), (1, .int (nI k)), (2, .int 5), (3, .int 0), (4, .int 0), (5, .ref (tr k)), (6, .int 0), (7, .int 1)]) C dX5_whyRange_137 (Nat.le_of_ble_eq_true rfl) rfl rfl ?_
                    refine j_iload 7 C dX5_whyRange_139 rfl ?_
                    refine j_if_eq (tgt := 148) C dX5_whyRange_141 (by decide) (fun c_10 => ?_) (fun c_10 => ?_)
                    · skip
                      exact absurd c_10 (by decide)
                    · skip
                      refine j_iconst (v := 0) C dX5_whyRange_144 rfl ?_
                      refine j_goto (tgt := 149) C dX5_whyRange_145 (by decide) ?_
                      exact j_iretR (v := 0) C hr dX5_whyRange_149 rfl
                · skip
                  exact absurd c_8 (by decide)
              · skip
                exact absurd c_7 (by decide)
            · skip
              exact absurd c_6 (by decide)
        · skip
          exact absurd c_4 (by decide)
    · skip
      have c_2 : true = false := jb_0 c_2
      (first | exact absurd c_2 (by decide) | exact absurd c_2 (by omega) | simp_all)
