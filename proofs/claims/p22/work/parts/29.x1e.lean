set_option maxRecDepth 100000 in
theorem hin_X1_init_X1 : ∀ w ∈ u_ws RX1 TX1 2, w ∈ wsX1_init := fun w h => List.mem_cons_of_mem _ (by exact List.mem_append_right _ h)
set_option maxRecDepth 100000 in
theorem hin_X3_init_X3 : ∀ w ∈ u_ws RX3 TX3 3, w ∈ wsX3_init := fun w h => List.mem_cons_of_mem _ (by exact List.mem_append_right _ h)
set_option maxRecDepth 100000 in
theorem hin_X0_init_X0 : ∀ w ∈ u_ws RX0 TX0 3, w ∈ wsX0_init := fun w h => List.mem_cons_of_mem _ (by exact List.mem_append_right _ h)
set_option maxHeartbeats 4000000 in
set_option maxRecDepth 100000 in
theorem c_X1_init (l : Launch) (g : jG) (q : Nat)  : jNv l yX1_init wsX1_init ({ frames := 1, cells := 1, slots := 224, locals := 12 }) 1 224 g [.ref q] [(q, .inr (1, [.null, .int 0]))] (fun (u9_ : Nat) => [(q, .inr (1, [.ref u9_, .int 0]))] ++ [(u9_, jaI g 224 (fun _ => 0))]) := by
  refine j_enterN (y := yX1_init) (wsy := wsX1_init) (rm := { frames := 1, cells := 1, slots := 224, locals := 12 }) (g := g) (As := [.ref q]) (wc := [(q, .inr (1, [.null, .int 0]))]) (mc := 1) (ms := 224) (Qc := fun sz_ => va_Qv (fun (_ : Nat) => True) (fun u t => va_P g.1 vwCl ((fun (u9_ : Nat) => [(q, .inr (1, [.ref u9_, .int 0]))] ++ [(u9_, jaI g 224 (fun _ => 0))]) u) t.heap ∧ va_D (va_A [(q, .inr (1, [.null, .int 0]))] sz_) ((fun (u9_ : Nat) => [(q, .inr (1, [.ref u9_, .int 0]))] ++ [(u9_, jaI g 224 (fun _ => 0))]) u)) (va_A [(q, .inr (1, [.null, .int 0]))] sz_)) (cc := cX1_init) (maxL := 1) (ret := none) (own := RX1) (L := [(0, .ref q)]) (by decide) rfl rfl (Nat.le_of_ble_eq_true rfl) rfl (fun p e s m args below meth c C hr hmn9 => ?_)
  refine j_aload_n 0 C dX1_init_0 rfl rfl ?_
  refine j_objInit C dX1_init_1 (List.mem_of_getElem? (i := 1) rfl) (List.mem_of_getElem? (i := 2) rfl) (List.mem_of_getElem? (i := 3) rfl) (Nat.le_of_ble_eq_true rfl) (Nat.le_of_ble_eq_true rfl) ?_
  refine j_aload_n 0 C dX1_init_4 rfl rfl ?_
  refine j_sipush (v := 224) C dX1_init_5 rfl ?_
  refine j_newaI C dX1_init_8 (List.mem_of_getElem? (i := 4) rfl) rfl (by decide) (by constructor <;> exact Nat.le_of_ble_eq_true rfl) (fun nw_1 => ?_)
  refine j_eq (pc' := 10) (L' := [(0, .ref q)]) (st' := [.ref nw_1, .ref q]) (ws' := [(q, .inr (1, [.null, .int 0])), (nw_1, jaI g 224 (fun _ => 0))]) ?_ rfl rfl rfl rfl
  refine j_putF (Cn := RX1) (T := TX1) (N := 2) (ws' := [(q, .inr (1, [.ref nw_1, .int 0])), (nw_1, jaI g 224 (fun _ => 0))]) tyX1 0 0 C dX1_init_10 hin_X1_init_X1 tyX1_ok nmX1 rfl rfl (by decide) (List.mem_of_getElem? (i := 5) rfl) rfl hmn9 rfl (tyX1_ok 0 (by decide)) rfl rfl (Nat.le_of_ble_eq_true rfl) rfl ?_
  refine j_aload_n 0 C dX1_init_13 rfl rfl ?_
  refine j_iconst (v := 0) C dX1_init_14 rfl ?_
  refine j_put (Cn := RX1) (T := TX1) (N := 2) (ws' := [(q, .inr (1, [.ref nw_1, .int 0])), (nw_1, jaI g 224 (fun _ => 0))]) tyX1 0 1 C dX1_init_15 hin_X1_init_X1 tyX1_ok nmX1 rfl rfl (by decide) (List.mem_of_getElem? (i := 6) rfl) rfl (tyX1_ok 1 (by decide)) rfl rfl (Nat.le_of_ble_eq_true rfl) rfl ?_
  exact j_vretN C hr dX1_init_18 nw_1 trivial rfl
set_option maxHeartbeats 4000000 in
set_option maxRecDepth 100000 in
theorem c_X3_init (l : Launch) (g : jG) (q : Nat)  : jNv l yX3_init wsX3_init ({ frames := 1, cells := 1, slots := 4, locals := 12 }) 1 4 g [.ref q] [(q, .inr (2, [.null, .int 0, .int 0]))] (fun (u9_ : Nat) => [(q, .inr (2, [.ref u9_, .int 0, .int (-1)]))] ++ [(u9_, jaL g 4 (fun _ => 0))]) := by
  refine j_enterN (y := yX3_init) (wsy := wsX3_init) (rm := { frames := 1, cells := 1, slots := 4, locals := 12 }) (g := g) (As := [.ref q]) (wc := [(q, .inr (2, [.null, .int 0, .int 0]))]) (mc := 1) (ms := 4) (Qc := fun sz_ => va_Qv (fun (_ : Nat) => True) (fun u t => va_P g.1 vwCl ((fun (u9_ : Nat) => [(q, .inr (2, [.ref u9_, .int 0, .int (-1)]))] ++ [(u9_, jaL g 4 (fun _ => 0))]) u) t.heap ∧ va_D (va_A [(q, .inr (2, [.null, .int 0, .int 0]))] sz_) ((fun (u9_ : Nat) => [(q, .inr (2, [.ref u9_, .int 0, .int (-1)]))] ++ [(u9_, jaL g 4 (fun _ => 0))]) u)) (va_A [(q, .inr (2, [.null, .int 0, .int 0]))] sz_)) (cc := cX3_init) (maxL := 1) (ret := none) (own := RX3) (L := [(0, .ref q)]) (by decide) rfl rfl (Nat.le_of_ble_eq_true rfl) rfl (fun p e s m args below meth c C hr hmn9 => ?_)
  refine j_aload_n 0 C dX3_init_0 rfl rfl ?_
  refine j_objInit C dX3_init_1 (List.mem_of_getElem? (i := 1) rfl) (List.mem_of_getElem? (i := 2) rfl) (List.mem_of_getElem? (i := 3) rfl) (Nat.le_of_ble_eq_true rfl) (Nat.le_of_ble_eq_true rfl) ?_
  refine j_aload_n 0 C dX3_init_4 rfl rfl ?_
  refine j_iconst (v := 4) C dX3_init_5 rfl ?_
  refine j_newaL C dX3_init_6 (List.mem_of_getElem? (i := 4) rfl) rfl (by decide) (by constructor <;> exact Nat.le_of_ble_eq_true rfl) (fun nw_1 => ?_)
  refine j_eq (pc' := 8) (L' := [(0, .ref q)]) (st' := [.ref nw_1, .ref q]) (ws' := [(q, .inr (2, [.null, .int 0, .int 0])), (nw_1, jaL g 4 (fun _ => 0))]) ?_ rfl rfl rfl rfl
  refine j_putF (Cn := RX3) (T := TX3) (N := 3) (ws' := [(q, .inr (2, [.ref nw_1, .int 0, .int 0])), (nw_1, jaL g 4 (fun _ => 0))]) tyX3 0 0 C dX3_init_8 hin_X3_init_X3 tyX3_ok nmX3 rfl rfl (by decide) (List.mem_of_getElem? (i := 5) rfl) rfl hmn9 rfl (tyX3_ok 0 (by decide)) rfl rfl (Nat.le_of_ble_eq_true rfl) rfl ?_
  refine j_aload_n 0 C dX3_init_11 rfl rfl ?_
  refine j_iconst (v := 0) C dX3_init_12 rfl ?_
  refine j_put (Cn := RX3) (T := TX3) (N := 3) (ws' := [(q, .inr (2, [.ref nw_1, .int 0, .int 0])), (nw_1, jaL g 4 (fun _ => 0))]) tyX3 0 1 C dX3_init_13 hin_X3_init_X3 tyX3_ok nmX3 rfl rfl (by decide) (List.mem_of_getElem? (i := 6) rfl) rfl (tyX3_ok 1 (by decide)) rfl rfl (Nat.le_of_ble_eq_true rfl) rfl ?_
  refine j_aload_n 0 C dX3_init_16 rfl rfl ?_
  refine j_iconst (v := -1) C dX3_init_17 rfl ?_
  refine j_put (Cn := RX3) (T := TX3) (N := 3) (ws' := [(q, .inr (2, [.ref nw_1, .int 0, .int (-1)])), (nw_1, jaL g 4 (fun _ => 0))]) tyX3 0 2 C dX3_init_18 hin_X3_init_X3 tyX3_ok nmX3 rfl rfl (by decide) (List.mem_of_getElem? (i := 7) rfl) rfl (tyX3_ok 2 (by decide)) rfl rfl (Nat.le_of_ble_eq_true rfl) rfl ?_
  exact j_vretN C hr dX3_init_21 nw_1 trivial rfl
set_option maxHeartbeats 4000000 in
set_option maxRecDepth 100000 in
theorem c_X0_init (l : Launch) (g : jG) (q : Nat)  : jNv l yX0_init wsX0_init ({ frames := 1, cells := 1, slots := 6, locals := 12 }) 1 6 g [.ref q] [(q, .inr (0, [.null, .int 0, .int 0]))] (fun (u9_ : Nat) => [(q, .inr (0, [.ref u9_, .int 0, .int 0]))] ++ [(u9_, jaL g 6 (fun _ => 0))]) := by
  refine j_enterN (y := yX0_init) (wsy := wsX0_init) (rm := { frames := 1, cells := 1, slots := 6, locals := 12 }) (g := g) (As := [.ref q]) (wc := [(q, .inr (0, [.null, .int 0, .int 0]))]) (mc := 1) (ms := 6) (Qc := fun sz_ => va_Qv (fun (_ : Nat) => True) (fun u t => va_P g.1 vwCl ((fun (u9_ : Nat) => [(q, .inr (0, [.ref u9_, .int 0, .int 0]))] ++ [(u9_, jaL g 6 (fun _ => 0))]) u) t.heap ∧ va_D (va_A [(q, .inr (0, [.null, .int 0, .int 0]))] sz_) ((fun (u9_ : Nat) => [(q, .inr (0, [.ref u9_, .int 0, .int 0]))] ++ [(u9_, jaL g 6 (fun _ => 0))]) u)) (va_A [(q, .inr (0, [.null, .int 0, .int 0]))] sz_)) (cc := cX0_init) (maxL := 1) (ret := none) (own := RX0) (L := [(0, .ref q)]) (by decide) rfl rfl (Nat.le_of_ble_eq_true rfl) rfl (fun p e s m args below meth c C hr hmn9 => ?_)
  refine j_aload_n 0 C dX0_init_0 rfl rfl ?_
  refine j_objInit C dX0_init_1 (List.mem_of_getElem? (i := 1) rfl) (List.mem_of_getElem? (i := 2) rfl) (List.mem_of_getElem? (i := 3) rfl) (Nat.le_of_ble_eq_true rfl) (Nat.le_of_ble_eq_true rfl) ?_
  refine j_aload_n 0 C dX0_init_4 rfl rfl ?_
  refine j_bipush (v := 6) C dX0_init_5 rfl ?_
  refine j_newaL C dX0_init_7 (List.mem_of_getElem? (i := 4) rfl) rfl (by decide) (by constructor <;> exact Nat.le_of_ble_eq_true rfl) (fun nw_1 => ?_)
  refine j_eq (pc' := 9) (L' := [(0, .ref q)]) (st' := [.ref nw_1, .ref q]) (ws' := [(q, .inr (0, [.null, .int 0, .int 0])), (nw_1, jaL g 6 (fun _ => 0))]) ?_ rfl rfl rfl rfl
  refine j_putF (Cn := RX0) (T := TX0) (N := 3) (ws' := [(q, .inr (0, [.ref nw_1, .int 0, .int 0])), (nw_1, jaL g 6 (fun _ => 0))]) tyX0 0 0 C dX0_init_9 hin_X0_init_X0 tyX0_ok nmX0 rfl rfl (by decide) (List.mem_of_getElem? (i := 5) rfl) rfl hmn9 rfl (tyX0_ok 0 (by decide)) rfl rfl (Nat.le_of_ble_eq_true rfl) rfl ?_
  refine j_aload_n 0 C dX0_init_12 rfl rfl ?_
  refine j_iconst (v := 0) C dX0_init_13 rfl ?_
  refine j_put (Cn := RX0) (T := TX0) (N := 3) (ws' := [(q, .inr (0, [.ref nw_1, .int 0, .int 0])), (nw_1, jaL g 6 (fun _ => 0))]) tyX0 0 1 C dX0_init_14 hin_X0_init_X0 tyX0_ok nmX0 rfl rfl (by decide) (List.mem_of_getElem? (i := 6) rfl) rfl (tyX0_ok 1 (by decide)) rfl rfl (Nat.le_of_ble_eq_true rfl) rfl ?_
  refine j_aload_n 0 C dX0_init_17 rfl rfl ?_
  refine j_iconst (v := 0) C dX0_init_18 rfl ?_
  refine j_put (Cn := RX0) (T := TX0) (N := 3) (ws' := [(q, .inr (0, [.ref nw_1, .int 0, .int 0])), (nw_1, jaL g 6 (fun _ => 0))]) tyX0 0 2 C dX0_init_19 hin_X0_init_X0 tyX0_ok nmX0 rfl rfl (by decide) (List.mem_of_getElem? (i := 7) rfl) rfl (tyX0_ok 2 (by decide)) rfl rfl (Nat.le_of_ble_eq_true rfl) rfl ?_
  exact j_vretN C hr dX0_init_22 nw_1 trivial rfl
