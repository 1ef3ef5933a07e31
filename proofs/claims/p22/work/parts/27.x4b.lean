theorem hd_X4_lastLoopFor : yX4_lastLoopFor.cls = RX4 ∧ yX4_lastLoopFor.cls ≠ "java/lang/invoke/MethodHandle" ∧ yX4_lastLoopFor.cls ≠ "java/lang/invoke/VarHandle" ∧ (parseMethodDescriptor yX4_lastLoopFor.desc).map (fun d => d.parameters.length) = some 2 := by decide +kernel
theorem hd_X4_isWith : yX4_isWith.cls = RX4 ∧ yX4_isWith.cls ≠ "java/lang/invoke/MethodHandle" ∧ yX4_isWith.cls ≠ "java/lang/invoke/VarHandle" ∧ (parseMethodDescriptor yX4_isWith.desc).map (fun d => d.parameters.length) = some 4 := by decide +kernel
set_option maxHeartbeats 4000000 in
set_option maxRecDepth 100000 in
theorem c_X4_loop (l : Launch) (g : jG) (x0 mp N rp : Nat) (rl : Int32) (lt p1 p2 cz : Nat) (T : Nat → Option Nat) (k : Nat) (q ca n : Nat) (f : Nat → Int32) (j w : Nat) (hk : k < N) (hN : N ≤ 10) (hq : T k = some q) (hj : j < n) (hn : n ≤ 8) (hw : w < 4) : jWi l yX4_loop wsX4_loop ({ frames := 2, cells := 0, slots := 0, locals := 43 }) g [.ref x0, .int (nI k), .int (nI j), .int (nI w)] [(x0, .inr (3, [.ref mp, .int (nI N), .ref rp, .int rl, .ref lt, .ref p1, .ref p2, .ref cz])), (mp, jaP g 10 T), (q, .inr (1, [.ref ca, .int (nI n)])), (ca, jaI g 224 f)] [(x0, .inr (3, [.ref mp, .int (nI N), .ref rp, .int rl, .ref lt, .ref p1, .ref p2, .ref cz])), (mp, jaP g 10 T), (q, .inr (1, [.ref ca, .int (nI n)])), (ca, jaI g 224 f)] (f (j * 28 + w)) := by
  refine j_enterW (Qc := fun sz_ => va_Qi (fun r (_ : Unit) => r = f (j * 28 + w)) (fun _ t => va_P g.1 vwCl [(x0, .inr (3, [.ref mp, .int (nI N), .ref rp, .int rl, .ref lt, .ref p1, .ref p2, .ref cz])), (mp, jaP g 10 T), (q, .inr (1, [.ref ca, .int (nI n)])), (ca, jaI g 224 f)] t.heap) (va_A [(x0, .inr (3, [.ref mp, .int (nI N), .ref rp, .int rl, .ref lt, .ref p1, .ref p2, .ref cz])), (mp, jaP g 10 T), (q, .inr (1, [.ref ca, .int (nI n)])), (ca, jaI g 224 f)] sz_)) (cc := cX4_loop) (maxL := 5) (ret := (some .int)) (own := RX4) (L := [(0, .ref x0), (1, .int (nI k)), (2, .int (nI j)), (3, .int (nI w))]) (by decide) rfl rfl (Nat.le_of_ble_eq_true rfl) rfl (fun p e s m args below meth c C hr => ?_)
  refine j_aload_n 0 C dX4_loop_0 rfl rfl ?_
  refine j_iload_n 1 C dX4_loop_1 rfl rfl ?_
  refine j_callRr (v := q) (j_runV (ci := 0) (As := [.int (nI k)]) (rest := []) [0, 1] C (c_X4_programAt l g x0 mp N rp rl lt p1 p2 cz T k q (by omega) (by omega) hq) gX4_loop_X4_programAt rfl rfl rfl hd_X4_programAt ⟨Nat.le_of_ble_eq_true rfl, Nat.le_of_ble_eq_true rfl⟩ rfl rfl rfl rfl dX4_loop_2 rfl (Nat.le_of_ble_eq_true rfl) ⟨Nat.le_of_ble_eq_true rfl, Nat.le_of_ble_eq_true rfl⟩) ?_
  refine j_astore (L' := [(0, .ref x0), (1, .int (nI k)), (2, .int (nI j)), (3, .int (nI w)), (4, .ref q)]) C dX4_loop_5 (Nat.le_of_ble_eq_true rfl) rfl rfl ?_
  refine j_aload 4 C dX4_loop_7 rfl ?_
  refine j_iload_n 2 C dX4_loop_9 rfl rfl ?_
  refine j_callWv [2, 3] (fun _ => [(x0, .inr (3, [.ref mp, .int (nI N), .ref rp, .int rl, .ref lt, .ref p1, .ref p2, .ref cz])), (mp, jaP g 10 T), (q, .inr (1, [.ref ca, .int (nI n)])), (ca, jaI g 224 f)]) C (j_runS (As := [.ref q, .int (nI j)]) (rest := []) [2, 3] C (c_X4_refuseOtherLoops l g q ca n f j (by omega) (by omega)) gX4_loop_X4_refuseOtherLoops rfl rfl rfl hd_X4_refuseOtherLoops ⟨Nat.le_of_ble_eq_true rfl, Nat.le_of_ble_eq_true rfl⟩ rfl rfl dX4_loop_10 rfl (Nat.le_of_ble_eq_true rfl) ⟨Nat.le_of_ble_eq_true rfl, Nat.le_of_ble_eq_true rfl⟩) rfl (fun _ => rfl) (fun _ => rfl) (fun _ _ => ?_)
  refine j_iload_n 3 C dX4_loop_13 rfl rfl ?_
  refine j_iconst (v := 0) C dX4_loop_14 rfl ?_
  refine j_iconst (v := 3) C dX4_loop_15 rfl ?_
  refine j_callRi (v := jb (jBt (nI w) 0 3)) (j_runS (As := [.int (nI w), .int 0, .int 3]) (rest := []) [] C (c_X4_isBetween l g (nI w) 0 3) gX4_loop_X4_isBetween rfl rfl rfl hd_X4_isBetween ⟨Nat.le_of_ble_eq_true rfl, Nat.le_of_ble_eq_true rfl⟩ rfl rfl dX4_loop_16 rfl (Nat.le_of_ble_eq_true rfl) ⟨Nat.le_of_ble_eq_true rfl, Nat.le_of_ble_eq_true rfl⟩) ?_
  refine j_eq (pc' := 19) (L' := [(0, .ref x0), (1, .int (nI k)), (2, .int (nI j)), (3, .int (nI w)), (4, .ref q)]) (st' := [.int (jb true)]) (ws' := [(x0, .inr (3, [.ref mp, .int (nI N), .ref rp, .int rl, .ref lt, .ref p1, .ref p2, .ref cz])), (mp, jaP g 10 T), (q, .inr (1, [.ref ca, .int (nI n)])), (ca, jaI g 224 f)]) ?_ rfl rfl (by rw [(show jBt (nI w) 0 3 = true from jBt_m (N := 3) (by omega) (by omega))]) rfl
  refine j_if_ne (tgt := 32) C dX4_loop_19 (by decide) (fun c_1 => ?_) (fun c_1 => ?_)
  · skip
    have c_1 : true = true := jb_1 c_1
    refine j_aload 4 C dX4_loop_32 rfl ?_
    refine j_iload_n 2 C dX4_loop_34 rfl rfl ?_
    refine j_iload_n 3 C dX4_loop_35 rfl rfl ?_
    refine j_callRi (v := f (j * 28 + w)) (j_runV (ci := 2) (As := [.int (nI j), .int (nI w)]) (rest := []) [2, 3] C (c_X1_loopFact l g q ca (nI n) f j w (by omega)) gX4_loop_X1_loopFact rfl rfl rfl hd_X1_loopFact ⟨Nat.le_of_ble_eq_true rfl, Nat.le_of_ble_eq_true rfl⟩ rfl rfl rfl rfl dX4_loop_36 rfl (Nat.le_of_ble_eq_true rfl) ⟨Nat.le_of_ble_eq_true rfl, Nat.le_of_ble_eq_true rfl⟩) ?_
    exact j_iretW (v := f (j * 28 + w)) C hr dX4_loop_39 () rfl rfl
  · skip
    have c_1 : true = false := jb_0 c_1
    (first | exact absurd c_1 (by decide) | exact absurd c_1 (by omega) | simp_all)
set_option maxHeartbeats 4000000 in
set_option maxRecDepth 100000 in
theorem c_X4_lastLoopFor_0 (l : Launch) (g : jG) (q ca n : Nat) (f : Nat → Int32)  : jRi l yX4_lastLoopFor wsX4_lastLoopFor ({ frames := 1, cells := 0, slots := 0, locals := 40 }) g [.ref q, .int 0] [(q, .inr (1, [.ref ca, .int (nI n)])), (ca, jaI g 224 f)] (nI n - 2) := by
  refine j_enterR (cc := cX4_lastLoopFor) (maxL := 3) (ret := (some .int)) (own := RX4) (L := [(0, .ref q), (1, .int 0)]) (by decide) rfl rfl (Nat.le_of_ble_eq_true rfl) rfl (fun p e s m args below meth c C hr => ?_)
  refine j_iload_n 1 C dX4_lastLoopFor_0 rfl rfl ?_
  refine j_iconst (v := 5) C dX4_lastLoopFor_1 rfl ?_
  refine j_icmp_ne (tgt := 7) C dX4_lastLoopFor_2 (by decide) (fun c_1 => ?_) (fun c_1 => ?_)
  · skip
    refine j_aload_n 0 C dX4_lastLoopFor_7 rfl rfl ?_
    refine j_callRi (v := nI n) (j_runV (ci := 0) (As := []) (rest := []) [0, 1] C (c_X1_countLoops l g q ca (nI n) f) gX4_lastLoopFor_X1_countLoops rfl rfl rfl hd_X1_countLoops ⟨Nat.le_of_ble_eq_true rfl, Nat.le_of_ble_eq_true rfl⟩ rfl rfl rfl rfl dX4_lastLoopFor_8 rfl (Nat.le_of_ble_eq_true rfl) ⟨Nat.le_of_ble_eq_true rfl, Nat.le_of_ble_eq_true rfl⟩) ?_
    refine j_iconst (v := 1) C dX4_lastLoopFor_11 rfl ?_
    refine j_isub (x := nI n) (y := 1) (v := nI n - 1) C dX4_lastLoopFor_12 rfl ?_
    refine j_istore_n (L' := [(0, .ref q), (1, .int 0), (2, .int (nI n - 1))]) C dX4_lastLoopFor_13 rfl (Nat.le_of_ble_eq_true rfl) rfl rfl ?_
    refine j_iload_n 1 C dX4_lastLoopFor_14 rfl rfl ?_
    refine j_if_eq (tgt := 23) C dX4_lastLoopFor_15 (by decide) (fun c_2 => ?_) (fun c_2 => ?_)
    · skip
      refine j_iload_n 2 C dX4_lastLoopFor_23 rfl rfl ?_
      refine j_iconst (v := 1) C dX4_lastLoopFor_24 rfl ?_
      refine j_isub (x := nI n - 1) (y := 1) (v := nI n - 2) C dX4_lastLoopFor_25 (jI_m2 n) ?_
      refine j_goto (tgt := 30) C dX4_lastLoopFor_26 (by decide) ?_
      exact j_iretR (v := nI n - 2) C hr dX4_lastLoopFor_30 rfl
    · skip
      exact absurd c_2 (by decide)
  · skip
    exact absurd c_1 (by decide)
set_option maxHeartbeats 4000000 in
set_option maxRecDepth 100000 in
theorem c_X4_lastLoopFor_1 (l : Launch) (g : jG) (q ca n : Nat) (f : Nat → Int32)  : jRi l yX4_lastLoopFor wsX4_lastLoopFor ({ frames := 1, cells := 0, slots := 0, locals := 40 }) g [.ref q, .int 1] [(q, .inr (1, [.ref ca, .int (nI n)])), (ca, jaI g 224 f)] (nI n - 1) := by
  refine j_enterR (cc := cX4_lastLoopFor) (maxL := 3) (ret := (some .int)) (own := RX4) (L := [(0, .ref q), (1, .int 1)]) (by decide) rfl rfl (Nat.le_of_ble_eq_true rfl) rfl (fun p e s m args below meth c C hr => ?_)
  refine j_iload_n 1 C dX4_lastLoopFor_0 rfl rfl ?_
  refine j_iconst (v := 5) C dX4_lastLoopFor_1 rfl ?_
  refine j_icmp_ne (tgt := 7) C dX4_lastLoopFor_2 (by decide) (fun c_1 => ?_) (fun c_1 => ?_)
  · skip
    refine j_aload_n 0 C dX4_lastLoopFor_7 rfl rfl ?_
    refine j_callRi (v := nI n) (j_runV (ci := 0) (As := []) (rest := []) [0, 1] C (c_X1_countLoops l g q ca (nI n) f) gX4_lastLoopFor_X1_countLoops rfl rfl rfl hd_X1_countLoops ⟨Nat.le_of_ble_eq_true rfl, Nat.le_of_ble_eq_true rfl⟩ rfl rfl rfl rfl dX4_lastLoopFor_8 rfl (Nat.le_of_ble_eq_true rfl) ⟨Nat.le_of_ble_eq_true rfl, Nat.le_of_ble_eq_true rfl⟩) ?_
    refine j_iconst (v := 1) C dX4_lastLoopFor_11 rfl ?_
    refine j_isub (x := nI n) (y := 1) (v := nI n - 1) C dX4_lastLoopFor_12 rfl ?_
    refine j_istore_n (L' := [(0, .ref q), (1, .int 1), (2, .int (nI n - 1))]) C dX4_lastLoopFor_13 rfl (Nat.le_of_ble_eq_true rfl) rfl rfl ?_
    refine j_iload_n 1 C dX4_lastLoopFor_14 rfl rfl ?_
    refine j_if_eq (tgt := 23) C dX4_lastLoopFor_15 (by decide) (fun c_2 => ?_) (fun c_2 => ?_)
    · skip
      exact absurd c_2 (by decide)
    · skip
      refine j_iload_n 1 C dX4_lastLoopFor_18 rfl rfl ?_
      refine j_iconst (v := 4) C dX4_lastLoopFor_19 rfl ?_
      refine j_icmp_ne (tgt := 29) C dX4_lastLoopFor_20 (by decide) (fun c_3 => ?_) (fun c_3 => ?_)
      · skip
        refine j_iload_n 2 C dX4_lastLoopFor_29 rfl rfl ?_
        exact j_iretR (v := nI n - 1) C hr dX4_lastLoopFor_30 rfl
      · skip
        exact absurd c_3 (by decide)
  · skip
    exact absurd c_1 (by decide)
set_option maxHeartbeats 4000000 in
set_option maxRecDepth 100000 in
theorem c_X4_lastLoopFor_2 (l : Launch) (g : jG) (q ca n : Nat) (f : Nat → Int32)  : jRi l yX4_lastLoopFor wsX4_lastLoopFor ({ frames := 1, cells := 0, slots := 0, locals := 40 }) g [.ref q, .int 2] [(q, .inr (1, [.ref ca, .int (nI n)])), (ca, jaI g 224 f)] (nI n - 1) := by
  refine j_enterR (cc := cX4_lastLoopFor) (maxL := 3) (ret := (some .int)) (own := RX4) (L := [(0, .ref q), (1, .int 2)]) (by decide) rfl rfl (Nat.le_of_ble_eq_true rfl) rfl (fun p e s m args below meth c C hr => ?_)
  refine j_iload_n 1 C dX4_lastLoopFor_0 rfl rfl ?_
  refine j_iconst (v := 5) C dX4_lastLoopFor_1 rfl ?_
  refine j_icmp_ne (tgt := 7) C dX4_lastLoopFor_2 (by decide) (fun c_1 => ?_) (fun c_1 => ?_)
  · skip
    refine j_aload_n 0 C dX4_lastLoopFor_7 rfl rfl ?_
    refine j_callRi (v := nI n) (j_runV (ci := 0) (As := []) (rest := []) [0, 1] C (c_X1_countLoops l g q ca (nI n) f) gX4_lastLoopFor_X1_countLoops rfl rfl rfl hd_X1_countLoops ⟨Nat.le_of_ble_eq_true rfl, Nat.le_of_ble_eq_true rfl⟩ rfl rfl rfl rfl dX4_lastLoopFor_8 rfl (Nat.le_of_ble_eq_true rfl) ⟨Nat.le_of_ble_eq_true rfl, Nat.le_of_ble_eq_true rfl⟩) ?_
    refine j_iconst (v := 1) C dX4_lastLoopFor_11 rfl ?_
    refine j_isub (x := nI n) (y := 1) (v := nI n - 1) C dX4_lastLoopFor_12 rfl ?_
    refine j_istore_n (L' := [(0, .ref q), (1, .int 2), (2, .int (nI n - 1))]) C dX4_lastLoopFor_13 rfl (Nat.le_of_ble_eq_true rfl) rfl rfl ?_
    refine j_iload_n 1 C dX4_lastLoopFor_14 rfl rfl ?_
    refine j_if_eq (tgt := 23) C dX4_lastLoopFor_15 (by decide) (fun c_2 => ?_) (fun c_2 => ?_)
    · skip
      exact absurd c_2 (by decide)
    · skip
      refine j_iload_n 1 C dX4_lastLoopFor_18 rfl rfl ?_
      refine j_iconst (v := 4) C dX4_lastLoopFor_19 rfl ?_
      refine j_icmp_ne (tgt := 29) C dX4_lastLoopFor_20 (by decide) (fun c_3 => ?_) (fun c_3 => ?_)
      · skip
        refine j_iload_n 2 C dX4_lastLoopFor_29 rfl rfl ?_
        exact j_iretR (v := nI n - 1) C hr dX4_lastLoopFor_30 rfl
      · skip
        exact absurd c_3 (by decide)
  · skip
    exact absurd c_1 (by decide)
set_option maxHeartbeats 4000000 in
set_option maxRecDepth 100000 in
theorem c_X4_lastLoopFor_3 (l : Launch) (g : jG) (q ca n : Nat) (f : Nat → Int32)  : jRi l yX4_lastLoopFor wsX4_lastLoopFor ({ frames := 1, cells := 0, slots := 0, locals := 40 }) g [.ref q, .int 3] [(q, .inr (1, [.ref ca, .int (nI n)])), (ca, jaI g 224 f)] (nI n - 1) := by
  refine j_enterR (cc := cX4_lastLoopFor) (maxL := 3) (ret := (some .int)) (own := RX4) (L := [(0, .ref q), (1, .int 3)]) (by decide) rfl rfl (Nat.le_of_ble_eq_true rfl) rfl (fun p e s m args below meth c C hr => ?_)
  refine j_iload_n 1 C dX4_lastLoopFor_0 rfl rfl ?_
  refine j_iconst (v := 5) C dX4_lastLoopFor_1 rfl ?_
  refine j_icmp_ne (tgt := 7) C dX4_lastLoopFor_2 (by decide) (fun c_1 => ?_) (fun c_1 => ?_)
  · skip
    refine j_aload_n 0 C dX4_lastLoopFor_7 rfl rfl ?_
    refine j_callRi (v := nI n) (j_runV (ci := 0) (As := []) (rest := []) [0, 1] C (c_X1_countLoops l g q ca (nI n) f) gX4_lastLoopFor_X1_countLoops rfl rfl rfl hd_X1_countLoops ⟨Nat.le_of_ble_eq_true rfl, Nat.le_of_ble_eq_true rfl⟩ rfl rfl rfl rfl dX4_lastLoopFor_8 rfl (Nat.le_of_ble_eq_true rfl) ⟨Nat.le_of_ble_eq_true rfl, Nat.le_of_ble_eq_true rfl⟩) ?_
    refine j_iconst (v := 1) C dX4_lastLoopFor_11 rfl ?_
    refine j_isub (x := nI n) (y := 1) (v := nI n - 1) C dX4_lastLoopFor_12 rfl ?_
    refine j_istore_n (L' := [(0, .ref q), (1, .int 3), (2, .int (nI n - 1))]) C dX4_lastLoopFor_13 rfl (Nat.le_of_ble_eq_true rfl) rfl rfl ?_
    refine j_iload_n 1 C dX4_lastLoopFor_14 rfl rfl ?_
    refine j_if_eq (tgt := 23) C dX4_lastLoopFor_15 (by decide) (fun c_2 => ?_) (fun c_2 => ?_)
    · skip
      exact absurd c_2 (by decide)
    · skip
      refine j_iload_n 1 C dX4_lastLoopFor_18 rfl rfl ?_
      refine j_iconst (v := 4) C dX4_lastLoopFor_19 rfl ?_
      refine j_icmp_ne (tgt := 29) C dX4_lastLoopFor_20 (by decide) (fun c_3 => ?_) (fun c_3 => ?_)
      · skip
        refine j_iload_n 2 C dX4_lastLoopFor_29 rfl rfl ?_
        exact j_iretR (v := nI n - 1) C hr dX4_lastLoopFor_30 rfl
      · skip
        exact absurd c_3 (by decide)
  · skip
    exact absurd c_1 (by decide)
set_option maxHeartbeats 4000000 in
set_option maxRecDepth 100000 in
theorem c_X4_lastLoopFor_4 (l : Launch) (g : jG) (q ca n : Nat) (f : Nat → Int32)  : jRi l yX4_lastLoopFor wsX4_lastLoopFor ({ frames := 1, cells := 0, slots := 0, locals := 40 }) g [.ref q, .int 4] [(q, .inr (1, [.ref ca, .int (nI n)])), (ca, jaI g 224 f)] (nI n - 2) := by
  refine j_enterR (cc := cX4_lastLoopFor) (maxL := 3) (ret := (some .int)) (own := RX4) (L := [(0, .ref q), (1, .int 4)]) (by decide) rfl rfl (Nat.le_of_ble_eq_true rfl) rfl (fun p e s m args below meth c C hr => ?_)
  refine j_iload_n 1 C dX4_lastLoopFor_0 rfl rfl ?_
  refine j_iconst (v := 5) C dX4_lastLoopFor_1 rfl ?_
  refine j_icmp_ne (tgt := 7) C dX4_lastLoopFor_2 (by decide) (fun c_1 => ?_) (fun c_1 => ?_)
  · skip
    refine j_aload_n 0 C dX4_lastLoopFor_7 rfl rfl ?_
    refine j_callRi (v := nI n) (j_runV (ci := 0) (As := []) (rest := []) [0, 1] C (c_X1_countLoops l g q ca (nI n) f) gX4_lastLoopFor_X1_countLoops rfl rfl rfl hd_X1_countLoops ⟨Nat.le_of_ble_eq_true rfl, Nat.le_of_ble_eq_true rfl⟩ rfl rfl rfl rfl dX4_lastLoopFor_8 rfl (Nat.le_of_ble_eq_true rfl) ⟨Nat.le_of_ble_eq_true rfl, Nat.le_of_ble_eq_true rfl⟩) ?_
    refine j_iconst (v := 1) C dX4_lastLoopFor_11 rfl ?_
    refine j_isub (x := nI n) (y := 1) (v := nI n - 1) C dX4_lastLoopFor_12 rfl ?_
    refine j_istore_n (L' := [(0, .ref q), (1, .int 4), (2, .int (nI n - 1))]) C dX4_lastLoopFor_13 rfl (Nat.le_of_ble_eq_true rfl) rfl rfl ?_
    refine j_iload_n 1 C dX4_lastLoopFor_14 rfl rfl ?_
    refine j_if_eq (tgt := 23) C dX4_lastLoopFor_15 (by decide) (fun c_2 => ?_) (fun c_2 => ?_)
    · skip
      exact absurd c_2 (by decide)
    · skip
      refine j_iload_n 1 C dX4_lastLoopFor_18 rfl rfl ?_
      refine j_iconst (v := 4) C dX4_lastLoopFor_19 rfl ?_
      refine j_icmp_ne (tgt := 29) C dX4_lastLoopFor_20 (by decide) (fun c_3 => ?_) (fun c_3 => ?_)
      · skip
        exact absurd c_3 (by decide)
      · skip
        refine j_iload_n 2 C dX4_lastLoopFor_23 rfl rfl ?_
        refine j_iconst (v := 1) C dX4_lastLoopFor_24 rfl ?_
        refine j_isub (x := nI n - 1) (y := 1) (v := nI n - 2) C dX4_lastLoopFor_25 (jI_m2 n) ?_
        refine j_goto (tgt := 30) C dX4_lastLoopFor_26 (by decide) ?_
        exact j_iretR (v := nI n - 2) C hr dX4_lastLoopFor_30 rfl
  · skip
    exact absurd c_1 (by decide)
set_option maxHeartbeats 4000000 in
set_option maxRecDepth 100000 in
theorem c_X4_lastLoopFor_5 (l : Launch) (g : jG) (q ca n : Nat) (f : Nat → Int32)  : jRi l yX4_lastLoopFor wsX4_lastLoopFor ({ frames := 1, cells := 0, slots := 0, locals := 40 }) g [.ref q, .int 5] [(q, .inr (1, [.ref ca, .int (nI n)])), (ca, jaI g 224 f)] 0 := by
  refine j_enterR (cc := cX4_lastLoopFor) (maxL := 3) (ret := (some .int)) (own := RX4) (L := [(0, .ref q), (1, .int 5)]) (by decide) rfl rfl (Nat.le_of_ble_eq_true rfl) rfl (fun p e s m args below meth c C hr => ?_)
  refine j_iload_n 1 C dX4_lastLoopFor_0 rfl rfl ?_
  refine j_iconst (v := 5) C dX4_lastLoopFor_1 rfl ?_
  refine j_icmp_ne (tgt := 7) C dX4_lastLoopFor_2 (by decide) (fun c_1 => ?_) (fun c_1 => ?_)
  · skip
    exact absurd c_1 (by decide)
  · skip
    refine j_iconst (v := 0) C dX4_lastLoopFor_5 rfl ?_
    exact j_iretR (v := 0) C hr dX4_lastLoopFor_6 rfl
set_option maxHeartbeats 4000000 in
set_option maxRecDepth 100000 in
theorem c_X4_isWith_1 (l : Launch) (g : jG) (q ca n : Nat) (f : Nat → Int32) (j a : Nat) (w : Int32) (hj : j < 8) (ha : f (j * 28 + 3) = nI a) (ha6 : a ≤ 6) : jRi l yX4_isWith wsX4_isWith ({ frames := 3, cells := 0, slots := 0, locals := 64 }) g [.ref q, .int 1, .int (nI j), .int w] [(q, .inr (1, [.ref ca, .int (nI n)])), (ca, jaI g 224 f)] (jb (jBt w 1 (nI a - 1))) := by
  refine j_enterR (cc := cX4_isWith) (maxL := 4) (ret := (some .boolean)) (own := RX4) (L := [(0, .ref q), (1, .int 1), (2, .int (nI j)), (3, .int w)]) (by decide) rfl rfl (Nat.le_of_ble_eq_true rfl) rfl (fun p e s m args below meth c C hr => ?_)
  refine j_iload_n 1 C dX4_isWith_0 rfl rfl ?_
  refine j_iconst (v := 1) C dX4_isWith_1 rfl ?_
  refine j_icmp_ne (tgt := 18) C dX4_isWith_2 (by decide) (fun c_1 => ?_) (fun c_1 => ?_)
  · skip
    exact absurd c_1 (by decide)
  · skip
    refine j_iload_n 3 C dX4_isWith_5 rfl rfl ?_
    refine j_iconst (v := 1) C dX4_isWith_6 rfl ?_
    refine j_aload_n 0 C dX4_isWith_7 rfl rfl ?_
    refine j_iload_n 2 C dX4_isWith_8 rfl rfl ?_
    refine j_callRi (v := f (j * 28 + 3)) (j_runV (ci := 0) (As := [.int (nI j)]) (rest := [.int 1, .int w]) [0, 1] C (c_X1_countSteps l g q ca (nI n) f j (by omega)) gX4_isWith_X1_countSteps rfl rfl rfl hd_X1_countSteps ⟨Nat.le_of_ble_eq_true rfl, Nat.le_of_ble_eq_true rfl⟩ rfl rfl rfl rfl dX4_isWith_9 rfl (Nat.le_of_ble_eq_true rfl) ⟨Nat.le_of_ble_eq_true rfl, Nat.le_of_ble_eq_true rfl⟩) ?_
    refine j_eq (pc' := 12) (L' := [(0, .ref q), (1, .int 1), (2, .int (nI j)), (3, .int w)]) (st' := [.int (nI a), .int 1, .int w]) (ws' := [(q, .inr (1, [.ref ca, .int (nI n)])), (ca, jaI g 224 f)]) ?_ rfl rfl (by rw [ha]) rfl
    refine j_iconst (v := 1) C dX4_isWith_12 rfl ?_
    refine j_isub (x := nI a) (y := 1) (v := nI a - 1) C dX4_isWith_13 rfl ?_
    refine j_callRi (v := jb (jBt w 1 (nI a - 1))) (j_runS (As := [.int w, .int 1, .int (nI a - 1)]) (rest := []) [] C (c_X4_isBetween l g w 1 (nI a - 1)) gX4_isWith_X4_isBetween rfl rfl rfl hd_X4_isBetween ⟨Nat.le_of_ble_eq_true rfl, Nat.le_of_ble_eq_true rfl⟩ rfl rfl dX4_isWith_14 rfl (Nat.le_of_ble_eq_true rfl) ⟨Nat.le_of_ble_eq_true rfl, Nat.le_of_ble_eq_true rfl⟩) ?_
    exact j_zretR (v := jb (jBt w 1 (nI a - 1))) C hr dX4_isWith_17 (jb_n (jBt w 1 (nI a - 1))) rfl
set_option maxHeartbeats 4000000 in
set_option maxRecDepth 100000 in
theorem c_X4_isWith_2 (l : Launch) (g : jG) (q ca n : Nat) (f : Nat → Int32) (j w : Int32)  : jRi l yX4_isWith wsX4_isWith ({ frames := 1, cells := 0, slots := 0, locals := 22 }) g [.ref q, .int 2, .int j, .int w] [(q, .inr (1, [.ref ca, .int (nI n)])), (ca, jaI g 224 f)] (jb (jBt w 1 10)) := by
  refine j_enterR (cc := cX4_isWith) (maxL := 4) (ret := (some .boolean)) (own := RX4) (L := [(0, .ref q), (1, .int 2), (2, .int j), (3, .int w)]) (by decide) rfl rfl (Nat.le_of_ble_eq_true rfl) rfl (fun p e s m args below meth c C hr => ?_)
  refine j_iload_n 1 C dX4_isWith_0 rfl rfl ?_
  refine j_iconst (v := 1) C dX4_isWith_1 rfl ?_
  refine j_icmp_ne (tgt := 18) C dX4_isWith_2 (by decide) (fun c_1 => ?_) (fun c_1 => ?_)
  · skip
    refine j_iload_n 1 C dX4_isWith_18 rfl rfl ?_
    refine j_iconst (v := 2) C dX4_isWith_19 rfl ?_
    refine j_icmp_ne (tgt := 31) C dX4_isWith_20 (by decide) (fun c_2 => ?_) (fun c_2 => ?_)
    · skip
      exact absurd c_2 (by decide)
    · skip
      refine j_iload_n 3 C dX4_isWith_23 rfl rfl ?_
      refine j_iconst (v := 1) C dX4_isWith_24 rfl ?_
      refine j_bipush (v := 10) C dX4_isWith_25 rfl ?_
      refine j_callRi (v := jb (jBt w 1 10)) (j_runS (As := [.int w, .int 1, .int 10]) (rest := []) [] C (c_X4_isBetween l g w 1 10) gX4_isWith_X4_isBetween rfl rfl rfl hd_X4_isBetween ⟨Nat.le_of_ble_eq_true rfl, Nat.le_of_ble_eq_true rfl⟩ rfl rfl dX4_isWith_27 rfl (Nat.le_of_ble_eq_true rfl) ⟨Nat.le_of_ble_eq_true rfl, Nat.le_of_ble_eq_true rfl⟩) ?_
      exact j_zretR (v := jb (jBt w 1 10)) C hr dX4_isWith_30 (jb_n (jBt w 1 10)) rfl
  · skip
    exact absurd c_1 (by decide)
set_option maxHeartbeats 4000000 in
set_option maxRecDepth 100000 in
theorem c_X4_isWith_0 (l : Launch) (g : jG) (q ca n : Nat) (f : Nat → Int32) (j w : Int32) (hw : ¬ w = 0) : jRi l yX4_isWith wsX4_isWith ({ frames := 0, cells := 0, slots := 0, locals := 0 }) g [.ref q, .int 0, .int j, .int w] [(q, .inr (1, [.ref ca, .int (nI n)])), (ca, jaI g 224 f)] (jb false) := by
  refine j_enterR (cc := cX4_isWith) (maxL := 4) (ret := (some .boolean)) (own := RX4) (L := [(0, .ref q), (1, .int 0), (2, .int j), (3, .int w)]) (by decide) rfl rfl (Nat.le_of_ble_eq_true rfl) rfl (fun p e s m args below meth c C hr => ?_)
  refine j_iload_n 1 C dX4_isWith_0 rfl rfl ?_
  refine j_iconst (v := 1) C dX4_isWith_1 rfl ?_
  refine j_icmp_ne (tgt := 18) C dX4_isWith_2 (by decide) (fun c_1 => ?_) (fun c_1 => ?_)
  · skip
    refine j_iload_n 1 C dX4_isWith_18 rfl rfl ?_
    refine j_iconst (v := 2) C dX4_isWith_19 rfl ?_
    refine j_icmp_ne (tgt := 31) C dX4_isWith_20 (by decide) (fun c_2 => ?_) (fun c_2 => ?_)
    · skip
      refine j_iload_n 3 C dX4_isWith_31 rfl rfl ?_
      refine j_if_ne (tgt := 39) C dX4_isWith_32 (by decide) (fun c_3 => ?_) (fun c_3 => ?_)
      · skip
        refine j_iconst (v := 0) C dX4_isWith_39 rfl ?_
        exact j_zretR (v := 0) C hr dX4_isWith_40 rfl (by rfl)
      · skip
        (first | exact absurd c_3 (by decide) | exact absurd c_3 (by omega) | simp_all)
    · skip
      exact absurd c_2 (by decide)
  · skip
    exact absurd c_1 (by decide)
set_option maxHeartbeats 4000000 in
set_option maxRecDepth 100000 in
theorem c_X4_isWith_0z (l : Launch) (g : jG) (q ca n : Nat) (f : Nat → Int32) (j : Int32)  : jRi l yX4_isWith wsX4_isWith ({ frames := 0, cells := 0, slots := 0, locals := 0 }) g [.ref q, .int 0, .int j, .int 0] [(q, .inr (1, [.ref ca, .int (nI n)])), (ca, jaI g 224 f)] (jb true) := by
  refine j_enterR (cc := cX4_isWith) (maxL := 4) (ret := (some .boolean)) (own := RX4) (L := [(0, .ref q), (1, .int 0), (2, .int j), (3, .int 0)]) (by decide) rfl rfl (Nat.le_of_ble_eq_true rfl) rfl (fun p e s m args below meth c C hr => ?_)
  refine j_iload_n 1 C dX4_isWith_0 rfl rfl ?_
  refine j_iconst (v := 1) C dX4_isWith_1 rfl ?_
  refine j_icmp_ne (tgt := 18) C dX4_isWith_2 (by decide) (fun c_1 => ?_) (fun c_1 => ?_)
  · skip
    refine j_iload_n 1 C dX4_isWith_18 rfl rfl ?_
    refine j_iconst (v := 2) C dX4_isWith_19 rfl ?_
    refine j_icmp_ne (tgt := 31) C dX4_isWith_20 (by decide) (fun c_2 => ?_) (fun c_2 => ?_)
    · skip
      refine j_iload_n 3 C dX4_isWith_31 rfl rfl ?_
      refine j_if_ne (tgt := 39) C dX4_isWith_32 (by decide) (fun c_3 => ?_) (fun c_3 => ?_)
      · skip
        exact absurd c_3 (by decide)
      · skip
        refine j_iconst (v := 1) C dX4_isWith_35 rfl ?_
        refine j_goto (tgt := 40) C dX4_isWith_36 (by decide) ?_
        exact j_zretR (v := 1) C hr dX4_isWith_40 rfl (by rfl)
    · skip
      exact absurd c_2 (by decide)
  · skip
    exact absurd c_1 (by decide)
set_option maxHeartbeats 4000000 in
set_option maxRecDepth 100000 in
theorem c_X4_isWith_3 (l : Launch) (g : jG) (q ca n : Nat) (f : Nat → Int32) (j w : Int32) (hw : ¬ w = 0) : jRi l yX4_isWith wsX4_isWith ({ frames := 0, cells := 0, slots := 0, locals := 0 }) g [.ref q, .int 3, .int j, .int w] [(q, .inr (1, [.ref ca, .int (nI n)])), (ca, jaI g 224 f)] (jb false) := by
  refine j_enterR (cc := cX4_isWith) (maxL := 4) (ret := (some .boolean)) (own := RX4) (L := [(0, .ref q), (1, .int 3), (2, .int j), (3, .int w)]) (by decide) rfl rfl (Nat.le_of_ble_eq_true rfl) rfl (fun p e s m args below meth c C hr => ?_)
  refine j_iload_n 1 C dX4_isWith_0 rfl rfl ?_
  refine j_iconst (v := 1) C dX4_isWith_1 rfl ?_
  refine j_icmp_ne (tgt := 18) C dX4_isWith_2 (by decide) (fun c_1 => ?_) (fun c_1 => ?_)
  · skip
    refine j_iload_n 1 C dX4_isWith_18 rfl rfl ?_
    refine j_iconst (v := 2) C dX4_isWith_19 rfl ?_
    refine j_icmp_ne (tgt := 31) C dX4_isWith_20 (by decide) (fun c_2 => ?_) (fun c_2 => ?_)
    · skip
      refine j_iload_n 3 C dX4_isWith_31 rfl rfl ?_
      refine j_if_ne (tgt := 39) C dX4_isWith_32 (by decide) (fun c_3 => ?_) (fun c_3 => ?_)
      · skip
        refine j_iconst (v := 0) C dX4_isWith_39 rfl ?_
        exact j_zretR (v := 0) C hr dX4_isWith_40 rfl (by rfl)
      · skip
        (first | exact absurd c_3 (by decide) | exact absurd c_3 (by omega) | simp_all)
    · skip
      exact absurd c_2 (by decide)
  · skip
    exact absurd c_1 (by decide)
set_option maxHeartbeats 4000000 in
set_option maxRecDepth 100000 in
theorem c_X4_isWith_3z (l : Launch) (g : jG) (q ca n : Nat) (f : Nat → Int32) (j : Int32)  : jRi l yX4_isWith wsX4_isWith ({ frames := 0, cells := 0, slots := 0, locals := 0 }) g [.ref q, .int 3, .int j, .int 0] [(q, .inr (1, [.ref ca, .int (nI n)])), (ca, jaI g 224 f)] (jb true) := by
  refine j_enterR (cc := cX4_isWith) (maxL := 4) (ret := (some .boolean)) (own := RX4) (L := [(0, .ref q), (1, .int 3), (2, .int j), (3, .int 0)]) (by decide) rfl rfl (Nat.le_of_ble_eq_true rfl) rfl (fun p e s m args below meth c C hr => ?_)
  refine j_iload_n 1 C dX4_isWith_0 rfl rfl ?_
  refine j_iconst (v := 1) C dX4_isWith_1 rfl ?_
  refine j_icmp_ne (tgt := 18) C dX4_isWith_2 (by decide) (fun c_1 => ?_) (fun c_1 => ?_)
  · skip
    refine j_iload_n 1 C dX4_isWith_18 rfl rfl ?_
    refine j_iconst (v := 2) C dX4_isWith_19 rfl ?_
    refine j_icmp_ne (tgt := 31) C dX4_isWith_20 (by decide) (fun c_2 => ?_) (fun c_2 => ?_)
    · skip
      refine j_iload_n 3 C dX4_isWith_31 rfl rfl ?_
      refine j_if_ne (tgt := 39) C dX4_isWith_32 (by decide) (fun c_3 => ?_) (fun c_3 => ?_)
      · skip
        exact absurd c_3 (by decide)
      · skip
        refine j_iconst (v := 1) C dX4_isWith_35 rfl ?_
        refine j_goto (tgt := 40) C dX4_isWith_36 (by decide) ?_
        exact j_zretR (v := 1) C hr dX4_isWith_40 rfl (by rfl)
    · skip
      exact absurd c_2 (by decide)
  · skip
    exact absurd c_1 (by decide)
set_option maxHeartbeats 4000000 in
set_option maxRecDepth 100000 in
theorem c_X4_isWith_4 (l : Launch) (g : jG) (q ca n : Nat) (f : Nat → Int32) (j w : Int32) (hw : ¬ w = 0) : jRi l yX4_isWith wsX4_isWith ({ frames := 0, cells := 0, slots := 0, locals := 0 }) g [.ref q, .int 4, .int j, .int w] [(q, .inr (1, [.ref ca, .int (nI n)])), (ca, jaI g 224 f)] (jb false) := by
  refine j_enterR (cc := cX4_isWith) (maxL := 4) (ret := (some .boolean)) (own := RX4) (L := [(0, .ref q), (1, .int 4), (2, .int j), (3, .int w)]) (by decide) rfl rfl (Nat.le_of_ble_eq_true rfl) rfl (fun p e s m args below meth c C hr => ?_)
  refine j_iload_n 1 C dX4_isWith_0 rfl rfl ?_
  refine j_iconst (v := 1) C dX4_isWith_1 rfl ?_
  refine j_icmp_ne (tgt := 18) C dX4_isWith_2 (by decide) (fun c_1 => ?_) (fun c_1 => ?_)
  · skip
    refine j_iload_n 1 C dX4_isWith_18 rfl rfl ?_
    refine j_iconst (v := 2) C dX4_isWith_19 rfl ?_
    refine j_icmp_ne (tgt := 31) C dX4_isWith_20 (by decide) (fun c_2 => ?_) (fun c_2 => ?_)
    · skip
      refine j_iload_n 3 C dX4_isWith_31 rfl rfl ?_
      refine j_if_ne (tgt := 39) C dX4_isWith_32 (by decide) (fun c_3 => ?_) (fun c_3 => ?_)
      · skip
        refine j_iconst (v := 0) C dX4_isWith_39 rfl ?_
        exact j_zretR (v := 0) C hr dX4_isWith_40 rfl (by rfl)
      · skip
        (first | exact absurd c_3 (by decide) | exact absurd c_3 (by omega) | simp_all)
    · skip
      exact absurd c_2 (by decide)
  · skip
    exact absurd c_1 (by decide)
set_option maxHeartbeats 4000000 in
set_option maxRecDepth 100000 in
theorem c_X4_isWith_4z (l : Launch) (g : jG) (q ca n : Nat) (f : Nat → Int32) (j : Int32)  : jRi l yX4_isWith wsX4_isWith ({ frames := 0, cells := 0, slots := 0, locals := 0 }) g [.ref q, .int 4, .int j, .int 0] [(q, .inr (1, [.ref ca, .int (nI n)])), (ca, jaI g 224 f)] (jb true) := by
  refine j_enterR (cc := cX4_isWith) (maxL := 4) (ret := (some .boolean)) (own := RX4) (L := [(0, .ref q), (1, .int 4), (2, .int j), (3, .int 0)]) (by decide) rfl rfl (Nat.le_of_ble_eq_true rfl) rfl (fun p e s m args below meth c C hr => ?_)
  refine j_iload_n 1 C dX4_isWith_0 rfl rfl ?_
  refine j_iconst (v := 1) C dX4_isWith_1 rfl ?_
  refine j_icmp_ne (tgt := 18) C dX4_isWith_2 (by decide) (fun c_1 => ?_) (fun c_1 => ?_)
  · skip
    refine j_iload_n 1 C dX4_isWith_18 rfl rfl ?_
    refine j_iconst (v := 2) C dX4_isWith_19 rfl ?_
    refine j_icmp_ne (tgt := 31) C dX4_isWith_20 (by decide) (fun c_2 => ?_) (fun c_2 => ?_)
    · skip
      refine j_iload_n 3 C dX4_isWith_31 rfl rfl ?_
      refine j_if_ne (tgt := 39) C dX4_isWith_32 (by decide) (fun c_3 => ?_) (fun c_3 => ?_)
      · skip
        exact absurd c_3 (by decide)
      · skip
        refine j_iconst (v := 1) C dX4_isWith_35 rfl ?_
        refine j_goto (tgt := 40) C dX4_isWith_36 (by decide) ?_
        exact j_zretR (v := 1) C hr dX4_isWith_40 rfl (by rfl)
    · skip
      exact absurd c_2 (by decide)
  · skip
    exact absurd c_1 (by decide)
set_option maxHeartbeats 4000000 in
set_option maxRecDepth 100000 in
theorem c_X4_isWith_5 (l : Launch) (g : jG) (q ca n : Nat) (f : Nat → Int32) (j w : Int32) (hw : ¬ w = 0) : jRi l yX4_isWith wsX4_isWith ({ frames := 0, cells := 0, slots := 0, locals := 0 }) g [.ref q, .int 5, .int j, .int w] [(q, .inr (1, [.ref ca, .int (nI n)])), (ca, jaI g 224 f)] (jb false) := by
  refine j_enterR (cc := cX4_isWith) (maxL := 4) (ret := (some .boolean)) (own := RX4) (L := [(0, .ref q), (1, .int 5), (2, .int j), (3, .int w)]) (by decide) rfl rfl (Nat.le_of_ble_eq_true rfl) rfl (fun p e s m args below meth c C hr => ?_)
  refine j_iload_n 1 C dX4_isWith_0 rfl rfl ?_
  refine j_iconst (v := 1) C dX4_isWith_1 rfl ?_
  refine j_icmp_ne (tgt := 18) C dX4_isWith_2 (by decide) (fun c_1 => ?_) (fun c_1 => ?_)
  · skip
    refine j_iload_n 1 C dX4_isWith_18 rfl rfl ?_
    refine j_iconst (v := 2) C dX4_isWith_19 rfl ?_
    refine j_icmp_ne (tgt := 31) C dX4_isWith_20 (by decide) (fun c_2 => ?_) (fun c_2 => ?_)
    · skip
      refine j_iload_n 3 C dX4_isWith_31 rfl rfl ?_
      refine j_if_ne (tgt := 39) C dX4_isWith_32 (by decide) (fun c_3 => ?_) (fun c_3 => ?_)
      · skip
        refine j_iconst (v := 0) C dX4_isWith_39 rfl ?_
        exact j_zretR (v := 0) C hr dX4_isWith_40 rfl (by rfl)
      · skip
        (first | exact absurd c_3 (by decide) | exact absurd c_3 (by omega) | simp_all)
    · skip
      exact absurd c_2 (by decide)
  · skip
    exact absurd c_1 (by decide)
set_option maxHeartbeats 4000000 in
set_option maxRecDepth 100000 in
theorem c_X4_isWith_5z (l : Launch) (g : jG) (q ca n : Nat) (f : Nat → Int32) (j : Int32)  : jRi l yX4_isWith wsX4_isWith ({ frames := 0, cells := 0, slots := 0, locals := 0 }) g [.ref q, .int 5, .int j, .int 0] [(q, .inr (1, [.ref ca, .int (nI n)])), (ca, jaI g 224 f)] (jb true) := by
  refine j_enterR (cc := cX4_isWith) (maxL := 4) (ret := (some .boolean)) (own := RX4) (L := [(0, .ref q), (1, .int 5), (2, .int j), (3, .int 0)]) (by decide) rfl rfl (Nat.le_of_ble_eq_true rfl) rfl (fun p e s m args below meth c C hr => ?_)
  refine j_iload_n 1 C dX4_isWith_0 rfl rfl ?_
  refine j_iconst (v := 1) C dX4_isWith_1 rfl ?_
  refine j_icmp_ne (tgt := 18) C dX4_isWith_2 (by decide) (fun c_1 => ?_) (fun c_1 => ?_)
  · skip
    refine j_iload_n 1 C dX4_isWith_18 rfl rfl ?_
    refine j_iconst (v := 2) C dX4_isWith_19 rfl ?_
    refine j_icmp_ne (tgt := 31) C dX4_isWith_20 (by decide) (fun c_2 => ?_) (fun c_2 => ?_)
    · skip
      refine j_iload_n 3 C dX4_isWith_31 rfl rfl ?_
      refine j_if_ne (tgt := 39) C dX4_isWith_32 (by decide) (fun c_3 => ?_) (fun c_3 => ?_)
      · skip
        exact absurd c_3 (by decide)
      · skip
        refine j_iconst (v := 1) C dX4_isWith_35 rfl ?_
        refine j_goto (tgt := 40) C dX4_isWith_36 (by decide) ?_
        exact j_zretR (v := 1) C hr dX4_isWith_40 rfl (by rfl)
    · skip
      exact absurd c_2 (by decide)
  · skip
    exact absurd c_1 (by decide)
set_option maxHeartbeats 4000000 in
set_option maxRecDepth 100000 in
theorem c_X4_refuseOtherChanges_0 (l : Launch) (g : jG) (q ca n : Nat) (f : Nat → Int32) (j a b : Nat) (hj : j + 1 < n) (hn : n ≤ 8) (ha : f (j * 28 + 3) = nI a) (ha6 : a ≤ 6) (hb : f ((j + 1) * 28 + 3) = nI b) (hb6 : b ≤ 6) : jWv l yX4_refuseOtherChanges wsX4_refuseOtherChanges ({ frames := 8, cells := 0, slots := 0, locals := 200 }) g [.ref q, .int 0, .int (nI j), .int 0] [(q, .inr (1, [.ref ca, .int (nI n)])), (ca, jaI g 224 f)] [(q, .inr (1, [.ref ca, .int (nI n)])), (ca, jaI g 224 f)] := by
  refine j_enterW (Qc := fun sz_ => va_Qv (fun (_ : Unit) => True) (fun _ t => va_P g.1 vwCl [(q, .inr (1, [.ref ca, .int (nI n)])), (ca, jaI g 224 f)] t.heap) (va_A [(q, .inr (1, [.ref ca, .int (nI n)])), (ca, jaI g 224 f)] sz_)) (cc := cX4_refuseOtherChanges) (maxL := 4) (ret := none) (own := RX4) (L := [(0, .ref q), (1, .int 0), (2, .int (nI j)), (3, .int 0)]) (by decide) rfl rfl (Nat.le_of_ble_eq_true rfl) rfl (fun p e s m args below meth c C hr => ?_)
  refine j_iload_n 1 C dX4_refuseOtherChanges_0 rfl rfl ?_
  refine j_iconst (v := 0) C dX4_refuseOtherChanges_1 rfl ?_
  refine j_iconst (v := 5) C dX4_refuseOtherChanges_2 rfl ?_
  refine j_callRi (v := jb (jBt 0 0 5)) (j_runS (As := [.int 0, .int 0, .int 5]) (rest := []) [] C (c_X4_isBetween l g 0 0 5) gX4_refuseOtherChanges_X4_isBetween rfl rfl rfl hd_X4_isBetween ⟨Nat.le_of_ble_eq_true rfl, Nat.le_of_ble_eq_true rfl⟩ rfl rfl dX4_refuseOtherChanges_3 rfl (Nat.le_of_ble_eq_true rfl) ⟨Nat.le_of_ble_eq_true rfl, Nat.le_of_ble_eq_true rfl⟩) ?_
  refine j_eq (pc' := 6) (L' := [(0, .ref q), (1, .int 0), (2, .int (nI j)), (3, .int 0)]) (st' := [.int (jb true)]) (ws' := [(q, .inr (1, [.ref ca, .int (nI n)])), (ca, jaI g 224 f)]) ?_ rfl rfl (by rw [(show jBt 0 0 5 = true by decide)]) rfl
  refine j_if_ne (tgt := 19) C dX4_refuseOtherChanges_6 (by decide) (fun c_1 => ?_) (fun c_1 => ?_)
  · skip
    have c_1 : true = true := jb_1 c_1
    refine j_iload_n 2 C dX4_refuseOtherChanges_19 rfl rfl ?_
    refine j_iconst (v := 0) C dX4_refuseOtherChanges_20 rfl ?_
    refine j_aload_n 0 C dX4_refuseOtherChanges_21 rfl rfl ?_
    refine j_iload_n 1 C dX4_refuseOtherChanges_22 rfl rfl ?_
    refine j_callRi (v := nI n - 2) (j_runS (As := [.ref q, .int 0]) (rest := [.int 0, .int (nI j)]) [0, 1] C (c_X4_lastLoopFor_0 l g q ca n f) gX4_refuseOtherChanges_X4_lastLoopFor rfl rfl rfl hd_X4_lastLoopFor ⟨Nat.le_of_ble_eq_true rfl, Nat.le_of_ble_eq_true rfl⟩ rfl rfl dX4_refuseOtherChanges_23 rfl (Nat.le_of_ble_eq_true rfl) ⟨Nat.le_of_ble_eq_true rfl, Nat.le_of_ble_eq_true rfl⟩) ?_
    refine j_callRi (v := jb (jBt (nI j) 0 (nI n - 2))) (j_runS (As := [.int (nI j), .int 0, .int (nI n - 2)]) (rest := []) [] C (c_X4_isBetween l g (nI j) 0 (nI n - 2)) gX4_refuseOtherChanges_X4_isBetween rfl rfl rfl hd_X4_isBetween ⟨Nat.le_of_ble_eq_true rfl, Nat.le_of_ble_eq_true rfl⟩ rfl rfl dX4_refuseOtherChanges_26 rfl (Nat.le_of_ble_eq_true rfl) ⟨Nat.le_of_ble_eq_true rfl, Nat.le_of_ble_eq_true rfl⟩) ?_
    refine j_eq (pc' := 29) (L' := [(0, .ref q), (1, .int 0), (2, .int (nI j)), (3, .int 0)]) (st' := [.int (jb true)]) (ws' := [(q, .inr (1, [.ref ca, .int (nI n)])), (ca, jaI g 224 f)]) ?_ rfl rfl (by rw [jBt_n2 hj (by omega)]) rfl
    refine j_if_ne (tgt := 42) C dX4_refuseOtherChanges_29 (by decide) (fun c_2 => ?_) (fun c_2 => ?_)
    · skip
      have c_2 : true = true := jb_1 c_2
      refine j_aload_n 0 C dX4_refuseOtherChanges_42 rfl rfl ?_
      refine j_iload_n 1 C dX4_refuseOtherChanges_43 rfl rfl ?_
      refine j_iload_n 2 C dX4_refuseOtherChanges_44 rfl rfl ?_
      refine j_iload_n 3 C dX4_refuseOtherChanges_45 rfl rfl ?_
      refine j_callRi (v := jb true) (j_runS (As := [.ref q, .int 0, .int (nI j), .int 0]) (rest := []) [0, 1] C (c_X4_isWith_0z l g q ca n f (nI j)) gX4_refuseOtherChanges_X4_isWith rfl rfl rfl hd_X4_isWith ⟨Nat.le_of_ble_eq_true rfl, Nat.le_of_ble_eq_true rfl⟩ rfl rfl dX4_refuseOtherChanges_46 rfl (Nat.le_of_ble_eq_true rfl) ⟨Nat.le_of_ble_eq_true rfl, Nat.le_of_ble_eq_true rfl⟩) ?_
      refine j_if_ne (tgt := 62) C dX4_refuseOtherChanges_49 (by decide) (fun c_3 => ?_) (fun c_3 => ?_)
      · skip
        have c_3 : true = true := jb_1 c_3
        exact j_vretW C hr dX4_refuseOtherChanges_62 () trivial rfl
      · skip
        have c_3 : true = false := jb_0 c_3
        (first | exact absurd c_3 (by decide) | exact absurd c_3 (by omega) | simp_all)
    · skip
      have c_2 : true = false := jb_0 c_2
      (first | exact absurd c_2 (by decide) | exact absurd c_2 (by omega) | simp_all)
  · skip
    have c_1 : true = false := jb_0 c_1
    (first | exact absurd c_1 (by decide) | exact absurd c_1 (by omega) | simp_all)
set_option maxHeartbeats 4000000 in
set_option maxRecDepth 100000 in
theorem c_X4_refuseOtherChanges_1 (l : Launch) (g : jG) (q ca n : Nat) (f : Nat → Int32) (j i a : Nat) (hj : j < n) (hn : n ≤ 8) (ha : f (j * 28 + 3) = nI a) (ha6 : a ≤ 6) (hi1 : 1 ≤ i) (hi : i < a) : jWv l yX4_refuseOtherChanges wsX4_refuseOtherChanges ({ frames := 8, cells := 0, slots := 0, locals := 200 }) g [.ref q, .int 1, .int (nI j), .int (nI i)] [(q, .inr (1, [.ref ca, .int (nI n)])), (ca, jaI g 224 f)] [(q, .inr (1, [.ref ca, .int (nI n)])), (ca, jaI g 224 f)] := by
  refine j_enterW (Qc := fun sz_ => va_Qv (fun (_ : Unit) => True) (fun _ t => va_P g.1 vwCl [(q, .inr (1, [.ref ca, .int (nI n)])), (ca, jaI g 224 f)] t.heap) (va_A [(q, .inr (1, [.ref ca, .int (nI n)])), (ca, jaI g 224 f)] sz_)) (cc := cX4_refuseOtherChanges) (maxL := 4) (ret := none) (own := RX4) (L := [(0, .ref q), (1, .int 1), (2, .int (nI j)), (3, .int (nI i))]) (by decide) rfl rfl (Nat.le_of_ble_eq_true rfl) rfl (fun p e s m args below meth c C hr => ?_)
  refine j_iload_n 1 C dX4_refuseOtherChanges_0 rfl rfl ?_
  refine j_iconst (v := 0) C dX4_refuseOtherChanges_1 rfl ?_
  refine j_iconst (v := 5) C dX4_refuseOtherChanges_2 rfl ?_
  refine j_callRi (v := jb (jBt 1 0 5)) (j_runS (As := [.int 1, .int 0, .int 5]) (rest := []) [] C (c_X4_isBetween l g 1 0 5) gX4_refuseOtherChanges_X4_isBetween rfl rfl rfl hd_X4_isBetween ⟨Nat.le_of_ble_eq_true rfl, Nat.le_of_ble_eq_true rfl⟩ rfl rfl dX4_refuseOtherChanges_3 rfl (Nat.le_of_ble_eq_true rfl) ⟨Nat.le_of_ble_eq_true rfl, Nat.le_of_ble_eq_true rfl⟩) ?_
  refine j_eq (pc' := 6) (L' := [(0, .ref q), (1, .int 1), (2, .int (nI j)), (3, .int (nI i))]) (st' := [.int (jb true)]) (ws' := [(q, .inr (1, [.ref ca, .int (nI n)])), (ca, jaI g 224 f)]) ?_ rfl rfl (by rw [(show jBt 1 0 5 = true by decide)]) rfl
  refine j_if_ne (tgt := 19) C dX4_refuseOtherChanges_6 (by decide) (fun c_1 => ?_) (fun c_1 => ?_)
  · skip
    have c_1 : true = true := jb_1 c_1
    refine j_iload_n 2 C dX4_refuseOtherChanges_19 rfl rfl ?_
    refine j_iconst (v := 0) C dX4_refuseOtherChanges_20 rfl ?_
    refine j_aload_n 0 C dX4_refuseOtherChanges_21 rfl rfl ?_
    refine j_iload_n 1 C dX4_refuseOtherChanges_22 rfl rfl ?_
    refine j_callRi (v := nI n - 1) (j_runS (As := [.ref q, .int 1]) (rest := [.int 0, .int (nI j)]) [0, 1] C (c_X4_lastLoopFor_1 l g q ca n f) gX4_refuseOtherChanges_X4_lastLoopFor rfl rfl rfl hd_X4_lastLoopFor ⟨Nat.le_of_ble_eq_true rfl, Nat.le_of_ble_eq_true rfl⟩ rfl rfl dX4_refuseOtherChanges_23 rfl (Nat.le_of_ble_eq_true rfl) ⟨Nat.le_of_ble_eq_true rfl, Nat.le_of_ble_eq_true rfl⟩) ?_
    refine j_callRi (v := jb (jBt (nI j) 0 (nI n - 1))) (j_runS (As := [.int (nI j), .int 0, .int (nI n - 1)]) (rest := []) [] C (c_X4_isBetween l g (nI j) 0 (nI n - 1)) gX4_refuseOtherChanges_X4_isBetween rfl rfl rfl hd_X4_isBetween ⟨Nat.le_of_ble_eq_true rfl, Nat.le_of_ble_eq_true rfl⟩ rfl rfl dX4_refuseOtherChanges_26 rfl (Nat.le_of_ble_eq_true rfl) ⟨Nat.le_of_ble_eq_true rfl, Nat.le_of_ble_eq_true rfl⟩) ?_
    refine j_eq (pc' := 29) (L' := [(0, .ref q), (1, .int 1), (2, .int (nI j)), (3, .int (nI i))]) (st' := [.int (jb true)]) (ws' := [(q, .inr (1, [.ref ca, .int (nI n)])), (ca, jaI g 224 f)]) ?_ rfl rfl (by rw [jBt_n hj (by omega)]) rfl
    refine j_if_ne (tgt := 42) C dX4_refuseOtherChanges_29 (by decide) (fun c_2 => ?_) (fun c_2 => ?_)
    · skip
      have c_2 : true = true := jb_1 c_2
      refine j_aload_n 0 C dX4_refuseOtherChanges_42 rfl rfl ?_
      refine j_iload_n 1 C dX4_refuseOtherChanges_43 rfl rfl ?_
      refine j_iload_n 2 C dX4_refuseOtherChanges_44 rfl rfl ?_
      refine j_iload_n 3 C dX4_refuseOtherChanges_45 rfl rfl ?_
      refine j_callRi (v := jb (jBt (nI i) 1 (nI a - 1))) (j_runS (As := [.ref q, .int 1, .int (nI j), .int (nI i)]) (rest := []) [0, 1] C (c_X4_isWith_1 l g q ca n f j a (nI i) (by omega) ha (by omega)) gX4_refuseOtherChanges_X4_isWith rfl rfl rfl hd_X4_isWith ⟨Nat.le_of_ble_eq_true rfl, Nat.le_of_ble_eq_true rfl⟩ rfl rfl dX4_refuseOtherChanges_46 rfl (Nat.le_of_ble_eq_true rfl) ⟨Nat.le_of_ble_eq_true rfl, Nat.le_of_ble_eq_true rfl⟩) ?_
      refine j_eq (pc' := 49) (L' := [(0, .ref q), (1, .int 1), (2, .int (nI j)), (3, .int (nI i))]) (st' := [.int (jb true)]) (ws' := [(q, .inr (1, [.ref ca, .int (nI n)])), (ca, jaI g 224 f)]) ?_ rfl rfl (by rw [jBt_1 hi1 hi (by omega)]) rfl
      refine j_if_ne (tgt := 62) C dX4_refuseOtherChanges_49 (by decide) (fun c_3 => ?_) (fun c_3 => ?_)
      · skip
        have c_3 : true = true := jb_1 c_3
        exact j_vretW C hr dX4_refuseOtherChanges_62 () trivial rfl
      · skip
        have c_3 : true = false := jb_0 c_3
        (first | exact absurd c_3 (by decide) | exact absurd c_3 (by omega) | simp_all)
    · skip
      have c_2 : true = false := jb_0 c_2
      (first | exact absurd c_2 (by decide) | exact absurd c_2 (by omega) | simp_all)
  · skip
    have c_1 : true = false := jb_0 c_1
    (first | exact absurd c_1 (by decide) | exact absurd c_1 (by omega) | simp_all)
set_option maxHeartbeats 4000000 in
set_option maxRecDepth 100000 in
theorem c_X4_refuseOtherChanges_2 (l : Launch) (g : jG) (q ca n : Nat) (f : Nat → Int32) (j w a v u : Nat) (hj : j < n) (hn : n ≤ 8) (ha : f (j * 28 + 3) = nI a) (ha6 : a ≤ 6) (hw1 : 1 ≤ w) (hw2 : w ≤ 10) (hv : f (j * 28 + 0) = nI v) (hv5 : v ≤ 5) (hu : f (j * 28 + 1) = nI u) (hu5 : u ≤ 5) : jWv l yX4_refuseOtherChanges wsX4_refuseOtherChanges ({ frames := 8, cells := 0, slots := 0, locals := 200 }) g [.ref q, .int 2, .int (nI j), .int (nI w)] [(q, .inr (1, [.ref ca, .int (nI n)])), (ca, jaI g 224 f)] [(q, .inr (1, [.ref ca, .int (nI n)])), (ca, jaI g 224 f)] := by
  refine j_enterW (Qc := fun sz_ => va_Qv (fun (_ : Unit) => True) (fun _ t => va_P g.1 vwCl [(q, .inr (1, [.ref ca, .int (nI n)])), (ca, jaI g 224 f)] t.heap) (va_A [(q, .inr (1, [.ref ca, .int (nI n)])), (ca, jaI g 224 f)] sz_)) (cc := cX4_refuseOtherChanges) (maxL := 4) (ret := none) (own := RX4) (L := [(0, .ref q), (1, .int 2), (2, .int (nI j)), (3, .int (nI w))]) (by decide) rfl rfl (Nat.le_of_ble_eq_true rfl) rfl (fun p e s m args below meth c C hr => ?_)
  refine j_iload_n 1 C dX4_refuseOtherChanges_0 rfl rfl ?_
  refine j_iconst (v := 0) C dX4_refuseOtherChanges_1 rfl ?_
  refine j_iconst (v := 5) C dX4_refuseOtherChanges_2 rfl ?_
  refine j_callRi (v := jb (jBt 2 0 5)) (j_runS (As := [.int 2, .int 0, .int 5]) (rest := []) [] C (c_X4_isBetween l g 2 0 5) gX4_refuseOtherChanges_X4_isBetween rfl rfl rfl hd_X4_isBetween ⟨Nat.le_of_ble_eq_true rfl, Nat.le_of_ble_eq_true rfl⟩ rfl rfl dX4_refuseOtherChanges_3 rfl (Nat.le_of_ble_eq_true rfl) ⟨Nat.le_of_ble_eq_true rfl, Nat.le_of_ble_eq_true rfl⟩) ?_
  refine j_eq (pc' := 6) (L' := [(0, .ref q), (1, .int 2), (2, .int (nI j)), (3, .int (nI w))]) (st' := [.int (jb true)]) (ws' := [(q, .inr (1, [.ref ca, .int (nI n)])), (ca, jaI g 224 f)]) ?_ rfl rfl (by rw [(show jBt 2 0 5 = true by decide)]) rfl
  refine j_if_ne (tgt := 19) C dX4_refuseOtherChanges_6 (by decide) (fun c_1 => ?_) (fun c_1 => ?_)
  · skip
    have c_1 : true = true := jb_1 c_1
    refine j_iload_n 2 C dX4_refuseOtherChanges_19 rfl rfl ?_
    refine j_iconst (v := 0) C dX4_refuseOtherChanges_20 rfl ?_
    refine j_aload_n 0 C dX4_refuseOtherChanges_21 rfl rfl ?_
    refine j_iload_n 1 C dX4_refuseOtherChanges_22 rfl rfl ?_
    refine j_callRi (v := nI n - 1) (j_runS (As := [.ref q, .int 2]) (rest := [.int 0, .int (nI j)]) [0, 1] C (c_X4_lastLoopFor_2 l g q ca n f) gX4_refuseOtherChanges_X4_lastLoopFor rfl rfl rfl hd_X4_lastLoopFor ⟨Nat.le_of_ble_eq_true rfl, Nat.le_of_ble_eq_true rfl⟩ rfl rfl dX4_refuseOtherChanges_23 rfl (Nat.le_of_ble_eq_true rfl) ⟨Nat.le_of_ble_eq_true rfl, Nat.le_of_ble_eq_true rfl⟩) ?_
    refine j_callRi (v := jb (jBt (nI j) 0 (nI n - 1))) (j_runS (As := [.int (nI j), .int 0, .int (nI n - 1)]) (rest := []) [] C (c_X4_isBetween l g (nI j) 0 (nI n - 1)) gX4_refuseOtherChanges_X4_isBetween rfl rfl rfl hd_X4_isBetween ⟨Nat.le_of_ble_eq_true rfl, Nat.le_of_ble_eq_true rfl⟩ rfl rfl dX4_refuseOtherChanges_26 rfl (Nat.le_of_ble_eq_true rfl) ⟨Nat.le_of_ble_eq_true rfl, Nat.le_of_ble_eq_true rfl⟩) ?_
    refine j_eq (pc' := 29) (L' := [(0, .ref q), (1, .int 2), (2, .int (nI j)), (3, .int (nI w))]) (st' := [.int (jb true)]) (ws' := [(q, .inr (1, [.ref ca, .int (nI n)])), (ca, jaI g 224 f)]) ?_ rfl rfl (by rw [jBt_n hj (by omega)]) rfl
    refine j_if_ne (tgt := 42) C dX4_refuseOtherChanges_29 (by decide) (fun c_2 => ?_) (fun c_2 => ?_)
    · skip
      have c_2 : true = true := jb_1 c_2
      refine j_aload_n 0 C dX4_refuseOtherChanges_42 rfl rfl ?_
      refine j_iload_n 1 C dX4_refuseOtherChanges_43 rfl rfl ?_
      refine j_iload_n 2 C dX4_refuseOtherChanges_44 rfl rfl ?_
      refine j_iload_n 3 C dX4_refuseOtherChanges_45 rfl rfl ?_
      refine j_callRi (v := jb (jBt (nI w) 1 10)) (j_runS (As := [.ref q, .int 2, .int (nI j), .int (nI w)]) (rest := []) [0, 1] C (c_X4_isWith_2 l g q ca n f (nI j) (nI w)) gX4_refuseOtherChanges_X4_isWith rfl rfl rfl hd_X4_isWith ⟨Nat.le_of_ble_eq_true rfl, Nat.le_of_ble_eq_true rfl⟩ rfl rfl dX4_refuseOtherChanges_46 rfl (Nat.le_of_ble_eq_true rfl) ⟨Nat.le_of_ble_eq_true rfl, Nat.le_of_ble_eq_true rfl⟩) ?_
      refine j_eq (pc' := 49) (L' := [(0, .ref q), (1, .int 2), (2, .int (nI j)), (3, .int (nI w))]) (st' := [.int (jb true)]) (ws' := [(q, .inr (1, [.ref ca, .int (nI n)])), (ca, jaI g 224 f)]) ?_ rfl rfl (by rw [(show jBt (nI w) 1 10 = true from jBt_2 (N := 10) hw1 hw2 (by omega))]) rfl
      refine j_if_ne (tgt := 62) C dX4_refuseOtherChanges_49 (by decide) (fun c_3 => ?_) (fun c_3 => ?_)
      · skip
        have c_3 : true = true := jb_1 c_3
        exact j_vretW C hr dX4_refuseOtherChanges_62 () trivial rfl
      · skip
        have c_3 : true = false := jb_0 c_3
        (first | exact absurd c_3 (by decide) | exact absurd c_3 (by omega) | simp_all)
    · skip
      have c_2 : true = false := jb_0 c_2
      (first | exact absurd c_2 (by decide) | exact absurd c_2 (by omega) | simp_all)
  · skip
    have c_1 : true = false := jb_0 c_1
    (first | exact absurd c_1 (by decide) | exact absurd c_1 (by omega) | simp_all)
set_option maxHeartbeats 4000000 in
set_option maxRecDepth 100000 in
theorem c_X4_refuseOtherChanges_3 (l : Launch) (g : jG) (q ca n : Nat) (f : Nat → Int32) (j a : Nat) (hj : j < n) (hn : n ≤ 8) (ha : f (j * 28 + 3) = nI a) (ha6 : a ≤ 6) : jWv l yX4_refuseOtherChanges wsX4_refuseOtherChanges ({ frames := 8, cells := 0, slots := 0, locals := 200 }) g [.ref q, .int 3, .int (nI j), .int 0] [(q, .inr (1, [.ref ca, .int (nI n)])), (ca, jaI g 224 f)] [(q, .inr (1, [.ref ca, .int (nI n)])), (ca, jaI g 224 f)] := by
  refine j_enterW (Qc := fun sz_ => va_Qv (fun (_ : Unit) => True) (fun _ t => va_P g.1 vwCl [(q, .inr (1, [.ref ca, .int (nI n)])), (ca, jaI g 224 f)] t.heap) (va_A [(q, .inr (1, [.ref ca, .int (nI n)])), (ca, jaI g 224 f)] sz_)) (cc := cX4_refuseOtherChanges) (maxL := 4) (ret := none) (own := RX4) (L := [(0, .ref q), (1, .int 3), (2, .int (nI j)), (3, .int 0)]) (by decide) rfl rfl (Nat.le_of_ble_eq_true rfl) rfl (fun p e s m args below meth c C hr => ?_)
  refine j_iload_n 1 C dX4_refuseOtherChanges_0 rfl rfl ?_
  refine j_iconst (v := 0) C dX4_refuseOtherChanges_1 rfl ?_
  refine j_iconst (v := 5) C dX4_refuseOtherChanges_2 rfl ?_
  refine j_callRi (v := jb (jBt 3 0 5)) (j_runS (As := [.int 3, .int 0, .int 5]) (rest := []) [] C (c_X4_isBetween l g 3 0 5) gX4_refuseOtherChanges_X4_isBetween rfl rfl rfl hd_X4_isBetween ⟨Nat.le_of_ble_eq_true rfl, Nat.le_of_ble_eq_true rfl⟩ rfl rfl dX4_refuseOtherChanges_3 rfl (Nat.le_of_ble_eq_true rfl) ⟨Nat.le_of_ble_eq_true rfl, Nat.le_of_ble_eq_true rfl⟩) ?_
  refine j_eq (pc' := 6) (L' := [(0, .ref q), (1, .int 3), (2, .int (nI j)), (3, .int 0)]) (st' := [.int (jb true)]) (ws' := [(q, .inr (1, [.ref ca, .int (nI n)])), (ca, jaI g 224 f)]) ?_ rfl rfl (by rw [(show jBt 3 0 5 = true by decide)]) rfl
  refine j_if_ne (tgt := 19) C dX4_refuseOtherChanges_6 (by decide) (fun c_1 => ?_) (fun c_1 => ?_)
  · skip
    have c_1 : true = true := jb_1 c_1
    refine j_iload_n 2 C dX4_refuseOtherChanges_19 rfl rfl ?_
    refine j_iconst (v := 0) C dX4_refuseOtherChanges_20 rfl ?_
    refine j_aload_n 0 C dX4_refuseOtherChanges_21 rfl rfl ?_
    refine j_iload_n 1 C dX4_refuseOtherChanges_22 rfl rfl ?_
    refine j_callRi (v := nI n - 1) (j_runS (As := [.ref q, .int 3]) (rest := [.int 0, .int (nI j)]) [0, 1] C (c_X4_lastLoopFor_3 l g q ca n f) gX4_refuseOtherChanges_X4_lastLoopFor rfl rfl rfl hd_X4_lastLoopFor ⟨Nat.le_of_ble_eq_true rfl, Nat.le_of_ble_eq_true rfl⟩ rfl rfl dX4_refuseOtherChanges_23 rfl (Nat.le_of_ble_eq_true rfl) ⟨Nat.le_of_ble_eq_true rfl, Nat.le_of_ble_eq_true rfl⟩) ?_
    refine j_callRi (v := jb (jBt (nI j) 0 (nI n - 1))) (j_runS (As := [.int (nI j), .int 0, .int (nI n - 1)]) (rest := []) [] C (c_X4_isBetween l g (nI j) 0 (nI n - 1)) gX4_refuseOtherChanges_X4_isBetween rfl rfl rfl hd_X4_isBetween ⟨Nat.le_of_ble_eq_true rfl, Nat.le_of_ble_eq_true rfl⟩ rfl rfl dX4_refuseOtherChanges_26 rfl (Nat.le_of_ble_eq_true rfl) ⟨Nat.le_of_ble_eq_true rfl, Nat.le_of_ble_eq_true rfl⟩) ?_
    refine j_eq (pc' := 29) (L' := [(0, .ref q), (1, .int 3), (2, .int (nI j)), (3, .int 0)]) (st' := [.int (jb true)]) (ws' := [(q, .inr (1, [.ref ca, .int (nI n)])), (ca, jaI g 224 f)]) ?_ rfl rfl (by rw [jBt_n hj (by omega)]) rfl
    refine j_if_ne (tgt := 42) C dX4_refuseOtherChanges_29 (by decide) (fun c_2 => ?_) (fun c_2 => ?_)
    · skip
      have c_2 : true = true := jb_1 c_2
      refine j_aload_n 0 C dX4_refuseOtherChanges_42 rfl rfl ?_
      refine j_iload_n 1 C dX4_refuseOtherChanges_43 rfl rfl ?_
      refine j_iload_n 2 C dX4_refuseOtherChanges_44 rfl rfl ?_
      refine j_iload_n 3 C dX4_refuseOtherChanges_45 rfl rfl ?_
      refine j_callRi (v := jb true) (j_runS (As := [.ref q, .int 3, .int (nI j), .int 0]) (rest := []) [0, 1] C (c_X4_isWith_3z l g q ca n f (nI j)) gX4_refuseOtherChanges_X4_isWith rfl rfl rfl hd_X4_isWith ⟨Nat.le_of_ble_eq_true rfl, Nat.le_of_ble_eq_true rfl⟩ rfl rfl dX4_refuseOtherChanges_46 rfl (Nat.le_of_ble_eq_true rfl) ⟨Nat.le_of_ble_eq_true rfl, Nat.le_of_ble_eq_true rfl⟩) ?_
      refine j_if_ne (tgt := 62) C dX4_refuseOtherChanges_49 (by decide) (fun c_3 => ?_) (fun c_3 => ?_)
      · skip
        have c_3 : true = true := jb_1 c_3
        exact j_vretW C hr dX4_refuseOtherChanges_62 () trivial rfl
      · skip
        have c_3 : true = false := jb_0 c_3
        (first | exact absurd c_3 (by decide) | exact absurd c_3 (by omega) | simp_all)
    · skip
      have c_2 : true = false := jb_0 c_2
      (first | exact absurd c_2 (by decide) | exact absurd c_2 (by omega) | simp_all)
  · skip
    have c_1 : true = false := jb_0 c_1
    (first | exact absurd c_1 (by decide) | exact absurd c_1 (by omega) | simp_all)
set_option maxHeartbeats 4000000 in
set_option maxRecDepth 100000 in
theorem c_X4_refuseOtherChanges_4 (l : Launch) (g : jG) (q ca n : Nat) (f : Nat → Int32) (j a b : Nat) (hj : j + 1 < n) (hn : n ≤ 8) (ha : f (j * 28 + 3) = nI a) (ha6 : a ≤ 6) (hb : f ((j + 1) * 28 + 3) = nI b) (hb6 : b ≤ 6) : jWv l yX4_refuseOtherChanges wsX4_refuseOtherChanges ({ frames := 8, cells := 0, slots := 0, locals := 200 }) g [.ref q, .int 4, .int (nI j), .int 0] [(q, .inr (1, [.ref ca, .int (nI n)])), (ca, jaI g 224 f)] [(q, .inr (1, [.ref ca, .int (nI n)])), (ca, jaI g 224 f)] := by
  refine j_enterW (Qc := fun sz_ => va_Qv (fun (_ : Unit) => True) (fun _ t => va_P g.1 vwCl [(q, .inr (1, [.ref ca, .int (nI n)])), (ca, jaI g 224 f)] t.heap) (va_A [(q, .inr (1, [.ref ca, .int (nI n)])), (ca, jaI g 224 f)] sz_)) (cc := cX4_refuseOtherChanges) (maxL := 4) (ret := none) (own := RX4) (L := [(0, .ref q), (1, .int 4), (2, .int (nI j)), (3, .int 0)]) (by decide) rfl rfl (Nat.le_of_ble_eq_true rfl) rfl (fun p e s m args below meth c C hr => ?_)
  refine j_iload_n 1 C dX4_refuseOtherChanges_0 rfl rfl ?_
  refine j_iconst (v := 0) C dX4_refuseOtherChanges_1 rfl ?_
  refine j_iconst (v := 5) C dX4_refuseOtherChanges_2 rfl ?_
  refine j_callRi (v := jb (jBt 4 0 5)) (j_runS (As := [.int 4, .int 0, .int 5]) (rest := []) [] C (c_X4_isBetween l g 4 0 5) gX4_refuseOtherChanges_X4_isBetween rfl rfl rfl hd_X4_isBetween ⟨Nat.le_of_ble_eq_true rfl, Nat.le_of_ble_eq_true rfl⟩ rfl rfl dX4_refuseOtherChanges_3 rfl (Nat.le_of_ble_eq_true rfl) ⟨Nat.le_of_ble_eq_true rfl, Nat.le_of_ble_eq_true rfl⟩) ?_
  refine j_eq (pc' := 6) (L' := [(0, .ref q), (1, .int 4), (2, .int (nI j)), (3, .int 0)]) (st' := [.int (jb true)]) (ws' := [(q, .inr (1, [.ref ca, .int (nI n)])), (ca, jaI g 224 f)]) ?_ rfl rfl (by rw [(show jBt 4 0 5 = true by decide)]) rfl
  refine j_if_ne (tgt := 19) C dX4_refuseOtherChanges_6 (by decide) (fun c_1 => ?_) (fun c_1 => ?_)
  · skip
    have c_1 : true = true := jb_1 c_1
    refine j_iload_n 2 C dX4_refuseOtherChanges_19 rfl rfl ?_
    refine j_iconst (v := 0) C dX4_refuseOtherChanges_20 rfl ?_
    refine j_aload_n 0 C dX4_refuseOtherChanges_21 rfl rfl ?_
    refine j_iload_n 1 C dX4_refuseOtherChanges_22 rfl rfl ?_
    refine j_callRi (v := nI n - 2) (j_runS (As := [.ref q, .int 4]) (rest := [.int 0, .int (nI j)]) [0, 1] C (c_X4_lastLoopFor_4 l g q ca n f) gX4_refuseOtherChanges_X4_lastLoopFor rfl rfl rfl hd_X4_lastLoopFor ⟨Nat.le_of_ble_eq_true rfl, Nat.le_of_ble_eq_true rfl⟩ rfl rfl dX4_refuseOtherChanges_23 rfl (Nat.le_of_ble_eq_true rfl) ⟨Nat.le_of_ble_eq_true rfl, Nat.le_of_ble_eq_true rfl⟩) ?_
    refine j_callRi (v := jb (jBt (nI j) 0 (nI n - 2))) (j_runS (As := [.int (nI j), .int 0, .int (nI n - 2)]) (rest := []) [] C (c_X4_isBetween l g (nI j) 0 (nI n - 2)) gX4_refuseOtherChanges_X4_isBetween rfl rfl rfl hd_X4_isBetween ⟨Nat.le_of_ble_eq_true rfl, Nat.le_of_ble_eq_true rfl⟩ rfl rfl dX4_refuseOtherChanges_26 rfl (Nat.le_of_ble_eq_true rfl) ⟨Nat.le_of_ble_eq_true rfl, Nat.le_of_ble_eq_true rfl⟩) ?_
    refine j_eq (pc' := 29) (L' := [(0, .ref q), (1, .int 4), (2, .int (nI j)), (3, .int 0)]) (st' := [.int (jb true)]) (ws' := [(q, .inr (1, [.ref ca, .int (nI n)])), (ca, jaI g 224 f)]) ?_ rfl rfl (by rw [jBt_n2 hj (by omega)]) rfl
    refine j_if_ne (tgt := 42) C dX4_refuseOtherChanges_29 (by decide) (fun c_2 => ?_) (fun c_2 => ?_)
    · skip
      have c_2 : true = true := jb_1 c_2
      refine j_aload_n 0 C dX4_refuseOtherChanges_42 rfl rfl ?_
      refine j_iload_n 1 C dX4_refuseOtherChanges_43 rfl rfl ?_
      refine j_iload_n 2 C dX4_refuseOtherChanges_44 rfl rfl ?_
      refine j_iload_n 3 C dX4_refuseOtherChanges_45 rfl rfl ?_
      refine j_callRi (v := jb true) (j_runS (As := [.ref q, .int 4, .int (nI j), .int 0]) (rest := []) [0, 1] C (c_X4_isWith_4z l g q ca n f (nI j)) gX4_refuseOtherChanges_X4_isWith rfl rfl rfl hd_X4_isWith ⟨Nat.le_of_ble_eq_true rfl, Nat.le_of_ble_eq_true rfl⟩ rfl rfl dX4_refuseOtherChanges_46 rfl (Nat.le_of_ble_eq_true rfl) ⟨Nat.le_of_ble_eq_true rfl, Nat.le_of_ble_eq_true rfl⟩) ?_
      refine j_if_ne (tgt := 62) C dX4_refuseOtherChanges_49 (by decide) (fun c_3 => ?_) (fun c_3 => ?_)
      · skip
        have c_3 : true = true := jb_1 c_3
        exact j_vretW C hr dX4_refuseOtherChanges_62 () trivial rfl
      · skip
        have c_3 : true = false := jb_0 c_3
        (first | exact absurd c_3 (by decide) | exact absurd c_3 (by omega) | simp_all)
    · skip
      have c_2 : true = false := jb_0 c_2
      (first | exact absurd c_2 (by decide) | exact absurd c_2 (by omega) | simp_all)
  · skip
    have c_1 : true = false := jb_0 c_1
    (first | exact absurd c_1 (by decide) | exact absurd c_1 (by omega) | simp_all)
set_option maxHeartbeats 4000000 in
set_option maxRecDepth 100000 in
theorem c_X4_refuseOtherChanges_5 (l : Launch) (g : jG) (q ca n : Nat) (f : Nat → Int32)  : jWv l yX4_refuseOtherChanges wsX4_refuseOtherChanges ({ frames := 8, cells := 0, slots := 0, locals := 200 }) g [.ref q, .int 5, .int 0, .int 0] [(q, .inr (1, [.ref ca, .int (nI n)])), (ca, jaI g 224 f)] [(q, .inr (1, [.ref ca, .int (nI n)])), (ca, jaI g 224 f)] := by
  refine j_enterW (Qc := fun sz_ => va_Qv (fun (_ : Unit) => True) (fun _ t => va_P g.1 vwCl [(q, .inr (1, [.ref ca, .int (nI n)])), (ca, jaI g 224 f)] t.heap) (va_A [(q, .inr (1, [.ref ca, .int (nI n)])), (ca, jaI g 224 f)] sz_)) (cc := cX4_refuseOtherChanges) (maxL := 4) (ret := none) (own := RX4) (L := [(0, .ref q), (1, .int 5), (2, .int 0), (3, .int 0)]) (by decide) rfl rfl (Nat.le_of_ble_eq_true rfl) rfl (fun p e s m args below meth c C hr => ?_)
  refine j_iload_n 1 C dX4_refuseOtherChanges_0 rfl rfl ?_
  refine j_iconst (v := 0) C dX4_refuseOtherChanges_1 rfl ?_
  refine j_iconst (v := 5) C dX4_refuseOtherChanges_2 rfl ?_
  refine j_callRi (v := jb (jBt 5 0 5)) (j_runS (As := [.int 5, .int 0, .int 5]) (rest := []) [] C (c_X4_isBetween l g 5 0 5) gX4_refuseOtherChanges_X4_isBetween rfl rfl rfl hd_X4_isBetween ⟨Nat.le_of_ble_eq_true rfl, Nat.le_of_ble_eq_true rfl⟩ rfl rfl dX4_refuseOtherChanges_3 rfl (Nat.le_of_ble_eq_true rfl) ⟨Nat.le_of_ble_eq_true rfl, Nat.le_of_ble_eq_true rfl⟩) ?_
  refine j_eq (pc' := 6) (L' := [(0, .ref q), (1, .int 5), (2, .int 0), (3, .int 0)]) (st' := [.int (jb true)]) (ws' := [(q, .inr (1, [.ref ca, .int (nI n)])), (ca, jaI g 224 f)]) ?_ rfl rfl (by rw [(show jBt 5 0 5 = true by decide)]) rfl
  refine j_if_ne (tgt := 19) C dX4_refuseOtherChanges_6 (by decide) (fun c_1 => ?_) (fun c_1 => ?_)
  · skip
    have c_1 : true = true := jb_1 c_1
    refine j_iload_n 2 C dX4_refuseOtherChanges_19 rfl rfl ?_
    refine j_iconst (v := 0) C dX4_refuseOtherChanges_20 rfl ?_
    refine j_aload_n 0 C dX4_refuseOtherChanges_21 rfl rfl ?_
    refine j_iload_n 1 C dX4_refuseOtherChanges_22 rfl rfl ?_
    refine j_callRi (v := 0) (j_runS (As := [.ref q, .int 5]) (rest := [.int 0, .int 0]) [0, 1] C (c_X4_lastLoopFor_5 l g q ca n f) gX4_refuseOtherChanges_X4_lastLoopFor rfl rfl rfl hd_X4_lastLoopFor ⟨Nat.le_of_ble_eq_true rfl, Nat.le_of_ble_eq_true rfl⟩ rfl rfl dX4_refuseOtherChanges_23 rfl (Nat.le_of_ble_eq_true rfl) ⟨Nat.le_of_ble_eq_true rfl, Nat.le_of_ble_eq_true rfl⟩) ?_
    refine j_callRi (v := jb (jBt 0 0 0)) (j_runS (As := [.int 0, .int 0, .int 0]) (rest := []) [] C (c_X4_isBetween l g 0 0 0) gX4_refuseOtherChanges_X4_isBetween rfl rfl rfl hd_X4_isBetween ⟨Nat.le_of_ble_eq_true rfl, Nat.le_of_ble_eq_true rfl⟩ rfl rfl dX4_refuseOtherChanges_26 rfl (Nat.le_of_ble_eq_true rfl) ⟨Nat.le_of_ble_eq_true rfl, Nat.le_of_ble_eq_true rfl⟩) ?_
    refine j_eq (pc' := 29) (L' := [(0, .ref q), (1, .int 5), (2, .int 0), (3, .int 0)]) (st' := [.int (jb true)]) (ws' := [(q, .inr (1, [.ref ca, .int (nI n)])), (ca, jaI g 224 f)]) ?_ rfl rfl (by rw [(show jBt 0 0 0 = true by decide)]) rfl
    refine j_if_ne (tgt := 42) C dX4_refuseOtherChanges_29 (by decide) (fun c_2 => ?_) (fun c_2 => ?_)
    · skip
      have c_2 : true = true := jb_1 c_2
      refine j_aload_n 0 C dX4_refuseOtherChanges_42 rfl rfl ?_
      refine j_iload_n 1 C dX4_refuseOtherChanges_43 rfl rfl ?_
      refine j_iload_n 2 C dX4_refuseOtherChanges_44 rfl rfl ?_
      refine j_iload_n 3 C dX4_refuseOtherChanges_45 rfl rfl ?_
      refine j_callRi (v := jb true) (j_runS (As := [.ref q, .int 5, .int 0, .int 0]) (rest := []) [0, 1] C (c_X4_isWith_5z l g q ca n f 0) gX4_refuseOtherChanges_X4_isWith rfl rfl rfl hd_X4_isWith ⟨Nat.le_of_ble_eq_true rfl, Nat.le_of_ble_eq_true rfl⟩ rfl rfl dX4_refuseOtherChanges_46 rfl (Nat.le_of_ble_eq_true rfl) ⟨Nat.le_of_ble_eq_true rfl, Nat.le_of_ble_eq_true rfl⟩) ?_
      refine j_if_ne (tgt := 62) C dX4_refuseOtherChanges_49 (by decide) (fun c_3 => ?_) (fun c_3 => ?_)
      · skip
        have c_3 : true = true := jb_1 c_3
        exact j_vretW C hr dX4_refuseOtherChanges_62 () trivial rfl
      · skip
        have c_3 : true = false := jb_0 c_3
        (first | exact absurd c_3 (by decide) | exact absurd c_3 (by omega) | simp_all)
    · skip
      have c_2 : true = false := jb_0 c_2
      (first | exact absurd c_2 (by decide) | exact absurd c_2 (by omega) | simp_all)
  · skip
    have c_1 : true = false := jb_0 c_1
    (first | exact absurd c_1 (by decide) | exact absurd c_1 (by omega) | simp_all)
