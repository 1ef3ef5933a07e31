set_option maxRecDepth 100000 in
theorem hin_X4_put_X4 : ∀ w ∈ u_ws RX4 TX4 8, w ∈ wsX4_put := fun w h => List.mem_cons_of_mem _ (by exact List.mem_append_left _ (List.mem_append_right _ h))
set_option maxRecDepth 100000 in
theorem hin_X4_empty_X4 : ∀ w ∈ u_ws RX4 TX4 8, w ∈ wsX4_empty := fun w h => List.mem_cons_of_mem _ (by exact List.mem_append_right _ h)
set_option maxRecDepth 100000 in
theorem hin_X4_run_X4 : ∀ w ∈ u_ws RX4 TX4 8, w ∈ wsX4_run := fun w h => List.mem_cons_of_mem _ (by exact List.mem_append_left _ (List.mem_append_left _ (List.mem_append_left _ (List.mem_append_right _ h))))
theorem hd_X3_goThrough : yX3_goThrough.cls = RX3 ∧ yX3_goThrough.cls ≠ "java/lang/invoke/MethodHandle" ∧ yX3_goThrough.cls ≠ "java/lang/invoke/VarHandle" ∧ (parseMethodDescriptor yX3_goThrough.desc).map (fun d => d.parameters.length) = some 3 := by decide +kernel
theorem hd_X3_codeOfExit : yX3_codeOfExit.cls = RX3 ∧ yX3_codeOfExit.cls ≠ "java/lang/invoke/MethodHandle" ∧ yX3_codeOfExit.cls ≠ "java/lang/invoke/VarHandle" ∧ (parseMethodDescriptor yX3_codeOfExit.desc).map (fun d => d.parameters.length) = some 0 := by decide +kernel
set_option maxRecDepth 100000 in
theorem hin_X4_ran_X4 : ∀ w ∈ u_ws RX4 TX4 8, w ∈ wsX4_ran := fun w h => List.mem_cons_of_mem _ (by exact List.mem_append_left _ (List.mem_append_left _ (List.mem_append_right _ h)))
theorem hd_X3_fact : yX3_fact.cls = RX3 ∧ yX3_fact.cls ≠ "java/lang/invoke/MethodHandle" ∧ yX3_fact.cls ≠ "java/lang/invoke/VarHandle" ∧ (parseMethodDescriptor yX3_fact.desc).map (fun d => d.parameters.length) = some 1 := by decide +kernel
theorem hd_X4_lastLoopFor : yX4_lastLoopFor.cls = RX4 ∧ yX4_lastLoopFor.cls ≠ "java/lang/invoke/MethodHandle" ∧ yX4_lastLoopFor.cls ≠ "java/lang/invoke/VarHandle" ∧ (parseMethodDescriptor yX4_lastLoopFor.desc).map (fun d => d.parameters.length) = some 2 := by decide +kernel
theorem hd_X4_isWith : yX4_isWith.cls = RX4 ∧ yX4_isWith.cls ≠ "java/lang/invoke/MethodHandle" ∧ yX4_isWith.cls ≠ "java/lang/invoke/VarHandle" ∧ (parseMethodDescriptor yX4_isWith.desc).map (fun d => d.parameters.length) = some 4 := by decide +kernel
set_option maxHeartbeats 4000000 in
set_option maxRecDepth 100000 in
theorem c_X4_loop_p (l : Launch) (g : jG) (hst9 : l.stackTraces = false) (x0 mp N rp : Nat) (rl : Int32) (lt p1 p2 cz : Nat) (T : Nat → Option Nat) (x y w : Int32) (hx : jBt x 0 (nI N - 1) = false) (hN : N ≤ 10) (hT : ∀ i, N ≤ i → T i = none) : jXt l yX4_loop wsX4_loop ({ frames := 8, cells := 1, slots := 6, locals := 142 }) g [.ref x0, .int x, .int y, .int w] [(x0, .inr (3, [.ref mp, .int (nI N), .ref rp, .int rl, .ref lt, .ref p1, .ref p2, .ref cz])), (mp, jaP g 10 T)] "java/lang/IndexOutOfBoundsException" := by
  refine j_enterX (XC := fun sz_ => jXC g [(x0, .inr (3, [.ref mp, .int (nI N), .ref rp, .int rl, .ref lt, .ref p1, .ref p2, .ref cz])), (mp, jaP g 10 T)] "java/lang/IndexOutOfBoundsException" (va_A [(x0, .inr (3, [.ref mp, .int (nI N), .ref rp, .int rl, .ref lt, .ref p1, .ref p2, .ref cz])), (mp, jaP g 10 T)] sz_)) (mc := 1) (ms := 6) (cc := cX4_loop) (maxL := 5) (ret := (some .int)) (own := RX4) (L := [(0, .ref x0), (1, .int x), (2, .int y), (3, .int w)]) (by decide) rfl rfl (Nat.le_of_ble_eq_true rfl) rfl (fun p e s m args below meth c C ht9 hX hZ => ?_)
  refine j_aload_n 0 C dX4_loop_0 rfl rfl ?_
  refine j_iload_n 1 C dX4_loop_1 rfl rfl ?_
  exact j_xV (ci := 0) (As := [.int x]) (rest := []) [0, 1] C hX hZ ht9 (c_X4_programAt_x l g hst9 x0 mp N rp rl lt p1 p2 cz T x (by omega) (by omega) hT) gX4_loop_X4_programAt rfl rfl rfl hd_X4_programAt ⟨Nat.le_of_ble_eq_true rfl, Nat.le_of_ble_eq_true rfl⟩ rfl rfl rfl rfl rfl dX4_loop_2 rfl (Nat.le_of_ble_eq_true rfl) ⟨Nat.le_of_ble_eq_true rfl, Nat.le_of_ble_eq_true rfl⟩
set_option maxHeartbeats 4000000 in
set_option maxRecDepth 100000 in
theorem c_X4_loop_l (l : Launch) (g : jG) (hst9 : l.stackTraces = false) (x0 mp N rp : Nat) (rl : Int32) (lt p1 p2 cz : Nat) (T : Nat → Option Nat) (k : Nat) (q ca n : Nat) (f : Nat → Int32) (y w : Int32) (hk : k < N) (hN : N ≤ 10) (hq : T k = some q) (hy : jBt y 0 (nI n - 1) = false) : jXt l yX4_loop wsX4_loop ({ frames := 7, cells := 1, slots := 6, locals := 103 }) g [.ref x0, .int (nI k), .int y, .int w] [(x0, .inr (3, [.ref mp, .int (nI N), .ref rp, .int rl, .ref lt, .ref p1, .ref p2, .ref cz])), (mp, jaP g 10 T), (q, .inr (1, [.ref ca, .int (nI n)])), (ca, jaI g 224 f)] "java/lang/IndexOutOfBoundsException" := by
  refine j_enterX (XC := fun sz_ => jXC g [(x0, .inr (3, [.ref mp, .int (nI N), .ref rp, .int rl, .ref lt, .ref p1, .ref p2, .ref cz])), (mp, jaP g 10 T), (q, .inr (1, [.ref ca, .int (nI n)])), (ca, jaI g 224 f)] "java/lang/IndexOutOfBoundsException" (va_A [(x0, .inr (3, [.ref mp, .int (nI N), .ref rp, .int rl, .ref lt, .ref p1, .ref p2, .ref cz])), (mp, jaP g 10 T), (q, .inr (1, [.ref ca, .int (nI n)])), (ca, jaI g 224 f)] sz_)) (mc := 1) (ms := 6) (cc := cX4_loop) (maxL := 5) (ret := (some .int)) (own := RX4) (L := [(0, .ref x0), (1, .int (nI k)), (2, .int y), (3, .int w)]) (by decide) rfl rfl (Nat.le_of_ble_eq_true rfl) rfl (fun p e s m args below meth c C ht9 hX hZ => ?_)
  refine j_aload_n 0 C dX4_loop_0 rfl rfl ?_
  refine j_iload_n 1 C dX4_loop_1 rfl rfl ?_
  refine j_callRr (v := q) (j_runV (ci := 0) (As := [.int (nI k)]) (rest := []) [0, 1] C (c_X4_programAt l g x0 mp N rp rl lt p1 p2 cz T k q (by omega) (by omega) hq) gX4_loop_X4_programAt rfl rfl rfl hd_X4_programAt ⟨Nat.le_of_ble_eq_true rfl, Nat.le_of_ble_eq_true rfl⟩ rfl rfl rfl rfl dX4_loop_2 rfl (Nat.le_of_ble_eq_true rfl) ⟨Nat.le_of_ble_eq_true rfl, Nat.le_of_ble_eq_true rfl⟩) ?_
  refine j_astore (L' := [(0, .ref x0), (1, .int (nI k)), (2, .int y), (3, .int w), (4, .ref q)]) C dX4_loop_5 (Nat.le_of_ble_eq_true rfl) rfl rfl ?_
  refine j_aload 4 C dX4_loop_7 rfl ?_
  refine j_iload_n 2 C dX4_loop_9 rfl rfl ?_
  exact j_xS (As := [.ref q, .int y]) (rest := []) [2, 3] C hX hZ ht9 (c_X4_refuseOtherLoops_x l g hst9 q ca n f y hy) gX4_loop_X4_refuseOtherLoops rfl rfl rfl hd_X4_refuseOtherLoops ⟨Nat.le_of_ble_eq_true rfl, Nat.le_of_ble_eq_true rfl⟩ rfl rfl rfl dX4_loop_10 rfl (Nat.le_of_ble_eq_true rfl) ⟨Nat.le_of_ble_eq_true rfl, Nat.le_of_ble_eq_true rfl⟩
set_option maxHeartbeats 4000000 in
set_option maxRecDepth 100000 in
theorem c_X4_loop_w (l : Launch) (g : jG) (hst9 : l.stackTraces = false) (x0 mp N rp : Nat) (rl : Int32) (lt p1 p2 cz : Nat) (T : Nat → Option Nat) (k : Nat) (q ca n : Nat) (f : Nat → Int32) (j : Nat) (w : Int32) (hk : k < N) (hN : N ≤ 10) (hq : T k = some q) (hj : j < n) (hn : n ≤ 8) (hw : jBt w 0 3 = false) : jXt l yX4_loop wsX4_loop ({ frames := 6, cells := 1, slots := 6, locals := 82 }) g [.ref x0, .int (nI k), .int (nI j), .int w] [(x0, .inr (3, [.ref mp, .int (nI N), .ref rp, .int rl, .ref lt, .ref p1, .ref p2, .ref cz])), (mp, jaP g 10 T), (q, .inr (1, [.ref ca, .int (nI n)])), (ca, jaI g 224 f)] "java/lang/IndexOutOfBoundsException" := by
  refine j_enterX (XC := fun sz_ => jXC g [(x0, .inr (3, [.ref mp, .int (nI N), .ref rp, .int rl, .ref lt, .ref p1, .ref p2, .ref cz])), (mp, jaP g 10 T), (q, .inr (1, [.ref ca, .int (nI n)])), (ca, jaI g 224 f)] "java/lang/IndexOutOfBoundsException" (va_A [(x0, .inr (3, [.ref mp, .int (nI N), .ref rp, .int rl, .ref lt, .ref p1, .ref p2, .ref cz])), (mp, jaP g 10 T), (q, .inr (1, [.ref ca, .int (nI n)])), (ca, jaI g 224 f)] sz_)) (mc := 1) (ms := 6) (cc := cX4_loop) (maxL := 5) (ret := (some .int)) (own := RX4) (L := [(0, .ref x0), (1, .int (nI k)), (2, .int (nI j)), (3, .int w)]) (by decide) rfl rfl (Nat.le_of_ble_eq_true rfl) rfl (fun p e s m args below meth c C ht9 hX hZ => ?_)
  refine j_aload_n 0 C dX4_loop_0 rfl rfl ?_
  refine j_iload_n 1 C dX4_loop_1 rfl rfl ?_
  refine j_callRr (v := q) (j_runV (ci := 0) (As := [.int (nI k)]) (rest := []) [0, 1] C (c_X4_programAt l g x0 mp N rp rl lt p1 p2 cz T k q (by omega) (by omega) hq) gX4_loop_X4_programAt rfl rfl rfl hd_X4_programAt ⟨Nat.le_of_ble_eq_true rfl, Nat.le_of_ble_eq_true rfl⟩ rfl rfl rfl rfl dX4_loop_2 rfl (Nat.le_of_ble_eq_true rfl) ⟨Nat.le_of_ble_eq_true rfl, Nat.le_of_ble_eq_true rfl⟩) ?_
  refine j_astore (L' := [(0, .ref x0), (1, .int (nI k)), (2, .int (nI j)), (3, .int w), (4, .ref q)]) C dX4_loop_5 (Nat.le_of_ble_eq_true rfl) rfl rfl ?_
  refine j_aload 4 C dX4_loop_7 rfl ?_
  refine j_iload_n 2 C dX4_loop_9 rfl rfl ?_
  refine j_callWv [2, 3] (fun _ => [(x0, .inr (3, [.ref mp, .int (nI N), .ref rp, .int rl, .ref lt, .ref p1, .ref p2, .ref cz])), (mp, jaP g 10 T), (q, .inr (1, [.ref ca, .int (nI n)])), (ca, jaI g 224 f)]) C (j_runS (As := [.ref q, .int (nI j)]) (rest := []) [2, 3] C (c_X4_refuseOtherLoops l g q ca n f j (by omega) (by omega)) gX4_loop_X4_refuseOtherLoops rfl rfl rfl hd_X4_refuseOtherLoops ⟨Nat.le_of_ble_eq_true rfl, Nat.le_of_ble_eq_true rfl⟩ rfl rfl dX4_loop_10 rfl (Nat.le_of_ble_eq_true rfl) ⟨Nat.le_of_ble_eq_true rfl, Nat.le_of_ble_eq_true rfl⟩) rfl (fun _ => rfl) (fun _ => rfl) (fun _ _ => ?_)
  refine j_iload_n 3 C dX4_loop_13 rfl rfl ?_
  refine j_iconst (v := 0) C dX4_loop_14 rfl ?_
  refine j_iconst (v := 3) C dX4_loop_15 rfl ?_
  refine j_callRi (v := jb (jBt w 0 3)) (j_runS (As := [.int w, .int 0, .int 3]) (rest := []) [] C (c_X4_isBetween l g w 0 3) gX4_loop_X4_isBetween rfl rfl rfl hd_X4_isBetween ⟨Nat.le_of_ble_eq_true rfl, Nat.le_of_ble_eq_true rfl⟩ rfl rfl dX4_loop_16 rfl (Nat.le_of_ble_eq_true rfl) ⟨Nat.le_of_ble_eq_true rfl, Nat.le_of_ble_eq_true rfl⟩) ?_
  refine j_eq (pc' := 19) (L' := [(0, .ref x0), (1, .int (nI k)), (2, .int (nI j)), (3, .int w), (4, .ref q)]) (st' := [.int (jb false)]) (ws' := [(x0, .inr (3, [.ref mp, .int (nI N), .ref rp, .int rl, .ref lt, .ref p1, .ref p2, .ref cz])), (mp, jaP g 10 T), (q, .inr (1, [.ref ca, .int (nI n)])), (ca, jaI g 224 f)]) ?_ rfl rfl (by rw [hw]) rfl
  refine j_if_ne (tgt := 32) C dX4_loop_19 (by decide) (fun c_1 => ?_) (fun c_1 => ?_)
  · skip
    have c_1 : false = true := jb_1 c_1
    (first | exact absurd c_1 (by decide) | exact absurd c_1 (by omega) | simp_all)
  · skip
    have c_1 : false = false := jb_0 c_1
    exact j_throw (E := "java/lang/IndexOutOfBoundsException") (ik := 105) (is := 107) (ic := 109) C hst9 hX hZ ht9 (by decide) (by decide) (by decide) (List.mem_of_getElem? (i := 1) rfl) (List.mem_of_getElem? (i := 2) rfl) (fun w h => List.mem_cons_of_mem _ (by exact List.mem_append_right _ h)) jat_109 jot_109 dX4_loop_22 dX4_loop_25 dX4_loop_26 dX4_loop_28 dX4_loop_31 (Nat.le_of_ble_eq_true rfl) (Nat.le_of_ble_eq_true rfl) (Nat.le_of_ble_eq_true rfl) (Nat.le_of_ble_eq_true rfl)
set_option maxHeartbeats 4000000 in
set_option maxRecDepth 100000 in
theorem c_X4_loop (l : Launch) (g : jG) (x0 mp N rp : Nat) (rl : Int32) (lt p1 p2 cz : Nat) (T : Nat → Option Nat) (k : Nat) (q ca n : Nat) (f : Nat → Int32) (j w : Nat) (hk : k < N) (hN : N ≤ 10) (hq : T k = some q) (hj : j < n) (hn : n ≤ 8) (hw : w < 4) : jWi l yX4_loop wsX4_loop ({ frames := 2, cells := 0, slots := 0, locals := 43 }) g [.ref x0, .int (nI k), .int (nI j), .int (nI w)] [(x0, .inr (3, [.ref mp, .int (nI N), .ref rp, .int rl, .ref lt, .ref p1, .ref p2, .ref cz])), (mp, jaP g 10 T), (q, .inr (1, [.ref ca, .int (nI n)])), (ca, jaI g 224 f)] [(x0, .inr (3, [.ref mp, .int (nI N), .ref rp, .int rl, .ref lt, .ref p1, .ref p2, .ref cz])), (mp, jaP g 10 T), (q, .inr (1, [.ref ca, .int (nI n)])), (ca, jaI g 224 f)] (f (j * 28 + w)) := by
  refine j_enterW (Qc := fun sz_ => va_Qi (fun r (_ : Unit) => r = f (j * 28 + w)) (fun _ t => va_P g.1 vwCl [(x0, .inr (3, [.ref mp, .int (nI N), .ref rp, .int rl, .ref lt, .ref p1, .ref p2, .ref cz])), (mp, jaP g 10 T), (q, .inr (1, [.ref ca, .int (nI n)])), (ca, jaI g 224 f)] t.heap) (va_A [(x0, .inr (3, [.ref mp, .int (nI N), .ref rp, .int rl, .ref lt, .ref p1, .ref p2, .ref cz])), (mp, jaP g 10 T), (q, .inr (1, [.ref ca, .int (nI n)])), (ca, jaI g 224 f)] sz_)) (cc := cX4_loop) (maxL := 5) (ret := (some .int)) (own := RX4) (L := [(0, .ref x0), (1, .int (nI k)), (2, .int (nI j)), (3, .int (nI w))]) (by decide) rfl rfl (Nat.le_of_ble_eq_true rfl) rfl (fun p e s m args below meth c C hr => ?_)
  refine j_aload_n 0 C dX4_loop_0 rfl rfl ?_
  refine j_iload_n 1 C dX4_loop_1 rfl rfl ?_
  refine j_callRr (v := q) (j_runV (ci := 0) (As := [.int (nI k)]) (rest := []) [0, 1] C (c_X4_programAt l g x0 mp N rp rl lt p1 p2 cz T k q (by omega) (by omega) hq) gX4_loop_X4_programAt rfl rfl rfl hd_X4_programAt ⟨Nat.le_of_ble_eq_true rfl, Nat.le_of_ble_eq_true rfl⟩ rfl rfl rfl rfl dX4_loop_2 rfl (Nat.le_of_ble_eq_true rfl) ⟨Nat.le_of_ble_eq_true rfl, Nat.le_of_ble_eq_true rfl⟩) ?_
  refine j_astore (L' := [(0, .ref x0), (1, .int (nI k)), (2, .int (nI j)), (3, .int (nI w)), (4, .ref q)]) C dX4_loop_5 (Nat.le_of_ble_eq_true rfl) rfl rfl ?_
  refine j_aload 4 C dX4_loop_7 rfl ?_
  refine j_iload_n 2 C dX4_loop_9 rfl rfl ?_
  refine j_callWv [2, 3] (fun _ => [(x0, .inr (3, [.ref mp, .int (nI N), .ref rp, .int rl, .ref lt, .ref p1, .ref p2, .ref cz])), (mp, jaP g 10 T), (q, .inr (1, [.ref ca, .int (nI n)])), (ca, jaI g 224 f)]) C (j_runS (As := [.ref q, .int (nI j)]) (rest := []) [2, 3] C (c_X4_refuseOtherLoops l g q ca n f j (by omega) (by omega)) gX4_loop_X4_refuseOtherLoops rfl rfl rfl hd_X4_refuseOtherLoops ⟨Nat.le_of_ble_eq_true rfl, Nat.le_of_ble_eq_true rfl⟩ rfl rfl dX4_loop_10 rfl (Nat.le_of_ble_eq_true rfl) ⟨Nat.le_of_ble_eq_true rfl, Nat.le_of_ble_eq_true rfl⟩) rfl (fun _ => rfl) (fun _ => rfl) (fun _ _ => ?_)
  refine j_iload_n 3 C dX4_loop_13 rfl rfl ?_
  refine j_iconst (v := 0) C dX4_loop_14 rfl ?_
  refine j_iconst (v := 3) C dX4_loop_15 rfl ?_
  refine j_callRi (v := jb (jBt (nI w) 0 3)) (j_runS (As := [.int (nI w), .int 0, .int 3]) (rest := []) [] C (c_X4_isBetween l g (nI w) 0 3) gX4_loop_X4_isBetween rfl rfl rfl hd_X4_isBetween ⟨Nat.le_of_ble_eq_true rfl, Nat.le_of_ble_eq_true rfl⟩ rfl rfl dX4_loop_16 rfl (Nat.le_of_ble_eq_true rfl) ⟨Nat.le_of_ble_eq_true rfl, Nat.le_of_ble_eq_true rfl⟩) ?_
  refine j_eq (pc' := 19) (L' := [(0, .ref x0), (1, .int (nI k)), (2, .int (nI j)), (3, .int (nI w)), (4, .ref q)]) (st' := [.int (jb true)]) (ws' := [(x0, .inr (3, [.ref mp, .int (nI N), .ref rp, .int rl, .ref lt, .ref p1, .ref p2, .ref cz])), (mp, jaP g 10 T), (q, .inr (1, [.ref ca, .int (nI n)])), (ca, jaI g 224 f)]) ?_ rfl rfl (by rw [(show jBt (nI w) 0 3 = true from jBt_m (N := 3) (by omega) (by omega))]) rfl
  refine j_if_ne (tgt := 32) C dX4_loop_19 (by decide) (fun c_1 => ?_) (fun c_1 => ?_)
  · skip
    have c_1 : true = true := jb_1 c_1
    refine j_aload 4 C dX4_loop_32 rfl ?_
    refine j_iload_n 2 C dX4_loop_34 rfl rfl ?_
    refine j_iload_n 3 C dX4_loop_35 rfl rfl ?_
    refine j_callRi (v := f (j * 28 + w)) (j_runV (ci := 2) (As := [.int (nI j), .int (nI w)]) (rest := []) [2, 3] C (c_X1_loopFact l g q ca (nI n) f j w (by omega)) gX4_loop_X1_loopFact rfl rfl rfl hd_X1_loopFact ⟨Nat.le_of_ble_eq_true rfl, Nat.le_of_ble_eq_true rfl⟩ rfl rfl rfl rfl dX4_loop_36 rfl (Nat.le_of_ble_eq_true rfl) ⟨Nat.le_of_ble_eq_true rfl, Nat.le_of_ble_eq_true rfl⟩) ?_
    exact j_iretW (v := f (j * 28 + w)) C hr dX4_loop_39 () rfl rfl
  · skip
    have c_1 : true = false := jb_0 c_1
    (first | exact absurd c_1 (by decide) | exact absurd c_1 (by omega) | simp_all)
set_option maxHeartbeats 4000000 in
set_option maxRecDepth 100000 in
theorem c_X4_step_p (l : Launch) (g : jG) (hst9 : l.stackTraces = false) (x0 mp N rp : Nat) (rl : Int32) (lt p1 p2 cz : Nat) (T : Nat → Option Nat) (x y t w : Int32) (hx : jBt x 0 (nI N - 1) = false) (hN : N ≤ 10) (hT : ∀ i, N ≤ i → T i = none) : jXt l yX4_step wsX4_step ({ frames := 8, cells := 1, slots := 6, locals := 142 }) g [.ref x0, .int x, .int y, .int t, .int w] [(x0, .inr (3, [.ref mp, .int (nI N), .ref rp, .int rl, .ref lt, .ref p1, .ref p2, .ref cz])), (mp, jaP g 10 T)] "java/lang/IndexOutOfBoundsException" := by
  refine j_enterX (XC := fun sz_ => jXC g [(x0, .inr (3, [.ref mp, .int (nI N), .ref rp, .int rl, .ref lt, .ref p1, .ref p2, .ref cz])), (mp, jaP g 10 T)] "java/lang/IndexOutOfBoundsException" (va_A [(x0, .inr (3, [.ref mp, .int (nI N), .ref rp, .int rl, .ref lt, .ref p1, .ref p2, .ref cz])), (mp, jaP g 10 T)] sz_)) (mc := 1) (ms := 6) (cc := cX4_step) (maxL := 6) (ret := (some .int)) (own := RX4) (L := [(0, .ref x0), (1, .int x), (2, .int y), (3, .int t), (4, .int w)]) (by decide) rfl rfl (Nat.le_of_ble_eq_true rfl) rfl (fun p e s m args below meth c C ht9 hX hZ => ?_)
  refine j_aload_n 0 C dX4_step_0 rfl rfl ?_
  refine j_iload_n 1 C dX4_step_1 rfl rfl ?_
  exact j_xV (ci := 0) (As := [.int x]) (rest := []) [0, 1] C hX hZ ht9 (c_X4_programAt_x l g hst9 x0 mp N rp rl lt p1 p2 cz T x (by omega) (by omega) hT) gX4_step_X4_programAt rfl rfl rfl hd_X4_programAt ⟨Nat.le_of_ble_eq_true rfl, Nat.le_of_ble_eq_true rfl⟩ rfl rfl rfl rfl rfl dX4_step_2 rfl (Nat.le_of_ble_eq_true rfl) ⟨Nat.le_of_ble_eq_true rfl, Nat.le_of_ble_eq_true rfl⟩
set_option maxHeartbeats 4000000 in
set_option maxRecDepth 100000 in
theorem c_X4_step_l (l : Launch) (g : jG) (hst9 : l.stackTraces = false) (x0 mp N rp : Nat) (rl : Int32) (lt p1 p2 cz : Nat) (T : Nat → Option Nat) (k : Nat) (q ca n : Nat) (f : Nat → Int32) (y t w : Int32) (hk : k < N) (hN : N ≤ 10) (hq : T k = some q) (hy : jBt y 0 (nI n - 1) = false) : jXt l yX4_step wsX4_step ({ frames := 7, cells := 1, slots := 6, locals := 103 }) g [.ref x0, .int (nI k), .int y, .int t, .int w] [(x0, .inr (3, [.ref mp, .int (nI N), .ref rp, .int rl, .ref lt, .ref p1, .ref p2, .ref cz])), (mp, jaP g 10 T), (q, .inr (1, [.ref ca, .int (nI n)])), (ca, jaI g 224 f)] "java/lang/IndexOutOfBoundsException" := by
  refine j_enterX (XC := fun sz_ => jXC g [(x0, .inr (3, [.ref mp, .int (nI N), .ref rp, .int rl, .ref lt, .ref p1, .ref p2, .ref cz])), (mp, jaP g 10 T), (q, .inr (1, [.ref ca, .int (nI n)])), (ca, jaI g 224 f)] "java/lang/IndexOutOfBoundsException" (va_A [(x0, .inr (3, [.ref mp, .int (nI N), .ref rp, .int rl, .ref lt, .ref p1, .ref p2, .ref cz])), (mp, jaP g 10 T), (q, .inr (1, [.ref ca, .int (nI n)])), (ca, jaI g 224 f)] sz_)) (mc := 1) (ms := 6) (cc := cX4_step) (maxL := 6) (ret := (some .int)) (own := RX4) (L := [(0, .ref x0), (1, .int (nI k)), (2, .int y), (3, .int t), (4, .int w)]) (by decide) rfl rfl (Nat.le_of_ble_eq_true rfl) rfl (fun p e s m args below meth c C ht9 hX hZ => ?_)
  refine j_aload_n 0 C dX4_step_0 rfl rfl ?_
  refine j_iload_n 1 C dX4_step_1 rfl rfl ?_
  refine j_callRr (v := q) (j_runV (ci := 0) (As := [.int (nI k)]) (rest := []) [0, 1] C (c_X4_programAt l g x0 mp N rp rl lt p1 p2 cz T k q (by omega) (by omega) hq) gX4_step_X4_programAt rfl rfl rfl hd_X4_programAt ⟨Nat.le_of_ble_eq_true rfl, Nat.le_of_ble_eq_true rfl⟩ rfl rfl rfl rfl dX4_step_2 rfl (Nat.le_of_ble_eq_true rfl) ⟨Nat.le_of_ble_eq_true rfl, Nat.le_of_ble_eq_true rfl⟩) ?_
  refine j_astore (L' := [(0, .ref x0), (1, .int (nI k)), (2, .int y), (3, .int t), (4, .int w), (5, .ref q)]) C dX4_step_5 (Nat.le_of_ble_eq_true rfl) rfl rfl ?_
  refine j_aload 5 C dX4_step_7 rfl ?_
  refine j_iload_n 2 C dX4_step_9 rfl rfl ?_
  exact j_xS (As := [.ref q, .int y]) (rest := []) [2, 3] C hX hZ ht9 (c_X4_refuseOtherLoops_x l g hst9 q ca n f y hy) gX4_step_X4_refuseOtherLoops rfl rfl rfl hd_X4_refuseOtherLoops ⟨Nat.le_of_ble_eq_true rfl, Nat.le_of_ble_eq_true rfl⟩ rfl rfl rfl dX4_step_10 rfl (Nat.le_of_ble_eq_true rfl) ⟨Nat.le_of_ble_eq_true rfl, Nat.le_of_ble_eq_true rfl⟩
set_option maxHeartbeats 4000000 in
set_option maxRecDepth 100000 in
theorem c_X4_step_t (l : Launch) (g : jG) (hst9 : l.stackTraces = false) (x0 mp N rp : Nat) (rl : Int32) (lt p1 p2 cz : Nat) (T : Nat → Option Nat) (k : Nat) (q ca n : Nat) (f : Nat → Int32) (j a : Nat) (t w : Int32) (hk : k < N) (hN : N ≤ 10) (hq : T k = some q) (hj : j < n) (hn : n ≤ 8) (ha : f (j * 28 + 3) = nI a) (ha6 : a ≤ 6) (ht : jBt t 0 (nI a - 1) = false) : jXt l yX4_step wsX4_step ({ frames := 6, cells := 1, slots := 6, locals := 82 }) g [.ref x0, .int (nI k), .int (nI j), .int t, .int w] [(x0, .inr (3, [.ref mp, .int (nI N), .ref rp, .int rl, .ref lt, .ref p1, .ref p2, .ref cz])), (mp, jaP g 10 T), (q, .inr (1, [.ref ca, .int (nI n)])), (ca, jaI g 224 f)] "java/lang/IndexOutOfBoundsException" := by
  refine j_enterX (XC := fun sz_ => jXC g [(x0, .inr (3, [.ref mp, .int (nI N), .ref rp, .int rl, .ref lt, .ref p1, .ref p2, .ref cz])), (mp, jaP g 10 T), (q, .inr (1, [.ref ca, .int (nI n)])), (ca, jaI g 224 f)] "java/lang/IndexOutOfBoundsException" (va_A [(x0, .inr (3, [.ref mp, .int (nI N), .ref rp, .int rl, .ref lt, .ref p1, .ref p2, .ref cz])), (mp, jaP g 10 T), (q, .inr (1, [.ref ca, .int (nI n)])), (ca, jaI g 224 f)] sz_)) (mc := 1) (ms := 6) (cc := cX4_step) (maxL := 6) (ret := (some .int)) (own := RX4) (L := [(0, .ref x0), (1, .int (nI k)), (2, .int (nI j)), (3, .int t), (4, .int w)]) (by decide) rfl rfl (Nat.le_of_ble_eq_true rfl) rfl (fun p e s m args below meth c C ht9 hX hZ => ?_)
  refine j_aload_n 0 C dX4_step_0 rfl rfl ?_
  refine j_iload_n 1 C dX4_step_1 rfl rfl ?_
  refine j_callRr (v := q) (j_runV (ci := 0) (As := [.int (nI k)]) (rest := []) [0, 1] C (c_X4_programAt l g x0 mp N rp rl lt p1 p2 cz T k q (by omega) (by omega) hq) gX4_step_X4_programAt rfl rfl rfl hd_X4_programAt ⟨Nat.le_of_ble_eq_true rfl, Nat.le_of_ble_eq_true rfl⟩ rfl rfl rfl rfl dX4_step_2 rfl (Nat.le_of_ble_eq_true rfl) ⟨Nat.le_of_ble_eq_true rfl, Nat.le_of_ble_eq_true rfl⟩) ?_
  refine j_astore (L' := [(0, .ref x0), (1, .int (nI k)), (2, .int (nI j)), (3, .int t), (4, .int w), (5, .ref q)]) C dX4_step_5 (Nat.le_of_ble_eq_true rfl) rfl rfl ?_
  refine j_aload 5 C dX4_step_7 rfl ?_
  refine j_iload_n 2 C dX4_step_9 rfl rfl ?_
  refine j_callWv [2, 3] (fun _ => [(x0, .inr (3, [.ref mp, .int (nI N), .ref rp, .int rl, .ref lt, .ref p1, .ref p2, .ref cz])), (mp, jaP g 10 T), (q, .inr (1, [.ref ca, .int (nI n)])), (ca, jaI g 224 f)]) C (j_runS (As := [.ref q, .int (nI j)]) (rest := []) [2, 3] C (c_X4_refuseOtherLoops l g q ca n f j (by omega) (by omega)) gX4_step_X4_refuseOtherLoops rfl rfl rfl hd_X4_refuseOtherLoops ⟨Nat.le_of_ble_eq_true rfl, Nat.le_of_ble_eq_true rfl⟩ rfl rfl dX4_step_10 rfl (Nat.le_of_ble_eq_true rfl) ⟨Nat.le_of_ble_eq_true rfl, Nat.le_of_ble_eq_true rfl⟩) rfl (fun _ => rfl) (fun _ => rfl) (fun _ _ => ?_)
  refine j_iload_n 3 C dX4_step_13 rfl rfl ?_
  refine j_iconst (v := 0) C dX4_step_14 rfl ?_
  refine j_aload 5 C dX4_step_15 rfl ?_
  refine j_iload_n 2 C dX4_step_17 rfl rfl ?_
  refine j_callRi (v := f (j * 28 + 3)) (j_runV (ci := 2) (As := [.int (nI j)]) (rest := [.int 0, .int t]) [2, 3] C (c_X1_countSteps l g q ca (nI n) f j (by omega)) gX4_step_X1_countSteps rfl rfl rfl hd_X1_countSteps ⟨Nat.le_of_ble_eq_true rfl, Nat.le_of_ble_eq_true rfl⟩ rfl rfl rfl rfl dX4_step_18 rfl (Nat.le_of_ble_eq_true rfl) ⟨Nat.le_of_ble_eq_true rfl, Nat.le_of_ble_eq_true rfl⟩) ?_
  refine j_eq (pc' := 21) (L' := [(0, .ref x0), (1, .int (nI k)), (2, .int (nI j)), (3, .int t), (4, .int w), (5, .ref q)]) (st' := [.int (nI a), .int 0, .int t]) (ws' := [(x0, .inr (3, [.ref mp, .int (nI N), .ref rp, .int rl, .ref lt, .ref p1, .ref p2, .ref cz])), (mp, jaP g 10 T), (q, .inr (1, [.ref ca, .int (nI n)])), (ca, jaI g 224 f)]) ?_ rfl rfl (by rw [ha]) rfl
  refine j_iconst (v := 1) C dX4_step_21 rfl ?_
  refine j_isub (x := nI a) (y := 1) (v := nI a - 1) C dX4_step_22 rfl ?_
  refine j_callRi (v := jb (jBt t 0 (nI a - 1))) (j_runS (As := [.int t, .int 0, .int (nI a - 1)]) (rest := []) [] C (c_X4_isBetween l g t 0 (nI a - 1)) gX4_step_X4_isBetween rfl rfl rfl hd_X4_isBetween ⟨Nat.le_of_ble_eq_true rfl, Nat.le_of_ble_eq_true rfl⟩ rfl rfl dX4_step_23 rfl (Nat.le_of_ble_eq_true rfl) ⟨Nat.le_of_ble_eq_true rfl, Nat.le_of_ble_eq_true rfl⟩) ?_
  refine j_eq (pc' := 26) (L' := [(0, .ref x0), (1, .int (nI k)), (2, .int (nI j)), (3, .int t), (4, .int w), (5, .ref q)]) (st' := [.int (jb false)]) (ws' := [(x0, .inr (3, [.ref mp, .int (nI N), .ref rp, .int rl, .ref lt, .ref p1, .ref p2, .ref cz])), (mp, jaP g 10 T), (q, .inr (1, [.ref ca, .int (nI n)])), (ca, jaI g 224 f)]) ?_ rfl rfl (by rw [ht]) rfl
  refine j_if_ne (tgt := 39) C dX4_step_26 (by decide) (fun c_1 => ?_) (fun c_1 => ?_)
  · skip
    have c_1 : false = true := jb_1 c_1
    (first | exact absurd c_1 (by decide) | exact absurd c_1 (by omega) | simp_all)
  · skip
    have c_1 : false = false := jb_0 c_1
    exact j_throw (E := "java/lang/IndexOutOfBoundsException") (ik := 105) (is := 93) (ic := 109) C hst9 hX hZ ht9 (by decide) (by decide) (by decide) (List.mem_of_getElem? (i := 1) rfl) (List.mem_of_getElem? (i := 2) rfl) (fun w h => List.mem_cons_of_mem _ (by exact List.mem_append_right _ h)) jat_109 jot_109 dX4_step_29 dX4_step_32 dX4_step_33 dX4_step_35 dX4_step_38 (Nat.le_of_ble_eq_true rfl) (Nat.le_of_ble_eq_true rfl) (Nat.le_of_ble_eq_true rfl) (Nat.le_of_ble_eq_true rfl)
set_option maxHeartbeats 4000000 in
set_option maxRecDepth 100000 in
theorem c_X4_step_w (l : Launch) (g : jG) (hst9 : l.stackTraces = false) (x0 mp N rp : Nat) (rl : Int32) (lt p1 p2 cz : Nat) (T : Nat → Option Nat) (k : Nat) (q ca n : Nat) (f : Nat → Int32) (j a t : Nat) (w : Int32) (hk : k < N) (hN : N ≤ 10) (hq : T k = some q) (hj : j < n) (hn : n ≤ 8) (ha : f (j * 28 + 3) = nI a) (ha6 : a ≤ 6) (ht : t < a) (hw : jBt w 0 3 = false) : jXt l yX4_step wsX4_step ({ frames := 6, cells := 1, slots := 6, locals := 82 }) g [.ref x0, .int (nI k), .int (nI j), .int (nI t), .int w] [(x0, .inr (3, [.ref mp, .int (nI N), .ref rp, .int rl, .ref lt, .ref p1, .ref p2, .ref cz])), (mp, jaP g 10 T), (q, .inr (1, [.ref ca, .int (nI n)])), (ca, jaI g 224 f)] "java/lang/IndexOutOfBoundsException" := by
  refine j_enterX (XC := fun sz_ => jXC g [(x0, .inr (3, [.ref mp, .int (nI N), .ref rp, .int rl, .ref lt, .ref p1, .ref p2, .ref cz])), (mp, jaP g 10 T), (q, .inr (1, [.ref ca, .int (nI n)])), (ca, jaI g 224 f)] "java/lang/IndexOutOfBoundsException" (va_A [(x0, .inr (3, [.ref mp, .int (nI N), .ref rp, .int rl, .ref lt, .ref p1, .ref p2, .ref cz])), (mp, jaP g 10 T), (q, .inr (1, [.ref ca, .int (nI n)])), (ca, jaI g 224 f)] sz_)) (mc := 1) (ms := 6) (cc := cX4_step) (maxL := 6) (ret := (some .int)) (own := RX4) (L := [(0, .ref x0), (1, .int (nI k)), (2, .int (nI j)), (3, .int (nI t)), (4, .int w)]) (by decide) rfl rfl (Nat.le_of_ble_eq_true rfl) rfl (fun p e s m args below meth c C ht9 hX hZ => ?_)
  refine j_aload_n 0 C dX4_step_0 rfl rfl ?_
  refine j_iload_n 1 C dX4_step_1 rfl rfl ?_
  refine j_callRr (v := q) (j_runV (ci := 0) (As := [.int (nI k)]) (rest := []) [0, 1] C (c_X4_programAt l g x0 mp N rp rl lt p1 p2 cz T k q (by omega) (by omega) hq) gX4_step_X4_programAt rfl rfl rfl hd_X4_programAt ⟨Nat.le_of_ble_eq_true rfl, Nat.le_of_ble_eq_true rfl⟩ rfl rfl rfl rfl dX4_step_2 rfl (Nat.le_of_ble_eq_true rfl) ⟨Nat.le_of_ble_eq_true rfl, Nat.le_of_ble_eq_true rfl⟩) ?_
  refine j_astore (L' := [(0, .ref x0), (1, .int (nI k)), (2, .int (nI j)), (3, .int (nI t)), (4, .int w), (5, .ref q)]) C dX4_step_5 (Nat.le_of_ble_eq_true rfl) rfl rfl ?_
  refine j_aload 5 C dX4_step_7 rfl ?_
  refine j_iload_n 2 C dX4_step_9 rfl rfl ?_
  refine j_callWv [2, 3] (fun _ => [(x0, .inr (3, [.ref mp, .int (nI N), .ref rp, .int rl, .ref lt, .ref p1, .ref p2, .ref cz])), (mp, jaP g 10 T), (q, .inr (1, [.ref ca, .int (nI n)])), (ca, jaI g 224 f)]) C (j_runS (As := [.ref q, .int (nI j)]) (rest := []) [2, 3] C (c_X4_refuseOtherLoops l g q ca n f j (by omega) (by omega)) gX4_step_X4_refuseOtherLoops rfl rfl rfl hd_X4_refuseOtherLoops ⟨Nat.le_of_ble_eq_true rfl, Nat.le_of_ble_eq_true rfl⟩ rfl rfl dX4_step_10 rfl (Nat.le_of_ble_eq_true rfl) ⟨Nat.le_of_ble_eq_true rfl, Nat.le_of_ble_eq_true rfl⟩) rfl (fun _ => rfl) (fun _ => rfl) (fun _ _ => ?_)
  refine j_iload_n 3 C dX4_step_13 rfl rfl ?_
  refine j_iconst (v := 0) C dX4_step_14 rfl ?_
  refine j_aload 5 C dX4_step_15 rfl ?_
  refine j_iload_n 2 C dX4_step_17 rfl rfl ?_
  refine j_callRi (v := f (j * 28 + 3)) (j_runV (ci := 2) (As := [.int (nI j)]) (rest := [.int 0, .int (nI t)]) [2, 3] C (c_X1_countSteps l g q ca (nI n) f j (by omega)) gX4_step_X1_countSteps rfl rfl rfl hd_X1_countSteps ⟨Nat.le_of_ble_eq_true rfl, Nat.le_of_ble_eq_true rfl⟩ rfl rfl rfl rfl dX4_step_18 rfl (Nat.le_of_ble_eq_true rfl) ⟨Nat.le_of_ble_eq_true rfl, Nat.le_of_ble_eq_true rfl⟩) ?_
  refine j_eq (pc' := 21) (L' := [(0, .ref x0), (1, .int (nI k)), (2, .int (nI j)), (3, .int (nI t)), (4, .int w), (5, .ref q)]) (st' := [.int (nI a), .int 0, .int (nI t)]) (ws' := [(x0, .inr (3, [.ref mp, .int (nI N), .ref rp, .int rl, .ref lt, .ref p1, .ref p2, .ref cz])), (mp, jaP g 10 T), (q, .inr (1, [.ref ca, .int (nI n)])), (ca, jaI g 224 f)]) ?_ rfl rfl (by rw [ha]) rfl
  refine j_iconst (v := 1) C dX4_step_21 rfl ?_
  refine j_isub (x := nI a) (y := 1) (v := nI a - 1) C dX4_step_22 rfl ?_
  refine j_callRi (v := jb (jBt (nI t) 0 (nI a - 1))) (j_runS (As := [.int (nI t), .int 0, .int (nI a - 1)]) (rest := []) [] C (c_X4_isBetween l g (nI t) 0 (nI a - 1)) gX4_step_X4_isBetween rfl rfl rfl hd_X4_isBetween ⟨Nat.le_of_ble_eq_true rfl, Nat.le_of_ble_eq_true rfl⟩ rfl rfl dX4_step_23 rfl (Nat.le_of_ble_eq_true rfl) ⟨Nat.le_of_ble_eq_true rfl, Nat.le_of_ble_eq_true rfl⟩) ?_
  refine j_eq (pc' := 26) (L' := [(0, .ref x0), (1, .int (nI k)), (2, .int (nI j)), (3, .int (nI t)), (4, .int w), (5, .ref q)]) (st' := [.int (jb true)]) (ws' := [(x0, .inr (3, [.ref mp, .int (nI N), .ref rp, .int rl, .ref lt, .ref p1, .ref p2, .ref cz])), (mp, jaP g 10 T), (q, .inr (1, [.ref ca, .int (nI n)])), (ca, jaI g 224 f)]) ?_ rfl rfl (by rw [jBt_n ht (by omega)]) rfl
  refine j_if_ne (tgt := 39) C dX4_step_26 (by decide) (fun c_1 => ?_) (fun c_1 => ?_)
  · skip
    have c_1 : true = true := jb_1 c_1
    refine j_iload 4 C dX4_step_39 rfl ?_
    refine j_iconst (v := 0) C dX4_step_41 rfl ?_
    refine j_iconst (v := 3) C dX4_step_42 rfl ?_
    refine j_callRi (v := jb (jBt w 0 3)) (j_runS (As := [.int w, .int 0, .int 3]) (rest := []) [] C (c_X4_isBetween l g w 0 3) gX4_step_X4_isBetween rfl rfl rfl hd_X4_isBetween ⟨Nat.le_of_ble_eq_true rfl, Nat.le_of_ble_eq_true rfl⟩ rfl rfl dX4_step_43 rfl (Nat.le_of_ble_eq_true rfl) ⟨Nat.le_of_ble_eq_true rfl, Nat.le_of_ble_eq_true rfl⟩) ?_
    refine j_eq (pc' := 46) (L' := [(0, .ref x0), (1, .int (nI k)), (2, .int (nI j)), (3, .int (nI t)), (4, .int w), (5, .ref q)]) (st' := [.int (jb false)]) (ws' := [(x0, .inr (3, [.ref mp, .int (nI N), .ref rp, .int rl, .ref lt, .ref p1, .ref p2, .ref cz])), (mp, jaP g 10 T), (q, .inr (1, [.ref ca, .int (nI n)])), (ca, jaI g 224 f)]) ?_ rfl rfl (by rw [hw]) rfl
    refine j_if_ne (tgt := 59) C dX4_step_46 (by decide) (fun c_2 => ?_) (fun c_2 => ?_)
    · skip
      have c_2 : false = true := jb_1 c_2
      (first | exact absurd c_2 (by decide) | exact absurd c_2 (by omega) | simp_all)
    · skip
      have c_2 : false = false := jb_0 c_2
      exact j_throw (E := "java/lang/IndexOutOfBoundsException") (ik := 105) (is := 107) (ic := 109) C hst9 hX hZ ht9 (by decide) (by decide) (by decide) (List.mem_of_getElem? (i := 1) rfl) (List.mem_of_getElem? (i := 2) rfl) (fun w h => List.mem_cons_of_mem _ (by exact List.mem_append_right _ h)) jat_109 jot_109 dX4_step_49 dX4_step_52 dX4_step_53 dX4_step_55 dX4_step_58 (Nat.le_of_ble_eq_true rfl) (Nat.le_of_ble_eq_true rfl) (Nat.le_of_ble_eq_true rfl) (Nat.le_of_ble_eq_true rfl)
  · skip
    have c_1 : true = false := jb_0 c_1
    (first | exact absurd c_1 (by decide) | exact absurd c_1 (by omega) | simp_all)
set_option maxHeartbeats 4000000 in
set_option maxRecDepth 100000 in
theorem c_X4_step (l : Launch) (g : jG) (x0 mp N rp : Nat) (rl : Int32) (lt p1 p2 cz : Nat) (T : Nat → Option Nat) (k : Nat) (q ca n : Nat) (f : Nat → Int32) (j a t w : Nat) (hk : k < N) (hN : N ≤ 10) (hq : T k = some q) (hj : j < n) (hn : n ≤ 8) (ha : f (j * 28 + 3) = nI a) (ha6 : a ≤ 6) (ht : t < a) (hw : w < 4) : jWi l yX4_step wsX4_step ({ frames := 3, cells := 0, slots := 0, locals := 64 }) g [.ref x0, .int (nI k), .int (nI j), .int (nI t), .int (nI w)] [(x0, .inr (3, [.ref mp, .int (nI N), .ref rp, .int rl, .ref lt, .ref p1, .ref p2, .ref cz])), (mp, jaP g 10 T), (q, .inr (1, [.ref ca, .int (nI n)])), (ca, jaI g 224 f)] [(x0, .inr (3, [.ref mp, .int (nI N), .ref rp, .int rl, .ref lt, .ref p1, .ref p2, .ref cz])), (mp, jaP g 10 T), (q, .inr (1, [.ref ca, .int (nI n)])), (ca, jaI g 224 f)] (f (j * 28 + 4 + t * 4 + w)) := by
  refine j_enterW (Qc := fun sz_ => va_Qi (fun r (_ : Unit) => r = f (j * 28 + 4 + t * 4 + w)) (fun _ t => va_P g.1 vwCl [(x0, .inr (3, [.ref mp, .int (nI N), .ref rp, .int rl, .ref lt, .ref p1, .ref p2, .ref cz])), (mp, jaP g 10 T), (q, .inr (1, [.ref ca, .int (nI n)])), (ca, jaI g 224 f)] t.heap) (va_A [(x0, .inr (3, [.ref mp, .int (nI N), .ref rp, .int rl, .ref lt, .ref p1, .ref p2, .ref cz])), (mp, jaP g 10 T), (q, .inr (1, [.ref ca, .int (nI n)])), (ca, jaI g 224 f)] sz_)) (cc := cX4_step) (maxL := 6) (ret := (some .int)) (own := RX4) (L := [(0, .ref x0), (1, .int (nI k)), (2, .int (nI j)), (3, .int (nI t)), (4, .int (nI w))]) (by decide) rfl rfl (Nat.le_of_ble_eq_true rfl) rfl (fun p e s m args below meth c C hr => ?_)
  refine j_aload_n 0 C dX4_step_0 rfl rfl ?_
  refine j_iload_n 1 C dX4_step_1 rfl rfl ?_
  refine j_callRr (v := q) (j_runV (ci := 0) (As := [.int (nI k)]) (rest := []) [0, 1] C (c_X4_programAt l g x0 mp N rp rl lt p1 p2 cz T k q (by omega) (by omega) hq) gX4_step_X4_programAt rfl rfl rfl hd_X4_programAt ⟨Nat.le_of_ble_eq_true rfl, Nat.le_of_ble_eq_true rfl⟩ rfl rfl rfl rfl dX4_step_2 rfl (Nat.le_of_ble_eq_true rfl) ⟨Nat.le_of_ble_eq_true rfl, Nat.le_of_ble_eq_true rfl⟩) ?_
  refine j_astore (L' := [(0, .ref x0), (1, .int (nI k)), (2, .int (nI j)), (3, .int (nI t)), (4, .int (nI w)), (5, .ref q)]) C dX4_step_5 (Nat.le_of_ble_eq_true rfl) rfl rfl ?_
  refine j_aload 5 C dX4_step_7 rfl ?_
  refine j_iload_n 2 C dX4_step_9 rfl rfl ?_
  refine j_callWv [2, 3] (fun _ => [(x0, .inr (3, [.ref mp, .int (nI N), .ref rp, .int rl, .ref lt, .ref p1, .ref p2, .ref cz])), (mp, jaP g 10 T), (q, .inr (1, [.ref ca, .int (nI n)])), (ca, jaI g 224 f)]) C (j_runS (As := [.ref q, .int (nI j)]) (rest := []) [2, 3] C (c_X4_refuseOtherLoops l g q ca n f j (by omega) (by omega)) gX4_step_X4_refuseOtherLoops rfl rfl rfl hd_X4_refuseOtherLoops ⟨Nat.le_of_ble_eq_true rfl, Nat.le_of_ble_eq_true rfl⟩ rfl rfl dX4_step_10 rfl (Nat.le_of_ble_eq_true rfl) ⟨Nat.le_of_ble_eq_true rfl, Nat.le_of_ble_eq_true rfl⟩) rfl (fun _ => rfl) (fun _ => rfl) (fun _ _ => ?_)
  refine j_iload_n 3 C dX4_step_13 rfl rfl ?_
  refine j_iconst (v := 0) C dX4_step_14 rfl ?_
  refine j_aload 5 C dX4_step_15 rfl ?_
  refine j_iload_n 2 C dX4_step_17 rfl rfl ?_
  refine j_callRi (v := f (j * 28 + 3)) (j_runV (ci := 2) (As := [.int (nI j)]) (rest := [.int 0, .int (nI t)]) [2, 3] C (c_X1_countSteps l g q ca (nI n) f j (by omega)) gX4_step_X1_countSteps rfl rfl rfl hd_X1_countSteps ⟨Nat.le_of_ble_eq_true rfl, Nat.le_of_ble_eq_true rfl⟩ rfl rfl rfl rfl dX4_step_18 rfl (Nat.le_of_ble_eq_true rfl) ⟨Nat.le_of_ble_eq_true rfl, Nat.le_of_ble_eq_true rfl⟩) ?_
  refine j_eq (pc' := 21) (L' := [(0, .ref x0), (1, .int (nI k)), (2, .int (nI j)), (3, .int (nI t)), (4, .int (nI w)), (5, .ref q)]) (st' := [.int (nI a), .int 0, .int (nI t)]) (ws' := [(x0, .inr (3, [.ref mp, .int (nI N), .ref rp, .int rl, .ref lt, .ref p1, .ref p2, .ref cz])), (mp, jaP g 10 T), (q, .inr (1, [.ref ca, .int (nI n)])), (ca, jaI g 224 f)]) ?_ rfl rfl (by rw [ha]) rfl
  refine j_iconst (v := 1) C dX4_step_21 rfl ?_
  refine j_isub (x := nI a) (y := 1) (v := nI a - 1) C dX4_step_22 rfl ?_
  refine j_callRi (v := jb (jBt (nI t) 0 (nI a - 1))) (j_runS (As := [.int (nI t), .int 0, .int (nI a - 1)]) (rest := []) [] C (c_X4_isBetween l g (nI t) 0 (nI a - 1)) gX4_step_X4_isBetween rfl rfl rfl hd_X4_isBetween ⟨Nat.le_of_ble_eq_true rfl, Nat.le_of_ble_eq_true rfl⟩ rfl rfl dX4_step_23 rfl (Nat.le_of_ble_eq_true rfl) ⟨Nat.le_of_ble_eq_true rfl, Nat.le_of_ble_eq_true rfl⟩) ?_
  refine j_eq (pc' := 26) (L' := [(0, .ref x0), (1, .int (nI k)), (2, .int (nI j)), (3, .int (nI t)), (4, .int (nI w)), (5, .ref q)]) (st' := [.int (jb true)]) (ws' := [(x0, .inr (3, [.ref mp, .int (nI N), .ref rp, .int rl, .ref lt, .ref p1, .ref p2, .ref cz])), (mp, jaP g 10 T), (q, .inr (1, [.ref ca, .int (nI n)])), (ca, jaI g 224 f)]) ?_ rfl rfl (by rw [jBt_n ht (by omega)]) rfl
  refine j_if_ne (tgt := 39) C dX4_step_26 (by decide) (fun c_1 => ?_) (fun c_1 => ?_)
  · skip
    have c_1 : true = true := jb_1 c_1
    refine j_iload 4 C dX4_step_39 rfl ?_
    refine j_iconst (v := 0) C dX4_step_41 rfl ?_
    refine j_iconst (v := 3) C dX4_step_42 rfl ?_
    refine j_callRi (v := jb (jBt (nI w) 0 3)) (j_runS (As := [.int (nI w), .int 0, .int 3]) (rest := []) [] C (c_X4_isBetween l g (nI w) 0 3) gX4_step_X4_isBetween rfl rfl rfl hd_X4_isBetween ⟨Nat.le_of_ble_eq_true rfl, Nat.le_of_ble_eq_true rfl⟩ rfl rfl dX4_step_43 rfl (Nat.le_of_ble_eq_true rfl) ⟨Nat.le_of_ble_eq_true rfl, Nat.le_of_ble_eq_true rfl⟩) ?_
    refine j_eq (pc' := 46) (L' := [(0, .ref x0), (1, .int (nI k)), (2, .int (nI j)), (3, .int (nI t)), (4, .int (nI w)), (5, .ref q)]) (st' := [.int (jb true)]) (ws' := [(x0, .inr (3, [.ref mp, .int (nI N), .ref rp, .int rl, .ref lt, .ref p1, .ref p2, .ref cz])), (mp, jaP g 10 T), (q, .inr (1, [.ref ca, .int (nI n)])), (ca, jaI g 224 f)]) ?_ rfl rfl (by rw [(show jBt (nI w) 0 3 = true from jBt_m (N := 3) (by omega) (by omega))]) rfl
    refine j_if_ne (tgt := 59) C dX4_step_46 (by decide) (fun c_2 => ?_) (fun c_2 => ?_)
    · skip
      have c_2 : true = true := jb_1 c_2
      refine j_aload 5 C dX4_step_59 rfl ?_
      refine j_iload_n 2 C dX4_step_61 rfl rfl ?_
      refine j_iload_n 3 C dX4_step_62 rfl rfl ?_
      refine j_iload 4 C dX4_step_63 rfl ?_
      refine j_callRi (v := f (j * 28 + 4 + t * 4 + w)) (j_runV (ci := 2) (As := [.int (nI j), .int (nI t), .int (nI w)]) (rest := []) [2, 3] C (c_X1_stepFact l g q ca (nI n) f j t w (by omega)) gX4_step_X1_stepFact rfl rfl rfl hd_X1_stepFact ⟨Nat.le_of_ble_eq_true rfl, Nat.le_of_ble_eq_true rfl⟩ rfl rfl rfl rfl dX4_step_65 rfl (Nat.le_of_ble_eq_true rfl) ⟨Nat.le_of_ble_eq_true rfl, Nat.le_of_ble_eq_true rfl⟩) ?_
      exact j_iretW (v := f (j * 28 + 4 + t * 4 + w)) C hr dX4_step_68 () rfl rfl
    · skip
      have c_2 : true = false := jb_0 c_2
      (first | exact absurd c_2 (by decide) | exact absurd c_2 (by omega) | simp_all)
  · skip
    have c_1 : true = false := jb_0 c_1
    (first | exact absurd c_1 (by decide) | exact absurd c_1 (by omega) | simp_all)
set_option maxHeartbeats 4000000 in
set_option maxRecDepth 100000 in
theorem c_X4_put_s (l : Launch) (g : jG) (hst9 : l.stackTraces = false) (x0 mp N rp : Nat) (lt p1 p2 cz : Nat) (row : Nat → Int64) (z : Int64)  : jXt l yX4_put wsX4_put ({ frames := 6, cells := 1, slots := 6, locals := 82 }) g [.ref x0, .long z] [(x0, .inr (3, [.ref mp, .int (nI N), .ref rp, .int 40, .ref lt, .ref p1, .ref p2, .ref cz])), (rp, jaL g 40 row)] "java/lang/IllegalStateException" := by
  refine j_enterX (XC := fun sz_ => jXC g [(x0, .inr (3, [.ref mp, .int (nI N), .ref rp, .int 40, .ref lt, .ref p1, .ref p2, .ref cz])), (rp, jaL g 40 row)] "java/lang/IllegalStateException" (va_A [(x0, .inr (3, [.ref mp, .int (nI N), .ref rp, .int 40, .ref lt, .ref p1, .ref p2, .ref cz])), (rp, jaL g 40 row)] sz_)) (mc := 1) (ms := 6) (cc := cX4_put) (maxL := 3) (ret := (some .int)) (own := RX4) (L := [(0, .ref x0), (1, .long z)]) (by decide) rfl rfl (Nat.le_of_ble_eq_true rfl) rfl (fun p e s m args below meth c C ht9 hX hZ => ?_)
  refine j_aload_n 0 C dX4_put_0 rfl rfl ?_
  refine j_get (Cn := RX4) (T := TX4) (N := 8) 0 3 C dX4_put_1 hin_X4_put_X4 rfl rfl (by decide) (List.mem_of_getElem? (i := 3) rfl) rfl ?_
  refine j_if_lt (tgt := 19) C dX4_put_4 (by decide) (fun c_1 => ?_) (fun c_1 => ?_)
  · skip
    exact absurd c_1 (by decide)
  · skip
    refine j_aload_n 0 C dX4_put_7 rfl rfl ?_
    refine j_get (Cn := RX4) (T := TX4) (N := 8) 0 3 C dX4_put_8 hin_X4_put_X4 rfl rfl (by decide) (List.mem_of_getElem? (i := 3) rfl) rfl ?_
    refine j_aload_n 0 C dX4_put_11 rfl rfl ?_
    refine j_get (Cn := RX4) (T := TX4) (N := 8) 0 2 C dX4_put_12 hin_X4_put_X4 rfl rfl (by decide) (List.mem_of_getElem? (i := 4) rfl) rfl ?_
    refine j_alenL (v := 40) 1 C dX4_put_15 rfl rfl ?_
    refine j_icmp_lt (tgt := 29) C dX4_put_16 (by decide) (fun c_2 => ?_) (fun c_2 => ?_)
    · skip
      exact absurd c_2 (by decide)
    · skip
      exact j_throw (E := "java/lang/IllegalStateException") (ik := 73) (is := 118) (ic := 77) C hst9 hX hZ ht9 (by decide) (by decide) (by decide) (List.mem_of_getElem? (i := 1) rfl) (List.mem_of_getElem? (i := 2) rfl) (fun w h => List.mem_cons_of_mem _ (by exact List.mem_append_right _ h)) jat_77 jot_77 dX4_put_19 dX4_put_22 dX4_put_23 dX4_put_25 dX4_put_28 (Nat.le_of_ble_eq_true rfl) (Nat.le_of_ble_eq_true rfl) (Nat.le_of_ble_eq_true rfl) (Nat.le_of_ble_eq_true rfl)
set_option maxHeartbeats 4000000 in
set_option maxRecDepth 100000 in
theorem c_X4_put (l : Launch) (g : jG) (x0 mp N rp : Nat) (len : Nat) (lt p1 p2 cz : Nat) (row : Nat → Int64) (z : Int64) (hl : len < 40) : jWi l yX4_put wsX4_put ({ frames := 0, cells := 0, slots := 0, locals := 0 }) g [.ref x0, .long z] [(x0, .inr (3, [.ref mp, .int (nI N), .ref rp, .int (nI len), .ref lt, .ref p1, .ref p2, .ref cz])), (rp, jaL g 40 row)] [(x0, .inr (3, [.ref mp, .int (nI N), .ref rp, .int (nI (len + 1)), .ref lt, .ref p1, .ref p2, .ref cz])), (rp, jaL g 40 (vp_updL row len z))] (nI (len + 1)) := by
  refine j_enterW (Qc := fun sz_ => va_Qi (fun r (_ : Unit) => r = nI (len + 1)) (fun _ t => va_P g.1 vwCl [(x0, .inr (3, [.ref mp, .int (nI N), .ref rp, .int (nI (len + 1)), .ref lt, .ref p1, .ref p2, .ref cz])), (rp, jaL g 40 (vp_updL row len z))] t.heap) (va_A [(x0, .inr (3, [.ref mp, .int (nI N), .ref rp, .int (nI len), .ref lt, .ref p1, .ref p2, .ref cz])), (rp, jaL g 40 row)] sz_)) (cc := cX4_put) (maxL := 3) (ret := (some .int)) (own := RX4) (L := [(0, .ref x0), (1, .long z)]) (by decide) rfl rfl (Nat.le_of_ble_eq_true rfl) rfl (fun p e s m args below meth c C hr => ?_)
  refine j_aload_n 0 C dX4_put_0 rfl rfl ?_
  refine j_get (Cn := RX4) (T := TX4) (N := 8) 0 3 C dX4_put_1 hin_X4_put_X4 rfl rfl (by decide) (List.mem_of_getElem? (i := 3) rfl) rfl ?_
  refine j_if_lt (tgt := 19) C dX4_put_4 (by decide) (fun c_1 => ?_) (fun c_1 => ?_)
  · skip
    have c_1 : len < 0 := (nI_ltI (a := len) (b := 0) (by omega) (by omega)).mp c_1
    exact absurd c_1 (by omega)
  · skip
    have c_1 : ¬ len < 0 := fun z => c_1 ((nI_ltI (a := len) (b := 0) (by omega) (by omega)).mpr z)
    refine j_aload_n 0 C dX4_put_7 rfl rfl ?_
    refine j_get (Cn := RX4) (T := TX4) (N := 8) 0 3 C dX4_put_8 hin_X4_put_X4 rfl rfl (by decide) (List.mem_of_getElem? (i := 3) rfl) rfl ?_
    refine j_aload_n 0 C dX4_put_11 rfl rfl ?_
    refine j_get (Cn := RX4) (T := TX4) (N := 8) 0 2 C dX4_put_12 hin_X4_put_X4 rfl rfl (by decide) (List.mem_of_getElem? (i := 4) rfl) rfl ?_
    refine j_alenL (v := 40) 1 C dX4_put_15 rfl rfl ?_
    refine j_icmp_lt (tgt := 29) C dX4_put_16 (by decide) (fun c_2 => ?_) (fun c_2 => ?_)
    · skip
      have c_2 : len < 40 := (nI_ltI (a := len) (b := 40) (by omega) (by omega)).mp c_2
      refine j_aload_n 0 C dX4_put_29 rfl rfl ?_
      refine j_get (Cn := RX4) (T := TX4) (N := 8) 0 2 C dX4_put_30 hin_X4_put_X4 rfl rfl (by decide) (List.mem_of_getElem? (i := 4) rfl) rfl ?_
      refine j_aload_n 0 C dX4_put_33 rfl rfl ?_
      refine j_get (Cn := RX4) (T := TX4) (N := 8) 0 3 C dX4_put_34 hin_X4_put_X4 rfl rfl (by decide) (List.mem_of_getElem? (i := 3) rfl) rfl ?_
      refine j_lload_n 1 C dX4_put_37 rfl rfl ?_
      refine j_lastN (x := len) (ws' := [(x0, .inr (3, [.ref mp, .int (nI N), .ref rp, .int (nI len), .ref lt, .ref p1, .ref p2, .ref cz])), (rp, jaL g 40 (vp_updL row len z))]) 1 C dX4_put_38 rfl rfl (by omega) (by decide) rfl ?_
      refine j_aload_n 0 C dX4_put_39 rfl rfl ?_
      refine j_dup C dX4_put_40 rfl ?_
      refine j_get (Cn := RX4) (T := TX4) (N := 8) 0 3 C dX4_put_41 hin_X4_put_X4 rfl rfl (by decide) (List.mem_of_getElem? (i := 3) rfl) rfl ?_
      refine j_iconst (v := 1) C dX4_put_44 rfl ?_
      refine j_iadd (x := nI len) (y := 1) (v := nI (len + 1)) C dX4_put_45 (nI_add len 1) ?_
      refine j_put (Cn := RX4) (T := TX4) (N := 8) (ws' := [(x0, .inr (3, [.ref mp, .int (nI N), .ref rp, .int (nI (len + 1)), .ref lt, .ref p1, .ref p2, .ref cz])), (rp, jaL g 40 (vp_updL row len z))]) tyX4 0 3 C dX4_put_46 hin_X4_put_X4 tyX4_ok nmX4 rfl rfl (by decide) (List.mem_of_getElem? (i := 3) rfl) rfl (tyX4_ok 3 (by decide)) rfl rfl (Nat.le_of_ble_eq_true rfl) rfl ?_
      refine j_aload_n 0 C dX4_put_49 rfl rfl ?_
      refine j_get (Cn := RX4) (T := TX4) (N := 8) 0 3 C dX4_put_50 hin_X4_put_X4 rfl rfl (by decide) (List.mem_of_getElem? (i := 3) rfl) rfl ?_
      exact j_iretW (v := nI (len + 1)) C hr dX4_put_53 () rfl rfl
    · skip
      have c_2 : ¬ len < 40 := fun z => c_2 ((nI_ltI (a := len) (b := 40) (by omega) (by omega)).mpr z)
      exact absurd c_2 (by omega)
set_option maxHeartbeats 4000000 in
set_option maxRecDepth 100000 in
theorem c_X4_empty (l : Launch) (g : jG) (x0 mp N rp : Nat) (rl : Int32) (lt p1 p2 cz : Nat)  : jWi l yX4_empty wsX4_empty ({ frames := 0, cells := 0, slots := 0, locals := 0 }) g [.ref x0] [(x0, .inr (3, [.ref mp, .int (nI N), .ref rp, .int rl, .ref lt, .ref p1, .ref p2, .ref cz]))] [(x0, .inr (3, [.ref mp, .int (nI N), .ref rp, .int 0, .ref lt, .ref p1, .ref p2, .ref cz]))] rl := by
  refine j_enterW (Qc := fun sz_ => va_Qi (fun r (_ : Unit) => r = rl) (fun _ t => va_P g.1 vwCl [(x0, .inr (3, [.ref mp, .int (nI N), .ref rp, .int 0, .ref lt, .ref p1, .ref p2, .ref cz]))] t.heap) (va_A [(x0, .inr (3, [.ref mp, .int (nI N), .ref rp, .int rl, .ref lt, .ref p1, .ref p2, .ref cz]))] sz_)) (cc := cX4_empty) (maxL := 2) (ret := (some .int)) (own := RX4) (L := [(0, .ref x0)]) (by decide) rfl rfl (Nat.le_of_ble_eq_true rfl) rfl (fun p e s m args below meth c C hr => ?_)
  refine j_aload_n 0 C dX4_empty_0 rfl rfl ?_
  refine j_get (Cn := RX4) (T := TX4) (N := 8) 0 3 C dX4_empty_1 hin_X4_empty_X4 rfl rfl (by decide) (List.mem_of_getElem? (i := 1) rfl) rfl ?_
  refine j_istore_n (L' := [(0, .ref x0), (1, .int rl)]) C dX4_empty_4 rfl (Nat.le_of_ble_eq_true rfl) rfl rfl ?_
  refine j_aload_n 0 C dX4_empty_5 rfl rfl ?_
  refine j_iconst (v := 0) C dX4_empty_6 rfl ?_
  refine j_put (Cn := RX4) (T := TX4) (N := 8) (ws' := [(x0, .inr (3, [.ref mp, .int (nI N), .ref rp, .int 0, .ref lt, .ref p1, .ref p2, .ref cz]))]) tyX4 0 3 C dX4_empty_7 hin_X4_empty_X4 tyX4_ok nmX4 rfl rfl (by decide) (List.mem_of_getElem? (i := 1) rfl) rfl (tyX4_ok 3 (by decide)) rfl rfl (Nat.le_of_ble_eq_true rfl) rfl ?_
  refine j_iload_n 1 C dX4_empty_10 rfl rfl ?_
  exact j_iretW (v := rl) C hr dX4_empty_11 () rfl rfl
set_option maxHeartbeats 4000000 in
set_option maxRecDepth 100000 in
theorem c_X4_run_p (l : Launch) (g : jG) (hst9 : l.stackTraces = false) (x0 mp N rp : Nat) (rl : Int32) (lt p1 p2 cz : Nat) (T : Nat → Option Nat) (x : Int32) (hx : jBt x 0 (nI N - 1) = false) (hN : N ≤ 10) (hT : ∀ i, N ≤ i → T i = none) : jXt l yX4_run wsX4_run ({ frames := 8, cells := 1, slots := 6, locals := 142 }) g [.ref x0, .int x] [(x0, .inr (3, [.ref mp, .int (nI N), .ref rp, .int rl, .ref lt, .ref p1, .ref p2, .ref cz])), (mp, jaP g 10 T)] "java/lang/IndexOutOfBoundsException" := by
  refine j_enterX (XC := fun sz_ => jXC g [(x0, .inr (3, [.ref mp, .int (nI N), .ref rp, .int rl, .ref lt, .ref p1, .ref p2, .ref cz])), (mp, jaP g 10 T)] "java/lang/IndexOutOfBoundsException" (va_A [(x0, .inr (3, [.ref mp, .int (nI N), .ref rp, .int rl, .ref lt, .ref p1, .ref p2, .ref cz])), (mp, jaP g 10 T)] sz_)) (mc := 1) (ms := 6) (cc := cX4_run) (maxL := 3) (ret := (some .int)) (own := RX4) (L := [(0, .ref x0), (1, .int x)]) (by decide) rfl rfl (Nat.le_of_ble_eq_true rfl) rfl (fun p e s m args below meth c C ht9 hX hZ => ?_)
  refine j_aload_n 0 C dX4_run_0 rfl rfl ?_
  refine j_iload_n 1 C dX4_run_1 rfl rfl ?_
  exact j_xV (ci := 0) (As := [.int x]) (rest := []) [0, 1] C hX hZ ht9 (c_X4_programAt_x l g hst9 x0 mp N rp rl lt p1 p2 cz T x (by omega) (by omega) hT) gX4_run_X4_programAt rfl rfl rfl hd_X4_programAt ⟨Nat.le_of_ble_eq_true rfl, Nat.le_of_ble_eq_true rfl⟩ rfl rfl rfl rfl rfl dX4_run_2 rfl (Nat.le_of_ble_eq_true rfl) ⟨Nat.le_of_ble_eq_true rfl, Nat.le_of_ble_eq_true rfl⟩
set_option maxHeartbeats 4000000 in
set_option maxRecDepth 100000 in
theorem c_X4_run (l : Launch) (g : jG) (x0 mp N rp : Nat) (len : Nat) (lt p1 p2 cz : Nat) (T : Nat → Option Nat) (k : Nat) (q ca n : Nat) (f : Nat → Int32) (vr : Nat) (lk cd : Int32) (vv : Nat → Int64) (row : Nat → Int64) (hk : k < N) (hN : N ≤ 10) (hq : T k = some q) (hok : jOk n f) (hl : len ≤ 40) : jWi l yX4_run wsX4_run ({ frames := 6, cells := 0, slots := 0, locals := 148 }) g [.ref x0, .int (nI k)] [(x0, .inr (3, [.ref mp, .int (nI N), .ref rp, .int (nI len), .ref lt, .ref p1, .ref p2, .ref cz])), (mp, jaP g 10 T), (q, .inr (1, [.ref ca, .int (nI n)])), (ca, jaI g 224 f), (rp, jaL g 40 row), (lt, .inr (2, [.ref vr, .int lk, .int cd])), (vr, jaL g 4 vv)] [(x0, .inr (3, [.ref mp, .int (nI N), .ref rp, .int (nI len), .ref lt, .ref p1, .ref p2, .ref cz])), (mp, jaP g 10 T), (q, .inr (1, [.ref ca, .int (nI n)])), (ca, jaI g 224 f), (rp, jaL g 40 row), (lt, .inr (2, [.ref vr, .int ((jRn n f row len).2.1), .int ((jRn n f row len).2.2)])), (vr, jaL g 4 ((jRn n f row len).1))] ((jRn n f row len).2.2) := by
  refine j_enterW (Qc := fun sz_ => va_Qi (fun r (_ : Unit) => r = (jRn n f row len).2.2) (fun _ t => va_P g.1 vwCl [(x0, .inr (3, [.ref mp, .int (nI N), .ref rp, .int (nI len), .ref lt, .ref p1, .ref p2, .ref cz])), (mp, jaP g 10 T), (q, .inr (1, [.ref ca, .int (nI n)])), (ca, jaI g 224 f), (rp, jaL g 40 row), (lt, .inr (2, [.ref vr, .int ((jRn n f row len).2.1), .int ((jRn n f row len).2.2)])), (vr, jaL g 4 ((jRn n f row len).1))] t.heap) (va_A [(x0, .inr (3, [.ref mp, .int (nI N), .ref rp, .int (nI len), .ref lt, .ref p1, .ref p2, .ref cz])), (mp, jaP g 10 T), (q, .inr (1, [.ref ca, .int (nI n)])), (ca, jaI g 224 f), (rp, jaL g 40 row), (lt, .inr (2, [.ref vr, .int lk, .int cd])), (vr, jaL g 4 vv)] sz_)) (cc := cX4_run) (maxL := 3) (ret := (some .int)) (own := RX4) (L := [(0, .ref x0), (1, .int (nI k))]) (by decide) rfl rfl (Nat.le_of_ble_eq_true rfl) rfl (fun p e s m args below meth c C hr => ?_)
  refine j_aload_n 0 C dX4_run_0 rfl rfl ?_
  refine j_iload_n 1 C dX4_run_1 rfl rfl ?_
  refine j_callRr (v := q) (j_runV (ci := 0) (As := [.int (nI k)]) (rest := []) [0, 1] C (c_X4_programAt l g x0 mp N rp (nI len) lt p1 p2 cz T k q (by omega) (by omega) hq) gX4_run_X4_programAt rfl rfl rfl hd_X4_programAt ⟨Nat.le_of_ble_eq_true rfl, Nat.le_of_ble_eq_true rfl⟩ rfl rfl rfl rfl dX4_run_2 rfl (Nat.le_of_ble_eq_true rfl) ⟨Nat.le_of_ble_eq_true rfl, Nat.le_of_ble_eq_true rfl⟩) ?_
  refine j_astore_n (L' := [(0, .ref x0), (1, .int (nI k)), (2, .ref q)]) C dX4_run_5 rfl (Nat.le_of_ble_eq_true rfl) rfl rfl ?_
  refine j_aload_n 0 C dX4_run_6 rfl rfl ?_
  refine j_get (Cn := RX4) (T := TX4) (N := 8) 0 4 C dX4_run_7 hin_X4_run_X4 rfl rfl (by decide) (List.mem_of_getElem? (i := 1) rfl) rfl ?_
  refine j_aload_n 2 C dX4_run_10 rfl rfl ?_
  refine j_aload_n 0 C dX4_run_11 rfl rfl ?_
  refine j_get (Cn := RX4) (T := TX4) (N := 8) 0 2 C dX4_run_12 hin_X4_run_X4 rfl rfl (by decide) (List.mem_of_getElem? (i := 2) rfl) rfl ?_
  refine j_aload_n 0 C dX4_run_15 rfl rfl ?_
  refine j_get (Cn := RX4) (T := TX4) (N := 8) 0 3 C dX4_run_16 hin_X4_run_X4 rfl rfl (by decide) (List.mem_of_getElem? (i := 3) rfl) rfl ?_
  refine j_callWv [5, 6, 2, 3, 4] (fun _ => [(x0, .inr (3, [.ref mp, .int (nI N), .ref rp, .int (nI len), .ref lt, .ref p1, .ref p2, .ref cz])), (mp, jaP g 10 T), (q, .inr (1, [.ref ca, .int (nI n)])), (ca, jaI g 224 f), (rp, jaL g 40 row), (lt, .inr (2, [.ref vr, .int ((jRn n f row len).2.1), .int ((jRn n f row len).2.2)])), (vr, jaL g 4 ((jRn n f row len).1))]) C (j_runV (ci := 5) (As := [.ref q, .ref rp, .int (nI len)]) (rest := []) [5, 6, 2, 3, 4] C (c_X3_goThrough l g lt vr lk cd vv q ca n f rp len 40 row (by omega) (by omega) (by omega)) gX4_run_X3_goThrough rfl rfl rfl hd_X3_goThrough ⟨Nat.le_of_ble_eq_true rfl, Nat.le_of_ble_eq_true rfl⟩ rfl rfl rfl rfl dX4_run_19 rfl (Nat.le_of_ble_eq_true rfl) ⟨Nat.le_of_ble_eq_true rfl, Nat.le_of_ble_eq_true rfl⟩) rfl (fun _ => rfl) (fun _ => rfl) (fun _ _ => ?_)
  refine j_aload_n 0 C dX4_run_22 rfl rfl ?_
  refine j_get (Cn := RX4) (T := TX4) (N := 8) 0 4 C dX4_run_23 hin_X4_run_X4 rfl rfl (by decide) (List.mem_of_getElem? (i := 1) rfl) rfl ?_
  refine j_callRi (v := ((jRn n f row len).2.2)) (j_runV (ci := 5) (As := []) (rest := []) [5, 6] C (c_X3_codeOfExit l g lt vr ((jRn n f row len).2.1) ((jRn n f row len).2.2) ((jRn n f row len).1)) gX4_run_X3_codeOfExit rfl rfl rfl hd_X3_codeOfExit ⟨Nat.le_of_ble_eq_true rfl, Nat.le_of_ble_eq_true rfl⟩ rfl rfl rfl rfl dX4_run_26 rfl (Nat.le_of_ble_eq_true rfl) ⟨Nat.le_of_ble_eq_true rfl, Nat.le_of_ble_eq_true rfl⟩) ?_
  exact j_iretW (v := ((jRn n f row len).2.2)) C hr dX4_run_29 () rfl rfl
set_option maxHeartbeats 4000000 in
set_option maxRecDepth 100000 in
theorem c_X4_ran_w (l : Launch) (g : jG) (hst9 : l.stackTraces = false) (x0 mp N rp : Nat) (rl : Int32) (lt p1 p2 cz : Nat) (w : Int32) (hw : jBt w 0 4 = false) : jXt l yX4_ran wsX4_ran ({ frames := 6, cells := 1, slots := 6, locals := 82 }) g [.ref x0, .int w] [(x0, .inr (3, [.ref mp, .int (nI N), .ref rp, .int rl, .ref lt, .ref p1, .ref p2, .ref cz]))] "java/lang/IndexOutOfBoundsException" := by
  refine j_enterX (XC := fun sz_ => jXC g [(x0, .inr (3, [.ref mp, .int (nI N), .ref rp, .int rl, .ref lt, .ref p1, .ref p2, .ref cz]))] "java/lang/IndexOutOfBoundsException" (va_A [(x0, .inr (3, [.ref mp, .int (nI N), .ref rp, .int rl, .ref lt, .ref p1, .ref p2, .ref cz]))] sz_)) (mc := 1) (ms := 6) (cc := cX4_ran) (maxL := 2) (ret := (some .long)) (own := RX4) (L := [(0, .ref x0), (1, .int w)]) (by decide) rfl rfl (Nat.le_of_ble_eq_true rfl) rfl (fun p e s m args below meth c C ht9 hX hZ => ?_)
  refine j_iload_n 1 C dX4_ran_0 rfl rfl ?_
  refine j_iconst (v := 0) C dX4_ran_1 rfl ?_
  refine j_iconst (v := 4) C dX4_ran_2 rfl ?_
  refine j_callRi (v := jb (jBt w 0 4)) (j_runS (As := [.int w, .int 0, .int 4]) (rest := []) [] C (c_X4_isBetween l g w 0 4) gX4_ran_X4_isBetween rfl rfl rfl hd_X4_isBetween ⟨Nat.le_of_ble_eq_true rfl, Nat.le_of_ble_eq_true rfl⟩ rfl rfl dX4_ran_3 rfl (Nat.le_of_ble_eq_true rfl) ⟨Nat.le_of_ble_eq_true rfl, Nat.le_of_ble_eq_true rfl⟩) ?_
  refine j_eq (pc' := 6) (L' := [(0, .ref x0), (1, .int w)]) (st' := [.int (jb false)]) (ws' := [(x0, .inr (3, [.ref mp, .int (nI N), .ref rp, .int rl, .ref lt, .ref p1, .ref p2, .ref cz]))]) ?_ rfl rfl (by rw [hw]) rfl
  refine j_if_ne (tgt := 19) C dX4_ran_6 (by decide) (fun c_1 => ?_) (fun c_1 => ?_)
  · skip
    have c_1 : false = true := jb_1 c_1
    (first | exact absurd c_1 (by decide) | exact absurd c_1 (by omega) | simp_all)
  · skip
    have c_1 : false = false := jb_0 c_1
    exact j_throw (E := "java/lang/IndexOutOfBoundsException") (ik := 105) (is := 127) (ic := 109) C hst9 hX hZ ht9 (by decide) (by decide) (by decide) (List.mem_of_getElem? (i := 1) rfl) (List.mem_of_getElem? (i := 2) rfl) (fun w h => List.mem_cons_of_mem _ (by exact List.mem_append_right _ h)) jat_109 jot_109 dX4_ran_9 dX4_ran_12 dX4_ran_13 dX4_ran_15 dX4_ran_18 (Nat.le_of_ble_eq_true rfl) (Nat.le_of_ble_eq_true rfl) (Nat.le_of_ble_eq_true rfl) (Nat.le_of_ble_eq_true rfl)
set_option maxHeartbeats 4000000 in
set_option maxRecDepth 100000 in
theorem c_X4_ran_4 (l : Launch) (g : jG) (x0 mp N rp : Nat) (rl : Int32) (lt p1 p2 cz : Nat) (vr : Nat) (lk cd : Int32) (vv : Nat → Int64)  : jRl l yX4_ran wsX4_ran ({ frames := 1, cells := 0, slots := 0, locals := 22 }) g [.ref x0, .int 4] [(x0, .inr (3, [.ref mp, .int (nI N), .ref rp, .int rl, .ref lt, .ref p1, .ref p2, .ref cz])), (lt, .inr (2, [.ref vr, .int lk, .int cd])), (vr, jaL g 4 vv)] lk.toInt64 := by
  refine j_enterR (cc := cX4_ran) (maxL := 2) (ret := (some .long)) (own := RX4) (L := [(0, .ref x0), (1, .int 4)]) (by decide) rfl rfl (Nat.le_of_ble_eq_true rfl) rfl (fun p e s m args below meth c C hr => ?_)
  refine j_iload_n 1 C dX4_ran_0 rfl rfl ?_
  refine j_iconst (v := 0) C dX4_ran_1 rfl ?_
  refine j_iconst (v := 4) C dX4_ran_2 rfl ?_
  refine j_callRi (v := jb (jBt 4 0 4)) (j_runS (As := [.int 4, .int 0, .int 4]) (rest := []) [] C (c_X4_isBetween l g 4 0 4) gX4_ran_X4_isBetween rfl rfl rfl hd_X4_isBetween ⟨Nat.le_of_ble_eq_true rfl, Nat.le_of_ble_eq_true rfl⟩ rfl rfl dX4_ran_3 rfl (Nat.le_of_ble_eq_true rfl) ⟨Nat.le_of_ble_eq_true rfl, Nat.le_of_ble_eq_true rfl⟩) ?_
  refine j_eq (pc' := 6) (L' := [(0, .ref x0), (1, .int 4)]) (st' := [.int (jb true)]) (ws' := [(x0, .inr (3, [.ref mp, .int (nI N), .ref rp, .int rl, .ref lt, .ref p1, .ref p2, .ref cz])), (lt, .inr (2, [.ref vr, .int lk, .int cd])), (vr, jaL g 4 vv)]) ?_ rfl rfl (by rw [(show jBt 4 0 4 = true by decide)]) rfl
  refine j_if_ne (tgt := 19) C dX4_ran_6 (by decide) (fun c_1 => ?_) (fun c_1 => ?_)
  · skip
    have c_1 : true = true := jb_1 c_1
    refine j_aload_n 0 C dX4_ran_19 rfl rfl ?_
    refine j_get (Cn := RX4) (T := TX4) (N := 8) 0 4 C dX4_ran_20 hin_X4_ran_X4 rfl rfl (by decide) (List.mem_of_getElem? (i := 3) rfl) rfl ?_
    refine j_iload_n 1 C dX4_ran_23 rfl rfl ?_
    refine j_callRl (v := lk.toInt64) (j_runV (ci := 1) (As := [.int 4]) (rest := []) [1, 2] C (c_X3_fact_4 l g lt vr lk cd vv) gX4_ran_X3_fact rfl rfl rfl hd_X3_fact ⟨Nat.le_of_ble_eq_true rfl, Nat.le_of_ble_eq_true rfl⟩ rfl rfl rfl rfl dX4_ran_24 rfl (Nat.le_of_ble_eq_true rfl) ⟨Nat.le_of_ble_eq_true rfl, Nat.le_of_ble_eq_true rfl⟩) ?_
    exact j_lretR (v := lk.toInt64) C hr dX4_ran_27 rfl
  · skip
    have c_1 : true = false := jb_0 c_1
    (first | exact absurd c_1 (by decide) | exact absurd c_1 (by omega) | simp_all)
set_option maxHeartbeats 4000000 in
set_option maxRecDepth 100000 in
theorem c_X4_ran (l : Launch) (g : jG) (x0 mp N rp : Nat) (rl : Int32) (lt p1 p2 cz : Nat) (vr : Nat) (lk cd : Int32) (vv : Nat → Int64) (w : Nat) (hw : w < 4) : jRl l yX4_ran wsX4_ran ({ frames := 2, cells := 0, slots := 0, locals := 42 }) g [.ref x0, .int (nI w)] [(x0, .inr (3, [.ref mp, .int (nI N), .ref rp, .int rl, .ref lt, .ref p1, .ref p2, .ref cz])), (lt, .inr (2, [.ref vr, .int lk, .int cd])), (vr, jaL g 4 vv)] (vv w) := by
  refine j_enterR (cc := cX4_ran) (maxL := 2) (ret := (some .long)) (own := RX4) (L := [(0, .ref x0), (1, .int (nI w))]) (by decide) rfl rfl (Nat.le_of_ble_eq_true rfl) rfl (fun p e s m args below meth c C hr => ?_)
  refine j_iload_n 1 C dX4_ran_0 rfl rfl ?_
  refine j_iconst (v := 0) C dX4_ran_1 rfl ?_
  refine j_iconst (v := 4) C dX4_ran_2 rfl ?_
  refine j_callRi (v := jb (jBt (nI w) 0 4)) (j_runS (As := [.int (nI w), .int 0, .int 4]) (rest := []) [] C (c_X4_isBetween l g (nI w) 0 4) gX4_ran_X4_isBetween rfl rfl rfl hd_X4_isBetween ⟨Nat.le_of_ble_eq_true rfl, Nat.le_of_ble_eq_true rfl⟩ rfl rfl dX4_ran_3 rfl (Nat.le_of_ble_eq_true rfl) ⟨Nat.le_of_ble_eq_true rfl, Nat.le_of_ble_eq_true rfl⟩) ?_
  refine j_eq (pc' := 6) (L' := [(0, .ref x0), (1, .int (nI w))]) (st' := [.int (jb true)]) (ws' := [(x0, .inr (3, [.ref mp, .int (nI N), .ref rp, .int rl, .ref lt, .ref p1, .ref p2, .ref cz])), (lt, .inr (2, [.ref vr, .int lk, .int cd])), (vr, jaL g 4 vv)]) ?_ rfl rfl (by rw [(show jBt (nI w) 0 4 = true from jBt_m (N := 4) (by omega) (by omega))]) rfl
  refine j_if_ne (tgt := 19) C dX4_ran_6 (by decide) (fun c_1 => ?_) (fun c_1 => ?_)
  · skip
    have c_1 : true = true := jb_1 c_1
    refine j_aload_n 0 C dX4_ran_19 rfl rfl ?_
    refine j_get (Cn := RX4) (T := TX4) (N := 8) 0 4 C dX4_ran_20 hin_X4_ran_X4 rfl rfl (by decide) (List.mem_of_getElem? (i := 3) rfl) rfl ?_
    refine j_iload_n 1 C dX4_ran_23 rfl rfl ?_
    refine j_callRl (v := vv w) (j_runV (ci := 1) (As := [.int (nI w)]) (rest := []) [1, 2] C (c_X3_fact l g lt vr lk cd vv w (by omega)) gX4_ran_X3_fact rfl rfl rfl hd_X3_fact ⟨Nat.le_of_ble_eq_true rfl, Nat.le_of_ble_eq_true rfl⟩ rfl rfl rfl rfl dX4_ran_24 rfl (Nat.le_of_ble_eq_true rfl) ⟨Nat.le_of_ble_eq_true rfl, Nat.le_of_ble_eq_true rfl⟩) ?_
    exact j_lretR (v := vv w) C hr dX4_ran_27 rfl
  · skip
    have c_1 : true = false := jb_0 c_1
    (first | exact absurd c_1 (by decide) | exact absurd c_1 (by omega) | simp_all)
set_option maxHeartbeats 4000000 in
set_option maxRecDepth 100000 in
theorem c_X4_lastLoopFor_0 (l : Launch) (g : jG) (q ca n : Nat) (f : Nat → Int32)  : jRi l yX4_lastLoopFor wsX4_lastLoopFor ({ frames := 1, cells := 0, slots := 0, locals := 40 }) g [.ref q, .int 0] [(q, .inr (1, [.ref ca, .int (nI n)])), (ca, jaI g 224 f)] (nI n - 2) := by
  refine j_enterR (cc := cX4_lastLoopFor) (maxL := 3) (ret := (some .int)) (own := RX4) (L := [(0, .ref q), (1, .int 0)]) (by decide) rfl rfl (Nat.le_of_ble_eq_true rfl) rfl (fun p e s m args below meth c C hr => ?_)
  refine j_iload_n 1 C dX4_lastLoopFor_0 rfl rfl ?_
  refine j_iconst (v := 5) C dX4_lastLoopFor_1 rfl ?_
  refine j_icmp_ne (tgt := 7) C dX4_lastLoopFor_2 (by decide) (fun c_1 => ?_) (fun c_1 => ?_)
  · skip
    refine j_aload_n 0 C dX4_lastLoopFor_7 rfl rfl ?_
    refine j_callRi (v := nI n) (j_runV (ci := 0) (As := []) (rest := []) [0, 1] C (c_X1_countLoops l g q ca (nI n) f) gX4_lastLoopFor_X1_countLoops rfl rfl rfl hd_X1_countLoops ⟨Nat.le_of_ble_eq_true rfl, Nat.le_of_ble_eq_true rfl⟩ rfl rfl rfl rfl dX4_lastLoopFor_8 rfl (Nat.le_of_ble_eq_true rfl) ⟨Nat.le_of_ble_eq_true rfl, Nat.le_of_ble_eq_true rfl⟩) ?_
    refine j_iconst (v := 1) C dX4_lastLoopFor_11 rfl ?_
    refine j_isub (x := nI n) (y := 1) (v := nI n - 1) C dX4_lastLoopFor_12 rfl ?_
    refine j_istore_n (L' := [(0, .ref q), (1, .int 0), (2, .int (nI n - 1))]) C dX4_lastLoopFor_13 rfl (Nat.le_of_ble_eq_true rfl) rfl rfl ?_
    refine j_iload_n 1 C dX4_lastLoopFor_14 rfl rfl ?_
    refine j_if_eq (tgt := 23) C dX4_lastLoopFor_15 (by decide) (fun c_2 => ?_) (fun c_2 => ?_)
    · skip
      refine j_iload_n 2 C dX4_lastLoopFor_23 rfl rfl ?_
      refine j_iconst (v := 1) C dX4_lastLoopFor_24 rfl ?_
      refine j_isub (x := nI n - 1) (y := 1) (v := nI n - 2) C dX4_lastLoopFor_25 (jI_m2 n) ?_
      refine j_goto (tgt := 30) C dX4_lastLoopFor_26 (by decide) ?_
      exact j_iretR (v := nI n - 2) C hr dX4_lastLoopFor_30 rfl
    · skip
      exact absurd c_2 (by decide)
  · skip
    exact absurd c_1 (by decide)
set_option maxHeartbeats 4000000 in
set_option maxRecDepth 100000 in
theorem c_X4_lastLoopFor_1 (l : Launch) (g : jG) (q ca n : Nat) (f : Nat → Int32)  : jRi l yX4_lastLoopFor wsX4_lastLoopFor ({ frames := 1, cells := 0, slots := 0, locals := 40 }) g [.ref q, .int 1] [(q, .inr (1, [.ref ca, .int (nI n)])), (ca, jaI g 224 f)] (nI n - 1) := by
  refine j_enterR (cc := cX4_lastLoopFor) (maxL := 3) (ret := (some .int)) (own := RX4) (L := [(0, .ref q), (1, .int 1)]) (by decide) rfl rfl (Nat.le_of_ble_eq_true rfl) rfl (fun p e s m args below meth c C hr => ?_)
  refine j_iload_n 1 C dX4_lastLoopFor_0 rfl rfl ?_
  refine j_iconst (v := 5) C dX4_lastLoopFor_1 rfl ?_
  refine j_icmp_ne (tgt := 7) C dX4_lastLoopFor_2 (by decide) (fun c_1 => ?_) (fun c_1 => ?_)
  · skip
    refine j_aload_n 0 C dX4_lastLoopFor_7 rfl rfl ?_
    refine j_callRi (v := nI n) (j_runV (ci := 0) (As := []) (rest := []) [0, 1] C (c_X1_countLoops l g q ca (nI n) f) gX4_lastLoopFor_X1_countLoops rfl rfl rfl hd_X1_countLoops ⟨Nat.le_of_ble_eq_true rfl, Nat.le_of_ble_eq_true rfl⟩ rfl rfl rfl rfl dX4_lastLoopFor_8 rfl (Nat.le_of_ble_eq_true rfl) ⟨Nat.le_of_ble_eq_true rfl, Nat.le_of_ble_eq_true rfl⟩) ?_
    refine j_iconst (v := 1) C dX4_lastLoopFor_11 rfl ?_
    refine j_isub (x := nI n) (y := 1) (v := nI n - 1) C dX4_lastLoopFor_12 rfl ?_
    refine j_istore_n (L' := [(0, .ref q), (1, .int 1), (2, .int (nI n - 1))]) C dX4_lastLoopFor_13 rfl (Nat.le_of_ble_eq_true rfl) rfl rfl ?_
    refine j_iload_n 1 C dX4_lastLoopFor_14 rfl rfl ?_
    refine j_if_eq (tgt := 23) C dX4_lastLoopFor_15 (by decide) (fun c_2 => ?_) (fun c_2 => ?_)
    · skip
      exact absurd c_2 (by decide)
    · skip
      refine j_iload_n 1 C dX4_lastLoopFor_18 rfl rfl ?_
      refine j_iconst (v := 4) C dX4_lastLoopFor_19 rfl ?_
      refine j_icmp_ne (tgt := 29) C dX4_lastLoopFor_20 (by decide) (fun c_3 => ?_) (fun c_3 => ?_)
      · skip
        refine j_iload_n 2 C dX4_lastLoopFor_29 rfl rfl ?_
        exact j_iretR (v := nI n - 1) C hr dX4_lastLoopFor_30 rfl
      · skip
        exact absurd c_3 (by decide)
  · skip
    exact absurd c_1 (by decide)
set_option maxHeartbeats 4000000 in
set_option maxRecDepth 100000 in
theorem c_X4_lastLoopFor_2 (l : Launch) (g : jG) (q ca n : Nat) (f : Nat → Int32)  : jRi l yX4_lastLoopFor wsX4_lastLoopFor ({ frames := 1, cells := 0, slots := 0, locals := 40 }) g [.ref q, .int 2] [(q, .inr (1, [.ref ca, .int (nI n)])), (ca, jaI g 224 f)] (nI n - 1) := by
  refine j_enterR (cc := cX4_lastLoopFor) (maxL := 3) (ret := (some .int)) (own := RX4) (L := [(0, .ref q), (1, .int 2)]) (by decide) rfl rfl (Nat.le_of_ble_eq_true rfl) rfl (fun p e s m args below meth c C hr => ?_)
  refine j_iload_n 1 C dX4_lastLoopFor_0 rfl rfl ?_
  refine j_iconst (v := 5) C dX4_lastLoopFor_1 rfl ?_
  refine j_icmp_ne (tgt := 7) C dX4_lastLoopFor_2 (by decide) (fun c_1 => ?_) (fun c_1 => ?_)
  · skip
    refine j_aload_n 0 C dX4_lastLoopFor_7 rfl rfl ?_
    refine j_callRi (v := nI n) (j_runV (ci := 0) (As := []) (rest := []) [0, 1] C (c_X1_countLoops l g q ca (nI n) f) gX4_lastLoopFor_X1_countLoops rfl rfl rfl hd_X1_countLoops ⟨Nat.le_of_ble_eq_true rfl, Nat.le_of_ble_eq_true rfl⟩ rfl rfl rfl rfl dX4_lastLoopFor_8 rfl (Nat.le_of_ble_eq_true rfl) ⟨Nat.le_of_ble_eq_true rfl, Nat.le_of_ble_eq_true rfl⟩) ?_
    refine j_iconst (v := 1) C dX4_lastLoopFor_11 rfl ?_
    refine j_isub (x := nI n) (y := 1) (v := nI n - 1) C dX4_lastLoopFor_12 rfl ?_
    refine j_istore_n (L' := [(0, .ref q), (1, .int 2), (2, .int (nI n - 1))]) C dX4_lastLoopFor_13 rfl (Nat.le_of_ble_eq_true rfl) rfl rfl ?_
    refine j_iload_n 1 C dX4_lastLoopFor_14 rfl rfl ?_
    refine j_if_eq (tgt := 23) C dX4_lastLoopFor_15 (by decide) (fun c_2 => ?_) (fun c_2 => ?_)
    · skip
      exact absurd c_2 (by decide)
    · skip
      refine j_iload_n 1 C dX4_lastLoopFor_18 rfl rfl ?_
      refine j_iconst (v := 4) C dX4_lastLoopFor_19 rfl ?_
      refine j_icmp_ne (tgt := 29) C dX4_lastLoopFor_20 (by decide) (fun c_3 => ?_) (fun c_3 => ?_)
      · skip
        refine j_iload_n 2 C dX4_lastLoopFor_29 rfl rfl ?_
        exact j_iretR (v := nI n - 1) C hr dX4_lastLoopFor_30 rfl
      · skip
        exact absurd c_3 (by decide)
  · skip
    exact absurd c_1 (by decide)
set_option maxHeartbeats 4000000 in
set_option maxRecDepth 100000 in
theorem c_X4_lastLoopFor_3 (l : Launch) (g : jG) (q ca n : Nat) (f : Nat → Int32)  : jRi l yX4_lastLoopFor wsX4_lastLoopFor ({ frames := 1, cells := 0, slots := 0, locals := 40 }) g [.ref q, .int 3] [(q, .inr (1, [.ref ca, .int (nI n)])), (ca, jaI g 224 f)] (nI n - 1) := by
  refine j_enterR (cc := cX4_lastLoopFor) (maxL := 3) (ret := (some .int)) (own := RX4) (L := [(0, .ref q), (1, .int 3)]) (by decide) rfl rfl (Nat.le_of_ble_eq_true rfl) rfl (fun p e s m args below meth c C hr => ?_)
  refine j_iload_n 1 C dX4_lastLoopFor_0 rfl rfl ?_
  refine j_iconst (v := 5) C dX4_lastLoopFor_1 rfl ?_
  refine j_icmp_ne (tgt := 7) C dX4_lastLoopFor_2 (by decide) (fun c_1 => ?_) (fun c_1 => ?_)
  · skip
    refine j_aload_n 0 C dX4_lastLoopFor_7 rfl rfl ?_
    refine j_callRi (v := nI n) (j_runV (ci := 0) (As := []) (rest := []) [0, 1] C (c_X1_countLoops l g q ca (nI n) f) gX4_lastLoopFor_X1_countLoops rfl rfl rfl hd_X1_countLoops ⟨Nat.le_of_ble_eq_true rfl, Nat.le_of_ble_eq_true rfl⟩ rfl rfl rfl rfl dX4_lastLoopFor_8 rfl (Nat.le_of_ble_eq_true rfl) ⟨Nat.le_of_ble_eq_true rfl, Nat.le_of_ble_eq_true rfl⟩) ?_
    refine j_iconst (v := 1) C dX4_lastLoopFor_11 rfl ?_
    refine j_isub (x := nI n) (y := 1) (v := nI n - 1) C dX4_lastLoopFor_12 rfl ?_
    refine j_istore_n (L' := [(0, .ref q), (1, .int 3), (2, .int (nI n - 1))]) C dX4_lastLoopFor_13 rfl (Nat.le_of_ble_eq_true rfl) rfl rfl ?_
    refine j_iload_n 1 C dX4_lastLoopFor_14 rfl rfl ?_
    refine j_if_eq (tgt := 23) C dX4_lastLoopFor_15 (by decide) (fun c_2 => ?_) (fun c_2 => ?_)
    · skip
      exact absurd c_2 (by decide)
    · skip
      refine j_iload_n 1 C dX4_lastLoopFor_18 rfl rfl ?_
      refine j_iconst (v := 4) C dX4_lastLoopFor_19 rfl ?_
      refine j_icmp_ne (tgt := 29) C dX4_lastLoopFor_20 (by decide) (fun c_3 => ?_) (fun c_3 => ?_)
      · skip
        refine j_iload_n 2 C dX4_lastLoopFor_29 rfl rfl ?_
        exact j_iretR (v := nI n - 1) C hr dX4_lastLoopFor_30 rfl
      · skip
        exact absurd c_3 (by decide)
  · skip
    exact absurd c_1 (by decide)
set_option maxHeartbeats 4000000 in
set_option maxRecDepth 100000 in
theorem c_X4_lastLoopFor_4 (l : Launch) (g : jG) (q ca n : Nat) (f : Nat → Int32)  : jRi l yX4_lastLoopFor wsX4_lastLoopFor ({ frames := 1, cells := 0, slots := 0, locals := 40 }) g [.ref q, .int 4] [(q, .inr (1, [.ref ca, .int (nI n)])), (ca, jaI g 224 f)] (nI n - 2) := by
  refine j_enterR (cc := cX4_lastLoopFor) (maxL := 3) (ret := (some .int)) (own := RX4) (L := [(0, .ref q), (1, .int 4)]) (by decide) rfl rfl (Nat.le_of_ble_eq_true rfl) rfl (fun p e s m args below meth c C hr => ?_)
  refine j_iload_n 1 C dX4_lastLoopFor_0 rfl rfl ?_
  refine j_iconst (v := 5) C dX4_lastLoopFor_1 rfl ?_
  refine j_icmp_ne (tgt := 7) C dX4_lastLoopFor_2 (by decide) (fun c_1 => ?_) (fun c_1 => ?_)
  · skip
    refine j_aload_n 0 C dX4_lastLoopFor_7 rfl rfl ?_
    refine j_callRi (v := nI n) (j_runV (ci := 0) (As := []) (rest := []) [0, 1] C (c_X1_countLoops l g q ca (nI n) f) gX4_lastLoopFor_X1_countLoops rfl rfl rfl hd_X1_countLoops ⟨Nat.le_of_ble_eq_true rfl, Nat.le_of_ble_eq_true rfl⟩ rfl rfl rfl rfl dX4_lastLoopFor_8 rfl (Nat.le_of_ble_eq_true rfl) ⟨Nat.le_of_ble_eq_true rfl, Nat.le_of_ble_eq_true rfl⟩) ?_
    refine j_iconst (v := 1) C dX4_lastLoopFor_11 rfl ?_
    refine j_isub (x := nI n) (y := 1) (v := nI n - 1) C dX4_lastLoopFor_12 rfl ?_
    refine j_istore_n (L' := [(0, .ref q), (1, .int 4), (2, .int (nI n - 1))]) C dX4_lastLoopFor_13 rfl (Nat.le_of_ble_eq_true rfl) rfl rfl ?_
    refine j_iload_n 1 C dX4_lastLoopFor_14 rfl rfl ?_
    refine j_if_eq (tgt := 23) C dX4_lastLoopFor_15 (by decide) (fun c_2 => ?_) (fun c_2 => ?_)
    · skip
      exact absurd c_2 (by decide)
    · skip
      refine j_iload_n 1 C dX4_lastLoopFor_18 rfl rfl ?_
      refine j_iconst (v := 4) C dX4_lastLoopFor_19 rfl ?_
      refine j_icmp_ne (tgt := 29) C dX4_lastLoopFor_20 (by decide) (fun c_3 => ?_) (fun c_3 => ?_)
      · skip
        exact absurd c_3 (by decide)
      · skip
        refine j_iload_n 2 C dX4_lastLoopFor_23 rfl rfl ?_
        refine j_iconst (v := 1) C dX4_lastLoopFor_24 rfl ?_
        refine j_isub (x := nI n - 1) (y := 1) (v := nI n - 2) C dX4_lastLoopFor_25 (jI_m2 n) ?_
        refine j_goto (tgt := 30) C dX4_lastLoopFor_26 (by decide) ?_
        exact j_iretR (v := nI n - 2) C hr dX4_lastLoopFor_30 rfl
  · skip
    exact absurd c_1 (by decide)
set_option maxHeartbeats 4000000 in
set_option maxRecDepth 100000 in
theorem c_X4_lastLoopFor_5 (l : Launch) (g : jG) (q ca n : Nat) (f : Nat → Int32)  : jRi l yX4_lastLoopFor wsX4_lastLoopFor ({ frames := 1, cells := 0, slots := 0, locals := 40 }) g [.ref q, .int 5] [(q, .inr (1, [.ref ca, .int (nI n)])), (ca, jaI g 224 f)] 0 := by
  refine j_enterR (cc := cX4_lastLoopFor) (maxL := 3) (ret := (some .int)) (own := RX4) (L := [(0, .ref q), (1, .int 5)]) (by decide) rfl rfl (Nat.le_of_ble_eq_true rfl) rfl (fun p e s m args below meth c C hr => ?_)
  refine j_iload_n 1 C dX4_lastLoopFor_0 rfl rfl ?_
  refine j_iconst (v := 5) C dX4_lastLoopFor_1 rfl ?_
  refine j_icmp_ne (tgt := 7) C dX4_lastLoopFor_2 (by decide) (fun c_1 => ?_) (fun c_1 => ?_)
  · skip
    exact absurd c_1 (by decide)
  · skip
    refine j_iconst (v := 0) C dX4_lastLoopFor_5 rfl ?_
    exact j_iretR (v := 0) C hr dX4_lastLoopFor_6 rfl
set_option maxHeartbeats 4000000 in
set_option maxRecDepth 100000 in
theorem c_X4_isWith_1 (l : Launch) (g : jG) (q ca n : Nat) (f : Nat → Int32) (j a : Nat) (w : Int32) (hj : j < 8) (ha : f (j * 28 + 3) = nI a) (ha6 : a ≤ 6) : jRi l yX4_isWith wsX4_isWith ({ frames := 3, cells := 0, slots := 0, locals := 64 }) g [.ref q, .int 1, .int (nI j), .int w] [(q, .inr (1, [.ref ca, .int (nI n)])), (ca, jaI g 224 f)] (jb (jBt w 1 (nI a - 1))) := by
  refine j_enterR (cc := cX4_isWith) (maxL := 4) (ret := (some .boolean)) (own := RX4) (L := [(0, .ref q), (1, .int 1), (2, .int (nI j)), (3, .int w)]) (by decide) rfl rfl (Nat.le_of_ble_eq_true rfl) rfl (fun p e s m args below meth c C hr => ?_)
  refine j_iload_n 1 C dX4_isWith_0 rfl rfl ?_
  refine j_iconst (v := 1) C dX4_isWith_1 rfl ?_
  refine j_icmp_ne (tgt := 18) C dX4_isWith_2 (by decide) (fun c_1 => ?_) (fun c_1 => ?_)
  · skip
    exact absurd c_1 (by decide)
  · skip
    refine j_iload_n 3 C dX4_isWith_5 rfl rfl ?_
    refine j_iconst (v := 1) C dX4_isWith_6 rfl ?_
    refine j_aload_n 0 C dX4_isWith_7 rfl rfl ?_
    refine j_iload_n 2 C dX4_isWith_8 rfl rfl ?_
    refine j_callRi (v := f (j * 28 + 3)) (j_runV (ci := 0) (As := [.int (nI j)]) (rest := [.int 1, .int w]) [0, 1] C (c_X1_countSteps l g q ca (nI n) f j (by omega)) gX4_isWith_X1_countSteps rfl rfl rfl hd_X1_countSteps ⟨Nat.le_of_ble_eq_true rfl, Nat.le_of_ble_eq_true rfl⟩ rfl rfl rfl rfl dX4_isWith_9 rfl (Nat.le_of_ble_eq_true rfl) ⟨Nat.le_of_ble_eq_true rfl, Nat.le_of_ble_eq_true rfl⟩) ?_
    refine j_eq (pc' := 12) (L' := [(0, .ref q), (1, .int 1), (2, .int (nI j)), (3, .int w)]) (st' := [.int (nI a), .int 1, .int w]) (ws' := [(q, .inr (1, [.ref ca, .int (nI n)])), (ca, jaI g 224 f)]) ?_ rfl rfl (by rw [ha]) rfl
    refine j_iconst (v := 1) C dX4_isWith_12 rfl ?_
    refine j_isub (x := nI a) (y := 1) (v := nI a - 1) C dX4_isWith_13 rfl ?_
    refine j_callRi (v := jb (jBt w 1 (nI a - 1))) (j_runS (As := [.int w, .int 1, .int (nI a - 1)]) (rest := []) [] C (c_X4_isBetween l g w 1 (nI a - 1)) gX4_isWith_X4_isBetween rfl rfl rfl hd_X4_isBetween ⟨Nat.le_of_ble_eq_true rfl, Nat.le_of_ble_eq_true rfl⟩ rfl rfl dX4_isWith_14 rfl (Nat.le_of_ble_eq_true rfl) ⟨Nat.le_of_ble_eq_true rfl, Nat.le_of_ble_eq_true rfl⟩) ?_
    exact j_zretR (v := jb (jBt w 1 (nI a - 1))) C hr dX4_isWith_17 (jb_n (jBt w 1 (nI a - 1))) rfl
set_option maxHeartbeats 4000000 in
set_option maxRecDepth 100000 in
theorem c_X4_isWith_2 (l : Launch) (g : jG) (q ca n : Nat) (f : Nat → Int32) (j w : Int32)  : jRi l yX4_isWith wsX4_isWith ({ frames := 1, cells := 0, slots := 0, locals := 22 }) g [.ref q, .int 2, .int j, .int w] [(q, .inr (1, [.ref ca, .int (nI n)])), (ca, jaI g 224 f)] (jb (jBt w 1 10)) := by
  refine j_enterR (cc := cX4_isWith) (maxL := 4) (ret := (some .boolean)) (own := RX4) (L := [(0, .ref q), (1, .int 2), (2, .int j), (3, .int w)]) (by decide) rfl rfl (Nat.le_of_ble_eq_true rfl) rfl (fun p e s m args below meth c C hr => ?_)
  refine j_iload_n 1 C dX4_isWith_0 rfl rfl ?_
  refine j_iconst (v := 1) C dX4_isWith_1 rfl ?_
  refine j_icmp_ne (tgt := 18) C dX4_isWith_2 (by decide) (fun c_1 => ?_) (fun c_1 => ?_)
  · skip
    refine j_iload_n 1 C dX4_isWith_18 rfl rfl ?_
    refine j_iconst (v := 2) C dX4_isWith_19 rfl ?_
    refine j_icmp_ne (tgt := 31) C dX4_isWith_20 (by decide) (fun c_2 => ?_) (fun c_2 => ?_)
    · skip
      exact absurd c_2 (by decide)
    · skip
      refine j_iload_n 3 C dX4_isWith_23 rfl rfl ?_
      refine j_iconst (v := 1) C dX4_isWith_24 rfl ?_
      refine j_bipush (v := 10) C dX4_isWith_25 rfl ?_
      refine j_callRi (v := jb (jBt w 1 10)) (j_runS (As := [.int w, .int 1, .int 10]) (rest := []) [] C (c_X4_isBetween l g w 1 10) gX4_isWith_X4_isBetween rfl rfl rfl hd_X4_isBetween ⟨Nat.le_of_ble_eq_true rfl, Nat.le_of_ble_eq_true rfl⟩ rfl rfl dX4_isWith_27 rfl (Nat.le_of_ble_eq_true rfl) ⟨Nat.le_of_ble_eq_true rfl, Nat.le_of_ble_eq_true rfl⟩) ?_
      exact j_zretR (v := jb (jBt w 1 10)) C hr dX4_isWith_30 (jb_n (jBt w 1 10)) rfl
  · skip
    exact absurd c_1 (by decide)
set_option maxHeartbeats 4000000 in
set_option maxRecDepth 100000 in
theorem c_X4_isWith_0 (l : Launch) (g : jG) (q ca n : Nat) (f : Nat → Int32) (j w : Int32) (hw : ¬ w = 0) : jRi l yX4_isWith wsX4_isWith ({ frames := 0, cells := 0, slots := 0, locals := 0 }) g [.ref q, .int 0, .int j, .int w] [(q, .inr (1, [.ref ca, .int (nI n)])), (ca, jaI g 224 f)] (jb false) := by
  refine j_enterR (cc := cX4_isWith) (maxL := 4) (ret := (some .boolean)) (own := RX4) (L := [(0, .ref q), (1, .int 0), (2, .int j), (3, .int w)]) (by decide) rfl rfl (Nat.le_of_ble_eq_true rfl) rfl (fun p e s m args below meth c C hr => ?_)
  refine j_iload_n 1 C dX4_isWith_0 rfl rfl ?_
  refine j_iconst (v := 1) C dX4_isWith_1 rfl ?_
  refine j_icmp_ne (tgt := 18) C dX4_isWith_2 (by decide) (fun c_1 => ?_) (fun c_1 => ?_)
  · skip
    refine j_iload_n 1 C dX4_isWith_18 rfl rfl ?_
    refine j_iconst (v := 2) C dX4_isWith_19 rfl ?_
    refine j_icmp_ne (tgt := 31) C dX4_isWith_20 (by decide) (fun c_2 => ?_) (fun c_2 => ?_)
    · skip
      refine j_iload_n 3 C dX4_isWith_31 rfl rfl ?_
      refine j_if_ne (tgt := 39) C dX4_isWith_32 (by decide) (fun c_3 => ?_) (fun c_3 => ?_)
      · skip
        refine j_iconst (v := 0) C dX4_isWith_39 rfl ?_
        exact j_zretR (v := 0) C hr dX4_isWith_40 rfl (by rfl)
      · skip
        (first | exact absurd c_3 (by decide) | exact absurd c_3 (by omega) | simp_all)
    · skip
      exact absurd c_2 (by decide)
  · skip
    exact absurd c_1 (by decide)
set_option maxHeartbeats 4000000 in
set_option maxRecDepth 100000 in
theorem c_X4_isWith_0z (l : Launch) (g : jG) (q ca n : Nat) (f : Nat → Int32) (j : Int32)  : jRi l yX4_isWith wsX4_isWith ({ frames := 0, cells := 0, slots := 0, locals := 0 }) g [.ref q, .int 0, .int j, .int 0] [(q, .inr (1, [.ref ca, .int (nI n)])), (ca, jaI g 224 f)] (jb true) := by
  refine j_enterR (cc := cX4_isWith) (maxL := 4) (ret := (some .boolean)) (own := RX4) (L := [(0, .ref q), (1, .int 0), (2, .int j), (3, .int 0)]) (by decide) rfl rfl (Nat.le_of_ble_eq_true rfl) rfl (fun p e s m args below meth c C hr => ?_)
  refine j_iload_n 1 C dX4_isWith_0 rfl rfl ?_
  refine j_iconst (v := 1) C dX4_isWith_1 rfl ?_
  refine j_icmp_ne (tgt := 18) C dX4_isWith_2 (by decide) (fun c_1 => ?_) (fun c_1 => ?_)
  · skip
    refine j_iload_n 1 C dX4_isWith_18 rfl rfl ?_
    refine j_iconst (v := 2) C dX4_isWith_19 rfl ?_
    refine j_icmp_ne (tgt := 31) C dX4_isWith_20 (by decide) (fun c_2 => ?_) (fun c_2 => ?_)
    · skip
      refine j_iload_n 3 C dX4_isWith_31 rfl rfl ?_
      refine j_if_ne (tgt := 39) C dX4_isWith_32 (by decide) (fun c_3 => ?_) (fun c_3 => ?_)
      · skip
        exact absurd c_3 (by decide)
      · skip
        refine j_iconst (v := 1) C dX4_isWith_35 rfl ?_
        refine j_goto (tgt := 40) C dX4_isWith_36 (by decide) ?_
        exact j_zretR (v := 1) C hr dX4_isWith_40 rfl (by rfl)
    · skip
      exact absurd c_2 (by decide)
  · skip
    exact absurd c_1 (by decide)
set_option maxHeartbeats 4000000 in
set_option maxRecDepth 100000 in
theorem c_X4_isWith_3 (l : Launch) (g : jG) (q ca n : Nat) (f : Nat → Int32) (j w : Int32) (hw : ¬ w = 0) : jRi l yX4_isWith wsX4_isWith ({ frames := 0, cells := 0, slots := 0, locals := 0 }) g [.ref q, .int 3, .int j, .int w] [(q, .inr (1, [.ref ca, .int (nI n)])), (ca, jaI g 224 f)] (jb false) := by
  refine j_enterR (cc := cX4_isWith) (maxL := 4) (ret := (some .boolean)) (own := RX4) (L := [(0, .ref q), (1, .int 3), (2, .int j), (3, .int w)]) (by decide) rfl rfl (Nat.le_of_ble_eq_true rfl) rfl (fun p e s m args below meth c C hr => ?_)
  refine j_iload_n 1 C dX4_isWith_0 rfl rfl ?_
  refine j_iconst (v := 1) C dX4_isWith_1 rfl ?_
  refine j_icmp_ne (tgt := 18) C dX4_isWith_2 (by decide) (fun c_1 => ?_) (fun c_1 => ?_)
  · skip
    refine j_iload_n 1 C dX4_isWith_18 rfl rfl ?_
    refine j_iconst (v := 2) C dX4_isWith_19 rfl ?_
    refine j_icmp_ne (tgt := 31) C dX4_isWith_20 (by decide) (fun c_2 => ?_) (fun c_2 => ?_)
    · skip
      refine j_iload_n 3 C dX4_isWith_31 rfl rfl ?_
      refine j_if_ne (tgt := 39) C dX4_isWith_32 (by decide) (fun c_3 => ?_) (fun c_3 => ?_)
      · skip
        refine j_iconst (v := 0) C dX4_isWith_39 rfl ?_
        exact j_zretR (v := 0) C hr dX4_isWith_40 rfl (by rfl)
      · skip
        (first | exact absurd c_3 (by decide) | exact absurd c_3 (by omega) | simp_all)
    · skip
      exact absurd c_2 (by decide)
  · skip
    exact absurd c_1 (by decide)
set_option maxHeartbeats 4000000 in
set_option maxRecDepth 100000 in
theorem c_X4_isWith_3z (l : Launch) (g : jG) (q ca n : Nat) (f : Nat → Int32) (j : Int32)  : jRi l yX4_isWith wsX4_isWith ({ frames := 0, cells := 0, slots := 0, locals := 0 }) g [.ref q, .int 3, .int j, .int 0] [(q, .inr (1, [.ref ca, .int (nI n)])), (ca, jaI g 224 f)] (jb true) := by
  refine j_enterR (cc := cX4_isWith) (maxL := 4) (ret := (some .boolean)) (own := RX4) (L := [(0, .ref q), (1, .int 3), (2, .int j), (3, .int 0)]) (by decide) rfl rfl (Nat.le_of_ble_eq_true rfl) rfl (fun p e s m args below meth c C hr => ?_)
  refine j_iload_n 1 C dX4_isWith_0 rfl rfl ?_
  refine j_iconst (v := 1) C dX4_isWith_1 rfl ?_
  refine j_icmp_ne (tgt := 18) C dX4_isWith_2 (by decide) (fun c_1 => ?_) (fun c_1 => ?_)
  · skip
    refine j_iload_n 1 C dX4_isWith_18 rfl rfl ?_
    refine j_iconst (v := 2) C dX4_isWith_19 rfl ?_
    refine j_icmp_ne (tgt := 31) C dX4_isWith_20 (by decide) (fun c_2 => ?_) (fun c_2 => ?_)
    · skip
      refine j_iload_n 3 C dX4_isWith_31 rfl rfl ?_
      refine j_if_ne (tgt := 39) C dX4_isWith_32 (by decide) (fun c_3 => ?_) (fun c_3 => ?_)
      · skip
        exact absurd c_3 (by decide)
      · skip
        refine j_iconst (v := 1) C dX4_isWith_35 rfl ?_
        refine j_goto (tgt := 40) C dX4_isWith_36 (by decide) ?_
        exact j_zretR (v := 1) C hr dX4_isWith_40 rfl (by rfl)
    · skip
      exact absurd c_2 (by decide)
  · skip
    exact absurd c_1 (by decide)
set_option maxHeartbeats 4000000 in
set_option maxRecDepth 100000 in
theorem c_X4_isWith_4 (l : Launch) (g : jG) (q ca n : Nat) (f : Nat → Int32) (j w : Int32) (hw : ¬ w = 0) : jRi l yX4_isWith wsX4_isWith ({ frames := 0, cells := 0, slots := 0, locals := 0 }) g [.ref q, .int 4, .int j, .int w] [(q, .inr (1, [.ref ca, .int (nI n)])), (ca, jaI g 224 f)] (jb false) := by
  refine j_enterR (cc := cX4_isWith) (maxL := 4) (ret := (some .boolean)) (own := RX4) (L := [(0, .ref q), (1, .int 4), (2, .int j), (3, .int w)]) (by decide) rfl rfl (Nat.le_of_ble_eq_true rfl) rfl (fun p e s m args below meth c C hr => ?_)
  refine j_iload_n 1 C dX4_isWith_0 rfl rfl ?_
  refine j_iconst (v := 1) C dX4_isWith_1 rfl ?_
  refine j_icmp_ne (tgt := 18) C dX4_isWith_2 (by decide) (fun c_1 => ?_) (fun c_1 => ?_)
  · skip
    refine j_iload_n 1 C dX4_isWith_18 rfl rfl ?_
    refine j_iconst (v := 2) C dX4_isWith_19 rfl ?_
    refine j_icmp_ne (tgt := 31) C dX4_isWith_20 (by decide) (fun c_2 => ?_) (fun c_2 => ?_)
    · skip
      refine j_iload_n 3 C dX4_isWith_31 rfl rfl ?_
      refine j_if_ne (tgt := 39) C dX4_isWith_32 (by decide) (fun c_3 => ?_) (fun c_3 => ?_)
      · skip
        refine j_iconst (v := 0) C dX4_isWith_39 rfl ?_
        exact j_zretR (v := 0) C hr dX4_isWith_40 rfl (by rfl)
      · skip
        (first | exact absurd c_3 (by decide) | exact absurd c_3 (by omega) | simp_all)
    · skip
      exact absurd c_2 (by decide)
  · skip
    exact absurd c_1 (by decide)
set_option maxHeartbeats 4000000 in
set_option maxRecDepth 100000 in
theorem c_X4_isWith_4z (l : Launch) (g : jG) (q ca n : Nat) (f : Nat → Int32) (j : Int32)  : jRi l yX4_isWith wsX4_isWith ({ frames := 0, cells := 0, slots := 0, locals := 0 }) g [.ref q, .int 4, .int j, .int 0] [(q, .inr (1, [.ref ca, .int (nI n)])), (ca, jaI g 224 f)] (jb true) := by
  refine j_enterR (cc := cX4_isWith) (maxL := 4) (ret := (some .boolean)) (own := RX4) (L := [(0, .ref q), (1, .int 4), (2, .int j), (3, .int 0)]) (by decide) rfl rfl (Nat.le_of_ble_eq_true rfl) rfl (fun p e s m args below meth c C hr => ?_)
  refine j_iload_n 1 C dX4_isWith_0 rfl rfl ?_
  refine j_iconst (v := 1) C dX4_isWith_1 rfl ?_
  refine j_icmp_ne (tgt := 18) C dX4_isWith_2 (by decide) (fun c_1 => ?_) (fun c_1 => ?_)
  · skip
    refine j_iload_n 1 C dX4_isWith_18 rfl rfl ?_
    refine j_iconst (v := 2) C dX4_isWith_19 rfl ?_
    refine j_icmp_ne (tgt := 31) C dX4_isWith_20 (by decide) (fun c_2 => ?_) (fun c_2 => ?_)
    · skip
      refine j_iload_n 3 C dX4_isWith_31 rfl rfl ?_
      refine j_if_ne (tgt := 39) C dX4_isWith_32 (by decide) (fun c_3 => ?_) (fun c_3 => ?_)
      · skip
        exact absurd c_3 (by decide)
      · skip
        refine j_iconst (v := 1) C dX4_isWith_35 rfl ?_
        refine j_goto (tgt := 40) C dX4_isWith_36 (by decide) ?_
        exact j_zretR (v := 1) C hr dX4_isWith_40 rfl (by rfl)
    · skip
      exact absurd c_2 (by decide)
  · skip
    exact absurd c_1 (by decide)
set_option maxHeartbeats 4000000 in
set_option maxRecDepth 100000 in
theorem c_X4_isWith_5 (l : Launch) (g : jG) (q ca n : Nat) (f : Nat → Int32) (j w : Int32) (hw : ¬ w = 0) : jRi l yX4_isWith wsX4_isWith ({ frames := 0, cells := 0, slots := 0, locals := 0 }) g [.ref q, .int 5, .int j, .int w] [(q, .inr (1, [.ref ca, .int (nI n)])), (ca, jaI g 224 f)] (jb false) := by
  refine j_enterR (cc := cX4_isWith) (maxL := 4) (ret := (some .boolean)) (own := RX4) (L := [(0, .ref q), (1, .int 5), (2, .int j), (3, .int w)]) (by decide) rfl rfl (Nat.le_of_ble_eq_true rfl) rfl (fun p e s m args below meth c C hr => ?_)
  refine j_iload_n 1 C dX4_isWith_0 rfl rfl ?_
  refine j_iconst (v := 1) C dX4_isWith_1 rfl ?_
  refine j_icmp_ne (tgt := 18) C dX4_isWith_2 (by decide) (fun c_1 => ?_) (fun c_1 => ?_)
  · skip
    refine j_iload_n 1 C dX4_isWith_18 rfl rfl ?_
    refine j_iconst (v := 2) C dX4_isWith_19 rfl ?_
    refine j_icmp_ne (tgt := 31) C dX4_isWith_20 (by decide) (fun c_2 => ?_) (fun c_2 => ?_)
    · skip
      refine j_iload_n 3 C dX4_isWith_31 rfl rfl ?_
      refine j_if_ne (tgt := 39) C dX4_isWith_32 (by decide) (fun c_3 => ?_) (fun c_3 => ?_)
      · skip
        refine j_iconst (v := 0) C dX4_isWith_39 rfl ?_
        exact j_zretR (v := 0) C hr dX4_isWith_40 rfl (by rfl)
      · skip
        (first | exact absurd c_3 (by decide) | exact absurd c_3 (by omega) | simp_all)
    · skip
      exact absurd c_2 (by decide)
  · skip
    exact absurd c_1 (by decide)
set_option maxHeartbeats 4000000 in
set_option maxRecDepth 100000 in
theorem c_X4_isWith_5z (l : Launch) (g : jG) (q ca n : Nat) (f : Nat → Int32) (j : Int32)  : jRi l yX4_isWith wsX4_isWith ({ frames := 0, cells := 0, slots := 0, locals := 0 }) g [.ref q, .int 5, .int j, .int 0] [(q, .inr (1, [.ref ca, .int (nI n)])), (ca, jaI g 224 f)] (jb true) := by
  refine j_enterR (cc := cX4_isWith) (maxL := 4) (ret := (some .boolean)) (own := RX4) (L := [(0, .ref q), (1, .int 5), (2, .int j), (3, .int 0)]) (by decide) rfl rfl (Nat.le_of_ble_eq_true rfl) rfl (fun p e s m args below meth c C hr => ?_)
  refine j_iload_n 1 C dX4_isWith_0 rfl rfl ?_
  refine j_iconst (v := 1) C dX4_isWith_1 rfl ?_
  refine j_icmp_ne (tgt := 18) C dX4_isWith_2 (by decide) (fun c_1 => ?_) (fun c_1 => ?_)
  · skip
    refine j_iload_n 1 C dX4_isWith_18 rfl rfl ?_
    refine j_iconst (v := 2) C dX4_isWith_19 rfl ?_
    refine j_icmp_ne (tgt := 31) C dX4_isWith_20 (by decide) (fun c_2 => ?_) (fun c_2 => ?_)
    · skip
      refine j_iload_n 3 C dX4_isWith_31 rfl rfl ?_
      refine j_if_ne (tgt := 39) C dX4_isWith_32 (by decide) (fun c_3 => ?_) (fun c_3 => ?_)
      · skip
        exact absurd c_3 (by decide)
      · skip
        refine j_iconst (v := 1) C dX4_isWith_35 rfl ?_
        refine j_goto (tgt := 40) C dX4_isWith_36 (by decide) ?_
        exact j_zretR (v := 1) C hr dX4_isWith_40 rfl (by rfl)
    · skip
      exact absurd c_2 (by decide)
  · skip
    exact absurd c_1 (by decide)
set_option maxHeartbeats 4000000 in
set_option maxRecDepth 100000 in
theorem c_X4_refuseOtherChanges_c (l : Launch) (g : jG) (hst9 : l.stackTraces = false) (q ca n : Nat) (f : Nat → Int32) (ch y w : Int32) (hc : jBt ch 0 5 = false) : jXt l yX4_refuseOtherChanges wsX4_refuseOtherChanges ({ frames := 8, cells := 1, slots := 6, locals := 200 }) g [.ref q, .int ch, .int y, .int w] [(q, .inr (1, [.ref ca, .int (nI n)])), (ca, jaI g 224 f)] "java/lang/IndexOutOfBoundsException" := by
  refine j_enterX (XC := fun sz_ => jXC g [(q, .inr (1, [.ref ca, .int (nI n)])), (ca, jaI g 224 f)] "java/lang/IndexOutOfBoundsException" (va_A [(q, .inr (1, [.ref ca, .int (nI n)])), (ca, jaI g 224 f)] sz_)) (mc := 1) (ms := 6) (cc := cX4_refuseOtherChanges) (maxL := 4) (ret := none) (own := RX4) (L := [(0, .ref q), (1, .int ch), (2, .int y), (3, .int w)]) (by decide) rfl rfl (Nat.le_of_ble_eq_true rfl) rfl (fun p e s m args below meth c C ht9 hX hZ => ?_)
  refine j_iload_n 1 C dX4_refuseOtherChanges_0 rfl rfl ?_
  refine j_iconst (v := 0) C dX4_refuseOtherChanges_1 rfl ?_
  refine j_iconst (v := 5) C dX4_refuseOtherChanges_2 rfl ?_
  refine j_callRi (v := jb (jBt ch 0 5)) (j_runS (As := [.int ch, .int 0, .int 5]) (rest := []) [] C (c_X4_isBetween l g ch 0 5) gX4_refuseOtherChanges_X4_isBetween rfl rfl rfl hd_X4_isBetween ⟨Nat.le_of_ble_eq_true rfl, Nat.le_of_ble_eq_true rfl⟩ rfl rfl dX4_refuseOtherChanges_3 rfl (Nat.le_of_ble_eq_true rfl) ⟨Nat.le_of_ble_eq_true rfl, Nat.le_of_ble_eq_true rfl⟩) ?_
  refine j_eq (pc' := 6) (L' := [(0, .ref q), (1, .int ch), (2, .int y), (3, .int w)]) (st' := [.int (jb false)]) (ws' := [(q, .inr (1, [.ref ca, .int (nI n)])), (ca, jaI g 224 f)]) ?_ rfl rfl (by rw [hc]) rfl
  refine j_if_ne (tgt := 19) C dX4_refuseOtherChanges_6 (by decide) (fun c_1 => ?_) (fun c_1 => ?_)
  · skip
    have c_1 : false = true := jb_1 c_1
    (first | exact absurd c_1 (by decide) | exact absurd c_1 (by omega) | simp_all)
  · skip
    have c_1 : false = false := jb_0 c_1
    exact j_throw (E := "java/lang/IndexOutOfBoundsException") (ik := 105) (is := 199) (ic := 109) C hst9 hX hZ ht9 (by decide) (by decide) (by decide) (List.mem_of_getElem? (i := 1) rfl) (List.mem_of_getElem? (i := 2) rfl) (fun w h => List.mem_cons_of_mem _ (by exact List.mem_append_left _ (List.mem_append_right _ h))) jat_109 jot_109 dX4_refuseOtherChanges_9 dX4_refuseOtherChanges_12 dX4_refuseOtherChanges_13 dX4_refuseOtherChanges_15 dX4_refuseOtherChanges_18 (Nat.le_of_ble_eq_true rfl) (Nat.le_of_ble_eq_true rfl) (Nat.le_of_ble_eq_true rfl) (Nat.le_of_ble_eq_true rfl)
set_option maxHeartbeats 4000000 in
set_option maxRecDepth 100000 in
theorem c_X4_refuseOtherChanges_l0 (l : Launch) (g : jG) (hst9 : l.stackTraces = false) (q ca n : Nat) (f : Nat → Int32) (y w : Int32) (hy : jBt y 0 (nI n - 2) = false) : jXt l yX4_refuseOtherChanges wsX4_refuseOtherChanges ({ frames := 8, cells := 1, slots := 6, locals := 200 }) g [.ref q, .int 0, .int y, .int w] [(q, .inr (1, [.ref ca, .int (nI n)])), (ca, jaI g 224 f)] "java/lang/IndexOutOfBoundsException" := by
  refine j_enterX (XC := fun sz_ => jXC g [(q, .inr (1, [.ref ca, .int (nI n)])), (ca, jaI g 224 f)] "java/lang/IndexOutOfBoundsException" (va_A [(q, .inr (1, [.ref ca, .int (nI n)])), (ca, jaI g 224 f)] sz_)) (mc := 1) (ms := 6) (cc := cX4_refuseOtherChanges) (maxL := 4) (ret := none) (own := RX4) (L := [(0, .ref q), (1, .int 0), (2, .int y), (3, .int w)]) (by decide) rfl rfl (Nat.le_of_ble_eq_true rfl) rfl (fun p e s m args below meth c C ht9 hX hZ => ?_)
  refine j_iload_n 1 C dX4_refuseOtherChanges_0 rfl rfl ?_
  refine j_iconst (v := 0) C dX4_refuseOtherChanges_1 rfl ?_
  refine j_iconst (v := 5) C dX4_refuseOtherChanges_2 rfl ?_
  refine j_callRi (v := jb (jBt 0 0 5)) (j_runS (As := [.int 0, .int 0, .int 5]) (rest := []) [] C (c_X4_isBetween l g 0 0 5) gX4_refuseOtherChanges_X4_isBetween rfl rfl rfl hd_X4_isBetween ⟨Nat.le_of_ble_eq_true rfl, Nat.le_of_ble_eq_true rfl⟩ rfl rfl dX4_refuseOtherChanges_3 rfl (Nat.le_of_ble_eq_true rfl) ⟨Nat.le_of_ble_eq_true rfl, Nat.le_of_ble_eq_true rfl⟩) ?_
  refine j_eq (pc' := 6) (L' := [(0, .ref q), (1, .int 0), (2, .int y), (3, .int w)]) (st' := [.int (jb true)]) (ws' := [(q, .inr (1, [.ref ca, .int (nI n)])), (ca, jaI g 224 f)]) ?_ rfl rfl (by rw [(show jBt 0 0 5 = true by decide)]) rfl
  refine j_if_ne (tgt := 19) C dX4_refuseOtherChanges_6 (by decide) (fun c_1 => ?_) (fun c_1 => ?_)
  · skip
    have c_1 : true = true := jb_1 c_1
    refine j_iload_n 2 C dX4_refuseOtherChanges_19 rfl rfl ?_
    refine j_iconst (v := 0) C dX4_refuseOtherChanges_20 rfl ?_
    refine j_aload_n 0 C dX4_refuseOtherChanges_21 rfl rfl ?_
    refine j_iload_n 1 C dX4_refuseOtherChanges_22 rfl rfl ?_
    refine j_callRi (v := nI n - 2) (j_runS (As := [.ref q, .int 0]) (rest := [.int 0, .int y]) [0, 1] C (c_X4_lastLoopFor_0 l g q ca n f) gX4_refuseOtherChanges_X4_lastLoopFor rfl rfl rfl hd_X4_lastLoopFor ⟨Nat.le_of_ble_eq_true rfl, Nat.le_of_ble_eq_true rfl⟩ rfl rfl dX4_refuseOtherChanges_23 rfl (Nat.le_of_ble_eq_true rfl) ⟨Nat.le_of_ble_eq_true rfl, Nat.le_of_ble_eq_true rfl⟩) ?_
    refine j_callRi (v := jb (jBt y 0 (nI n - 2))) (j_runS (As := [.int y, .int 0, .int (nI n - 2)]) (rest := []) [] C (c_X4_isBetween l g y 0 (nI n - 2)) gX4_refuseOtherChanges_X4_isBetween rfl rfl rfl hd_X4_isBetween ⟨Nat.le_of_ble_eq_true rfl, Nat.le_of_ble_eq_true rfl⟩ rfl rfl dX4_refuseOtherChanges_26 rfl (Nat.le_of_ble_eq_true rfl) ⟨Nat.le_of_ble_eq_true rfl, Nat.le_of_ble_eq_true rfl⟩) ?_
    refine j_eq (pc' := 29) (L' := [(0, .ref q), (1, .int 0), (2, .int y), (3, .int w)]) (st' := [.int (jb false)]) (ws' := [(q, .inr (1, [.ref ca, .int (nI n)])), (ca, jaI g 224 f)]) ?_ rfl rfl (by rw [hy]) rfl
    refine j_if_ne (tgt := 42) C dX4_refuseOtherChanges_29 (by decide) (fun c_2 => ?_) (fun c_2 => ?_)
    · skip
      have c_2 : false = true := jb_1 c_2
      (first | exact absurd c_2 (by decide) | exact absurd c_2 (by omega) | simp_all)
    · skip
      have c_2 : false = false := jb_0 c_2
      exact j_throw (E := "java/lang/IndexOutOfBoundsException") (ik := 105) (is := 205) (ic := 109) C hst9 hX hZ ht9 (by decide) (by decide) (by decide) (List.mem_of_getElem? (i := 1) rfl) (List.mem_of_getElem? (i := 2) rfl) (fun w h => List.mem_cons_of_mem _ (by exact List.mem_append_left _ (List.mem_append_right _ h))) jat_109 jot_109 dX4_refuseOtherChanges_32 dX4_refuseOtherChanges_35 dX4_refuseOtherChanges_36 dX4_refuseOtherChanges_38 dX4_refuseOtherChanges_41 (Nat.le_of_ble_eq_true rfl) (Nat.le_of_ble_eq_true rfl) (Nat.le_of_ble_eq_true rfl) (Nat.le_of_ble_eq_true rfl)
  · skip
    have c_1 : true = false := jb_0 c_1
    (first | exact absurd c_1 (by decide) | exact absurd c_1 (by omega) | simp_all)
set_option maxHeartbeats 4000000 in
set_option maxRecDepth 100000 in
theorem c_X4_refuseOtherChanges_w0 (l : Launch) (g : jG) (hst9 : l.stackTraces = false) (q ca n : Nat) (f : Nat → Int32) (j : Nat) (w : Int32) (hj : j + 1 < n) (hn : n ≤ 8) (hw : ¬ w = 0) : jXt l yX4_refuseOtherChanges wsX4_refuseOtherChanges ({ frames := 8, cells := 1, slots := 6, locals := 200 }) g [.ref q, .int 0, .int (nI j), .int w] [(q, .inr (1, [.ref ca, .int (nI n)])), (ca, jaI g 224 f)] "java/lang/IllegalArgumentException" := by
  refine j_enterX (XC := fun sz_ => jXC g [(q, .inr (1, [.ref ca, .int (nI n)])), (ca, jaI g 224 f)] "java/lang/IllegalArgumentException" (va_A [(q, .inr (1, [.ref ca, .int (nI n)])), (ca, jaI g 224 f)] sz_)) (mc := 1) (ms := 6) (cc := cX4_refuseOtherChanges) (maxL := 4) (ret := none) (own := RX4) (L := [(0, .ref q), (1, .int 0), (2, .int (nI j)), (3, .int w)]) (by decide) rfl rfl (Nat.le_of_ble_eq_true rfl) rfl (fun p e s m args below meth c C ht9 hX hZ => ?_)
  refine j_iload_n 1 C dX4_refuseOtherChanges_0 rfl rfl ?_
  refine j_iconst (v := 0) C dX4_refuseOtherChanges_1 rfl ?_
  refine j_iconst (v := 5) C dX4_refuseOtherChanges_2 rfl ?_
  refine j_callRi (v := jb (jBt 0 0 5)) (j_runS (As := [.int 0, .int 0, .int 5]) (rest := []) [] C (c_X4_isBetween l g 0 0 5) gX4_refuseOtherChanges_X4_isBetween rfl rfl rfl hd_X4_isBetween ⟨Nat.le_of_ble_eq_true rfl, Nat.le_of_ble_eq_true rfl⟩ rfl rfl dX4_refuseOtherChanges_3 rfl (Nat.le_of_ble_eq_true rfl) ⟨Nat.le_of_ble_eq_true rfl, Nat.le_of_ble_eq_true rfl⟩) ?_
  refine j_eq (pc' := 6) (L' := [(0, .ref q), (1, .int 0), (2, .int (nI j)), (3, .int w)]) (st' := [.int (jb true)]) (ws' := [(q, .inr (1, [.ref ca, .int (nI n)])), (ca, jaI g 224 f)]) ?_ rfl rfl (by rw [(show jBt 0 0 5 = true by decide)]) rfl
  refine j_if_ne (tgt := 19) C dX4_refuseOtherChanges_6 (by decide) (fun c_1 => ?_) (fun c_1 => ?_)
  · skip
    have c_1 : true = true := jb_1 c_1
    refine j_iload_n 2 C dX4_refuseOtherChanges_19 rfl rfl ?_
    refine j_iconst (v := 0) C dX4_refuseOtherChanges_20 rfl ?_
    refine j_aload_n 0 C dX4_refuseOtherChanges_21 rfl rfl ?_
    refine j_iload_n 1 C dX4_refuseOtherChanges_22 rfl rfl ?_
    refine j_callRi (v := nI n - 2) (j_runS (As := [.ref q, .int 0]) (rest := [.int 0, .int (nI j)]) [0, 1] C (c_X4_lastLoopFor_0 l g q ca n f) gX4_refuseOtherChanges_X4_lastLoopFor rfl rfl rfl hd_X4_lastLoopFor ⟨Nat.le_of_ble_eq_true rfl, Nat.le_of_ble_eq_true rfl⟩ rfl rfl dX4_refuseOtherChanges_23 rfl (Nat.le_of_ble_eq_true rfl) ⟨Nat.le_of_ble_eq_true rfl, Nat.le_of_ble_eq_true rfl⟩) ?_
    refine j_callRi (v := jb (jBt (nI j) 0 (nI n - 2))) (j_runS (As := [.int (nI j), .int 0, .int (nI n - 2)]) (rest := []) [] C (c_X4_isBetween l g (nI j) 0 (nI n - 2)) gX4_refuseOtherChanges_X4_isBetween rfl rfl rfl hd_X4_isBetween ⟨Nat.le_of_ble_eq_true rfl, Nat.le_of_ble_eq_true rfl⟩ rfl rfl dX4_refuseOtherChanges_26 rfl (Nat.le_of_ble_eq_true rfl) ⟨Nat.le_of_ble_eq_true rfl, Nat.le_of_ble_eq_true rfl⟩) ?_
    refine j_eq (pc' := 29) (L' := [(0, .ref q), (1, .int 0), (2, .int (nI j)), (3, .int w)]) (st' := [.int (jb true)]) (ws' := [(q, .inr (1, [.ref ca, .int (nI n)])), (ca, jaI g 224 f)]) ?_ rfl rfl (by rw [jBt_n2 hj (by omega)]) rfl
    refine j_if_ne (tgt := 42) C dX4_refuseOtherChanges_29 (by decide) (fun c_2 => ?_) (fun c_2 => ?_)
    · skip
      have c_2 : true = true := jb_1 c_2
      refine j_aload_n 0 C dX4_refuseOtherChanges_42 rfl rfl ?_
      refine j_iload_n 1 C dX4_refuseOtherChanges_43 rfl rfl ?_
      refine j_iload_n 2 C dX4_refuseOtherChanges_44 rfl rfl ?_
      refine j_iload_n 3 C dX4_refuseOtherChanges_45 rfl rfl ?_
      refine j_callRi (v := jb false) (j_runS (As := [.ref q, .int 0, .int (nI j), .int w]) (rest := []) [0, 1] C (c_X4_isWith_0 l g q ca n f (nI j) w (by omega)) gX4_refuseOtherChanges_X4_isWith rfl rfl rfl hd_X4_isWith ⟨Nat.le_of_ble_eq_true rfl, Nat.le_of_ble_eq_true rfl⟩ rfl rfl dX4_refuseOtherChanges_46 rfl (Nat.le_of_ble_eq_true rfl) ⟨Nat.le_of_ble_eq_true rfl, Nat.le_of_ble_eq_true rfl⟩) ?_
      refine j_if_ne (tgt := 62) C dX4_refuseOtherChanges_49 (by decide) (fun c_3 => ?_) (fun c_3 => ?_)
      · skip
        have c_3 : false = true := jb_1 c_3
        (first | exact absurd c_3 (by decide) | exact absurd c_3 (by omega) | simp_all)
      · skip
        have c_3 : false = false := jb_0 c_3
        exact j_throw (E := "java/lang/IllegalArgumentException") (ik := 62) (is := 211) (ic := 66) C hst9 hX hZ ht9 (by decide) (by decide) (by decide) (List.mem_of_getElem? (i := 3) rfl) (List.mem_of_getElem? (i := 4) rfl) (fun w h => List.mem_cons_of_mem _ (by exact List.mem_append_right _ h)) jat_66 jot_66 dX4_refuseOtherChanges_52 dX4_refuseOtherChanges_55 dX4_refuseOtherChanges_56 dX4_refuseOtherChanges_58 dX4_refuseOtherChanges_61 (Nat.le_of_ble_eq_true rfl) (Nat.le_of_ble_eq_true rfl) (Nat.le_of_ble_eq_true rfl) (Nat.le_of_ble_eq_true rfl)
    · skip
      have c_2 : true = false := jb_0 c_2
      (first | exact absurd c_2 (by decide) | exact absurd c_2 (by omega) | simp_all)
  · skip
    have c_1 : true = false := jb_0 c_1
    (first | exact absurd c_1 (by decide) | exact absurd c_1 (by omega) | simp_all)
set_option maxHeartbeats 4000000 in
set_option maxRecDepth 100000 in
theorem c_X4_refuseOtherChanges_0 (l : Launch) (g : jG) (q ca n : Nat) (f : Nat → Int32) (j a b : Nat) (hj : j + 1 < n) (hn : n ≤ 8) (ha : f (j * 28 + 3) = nI a) (ha6 : a ≤ 6) (hb : f ((j + 1) * 28 + 3) = nI b) (hb6 : b ≤ 6) : jWv l yX4_refuseOtherChanges wsX4_refuseOtherChanges ({ frames := 8, cells := 0, slots := 0, locals := 200 }) g [.ref q, .int 0, .int (nI j), .int 0] [(q, .inr (1, [.ref ca, .int (nI n)])), (ca, jaI g 224 f)] [(q, .inr (1, [.ref ca, .int (nI n)])), (ca, jaI g 224 f)] := by
  refine j_enterW (Qc := fun sz_ => va_Qv (fun (_ : Unit) => True) (fun _ t => va_P g.1 vwCl [(q, .inr (1, [.ref ca, .int (nI n)])), (ca, jaI g 224 f)] t.heap) (va_A [(q, .inr (1, [.ref ca, .int (nI n)])), (ca, jaI g 224 f)] sz_)) (cc := cX4_refuseOtherChanges) (maxL := 4) (ret := none) (own := RX4) (L := [(0, .ref q), (1, .int 0), (2, .int (nI j)), (3, .int 0)]) (by decide) rfl rfl (Nat.le_of_ble_eq_true rfl) rfl (fun p e s m args below meth c C hr => ?_)
  refine j_iload_n 1 C dX4_refuseOtherChanges_0 rfl rfl ?_
  refine j_iconst (v := 0) C dX4_refuseOtherChanges_1 rfl ?_
  refine j_iconst (v := 5) C dX4_refuseOtherChanges_2 rfl ?_
  refine j_callRi (v := jb (jBt 0 0 5)) (j_runS (As := [.int 0, .int 0, .int 5]) (rest := []) [] C (c_X4_isBetween l g 0 0 5) gX4_refuseOtherChanges_X4_isBetween rfl rfl rfl hd_X4_isBetween ⟨Nat.le_of_ble_eq_true rfl, Nat.le_of_ble_eq_true rfl⟩ rfl rfl dX4_refuseOtherChanges_3 rfl (Nat.le_of_ble_eq_true rfl) ⟨Nat.le_of_ble_eq_true rfl, Nat.le_of_ble_eq_true rfl⟩) ?_
  refine j_eq (pc' := 6) (L' := [(0, .ref q), (1, .int 0), (2, .int (nI j)), (3, .int 0)]) (st' := [.int (jb true)]) (ws' := [(q, .inr (1, [.ref ca, .int (nI n)])), (ca, jaI g 224 f)]) ?_ rfl rfl (by rw [(show jBt 0 0 5 = true by decide)]) rfl
  refine j_if_ne (tgt := 19) C dX4_refuseOtherChanges_6 (by decide) (fun c_1 => ?_) (fun c_1 => ?_)
  · skip
    have c_1 : true = true := jb_1 c_1
    refine j_iload_n 2 C dX4_refuseOtherChanges_19 rfl rfl ?_
    refine j_iconst (v := 0) C dX4_refuseOtherChanges_20 rfl ?_
    refine j_aload_n 0 C dX4_refuseOtherChanges_21 rfl rfl ?_
    refine j_iload_n 1 C dX4_refuseOtherChanges_22 rfl rfl ?_
    refine j_callRi (v := nI n - 2) (j_runS (As := [.ref q, .int 0]) (rest := [.int 0, .int (nI j)]) [0, 1] C (c_X4_lastLoopFor_0 l g q ca n f) gX4_refuseOtherChanges_X4_lastLoopFor rfl rfl rfl hd_X4_lastLoopFor ⟨Nat.le_of_ble_eq_true rfl, Nat.le_of_ble_eq_true rfl⟩ rfl rfl dX4_refuseOtherChanges_23 rfl (Nat.le_of_ble_eq_true rfl) ⟨Nat.le_of_ble_eq_true rfl, Nat.le_of_ble_eq_true rfl⟩) ?_
    refine j_callRi (v := jb (jBt (nI j) 0 (nI n - 2))) (j_runS (As := [.int (nI j), .int 0, .int (nI n - 2)]) (rest := []) [] C (c_X4_isBetween l g (nI j) 0 (nI n - 2)) gX4_refuseOtherChanges_X4_isBetween rfl rfl rfl hd_X4_isBetween ⟨Nat.le_of_ble_eq_true rfl, Nat.le_of_ble_eq_true rfl⟩ rfl rfl dX4_refuseOtherChanges_26 rfl (Nat.le_of_ble_eq_true rfl) ⟨Nat.le_of_ble_eq_true rfl, Nat.le_of_ble_eq_true rfl⟩) ?_
    refine j_eq (pc' := 29) (L' := [(0, .ref q), (1, .int 0), (2, .int (nI j)), (3, .int 0)]) (st' := [.int (jb true)]) (ws' := [(q, .inr (1, [.ref ca, .int (nI n)])), (ca, jaI g 224 f)]) ?_ rfl rfl (by rw [jBt_n2 hj (by omega)]) rfl
    refine j_if_ne (tgt := 42) C dX4_refuseOtherChanges_29 (by decide) (fun c_2 => ?_) (fun c_2 => ?_)
    · skip
      have c_2 : true = true := jb_1 c_2
      refine j_aload_n 0 C dX4_refuseOtherChanges_42 rfl rfl ?_
      refine j_iload_n 1 C dX4_refuseOtherChanges_43 rfl rfl ?_
      refine j_iload_n 2 C dX4_refuseOtherChanges_44 rfl rfl ?_
      refine j_iload_n 3 C dX4_refuseOtherChanges_45 rfl rfl ?_
      refine j_callRi (v := jb true) (j_runS (As := [.ref q, .int 0, .int (nI j), .int 0]) (rest := []) [0, 1] C (c_X4_isWith_0z l g q ca n f (nI j)) gX4_refuseOtherChanges_X4_isWith rfl rfl rfl hd_X4_isWith ⟨Nat.le_of_ble_eq_true rfl, Nat.le_of_ble_eq_true rfl⟩ rfl rfl dX4_refuseOtherChanges_46 rfl (Nat.le_of_ble_eq_true rfl) ⟨Nat.le_of_ble_eq_true rfl, Nat.le_of_ble_eq_true rfl⟩) ?_
      refine j_if_ne (tgt := 62) C dX4_refuseOtherChanges_49 (by decide) (fun c_3 => ?_) (fun c_3 => ?_)
      · skip
        have c_3 : true = true := jb_1 c_3
        exact j_vretW C hr dX4_refuseOtherChanges_62 () trivial rfl
      · skip
        have c_3 : true = false := jb_0 c_3
        (first | exact absurd c_3 (by decide) | exact absurd c_3 (by omega) | simp_all)
    · skip
      have c_2 : true = false := jb_0 c_2
      (first | exact absurd c_2 (by decide) | exact absurd c_2 (by omega) | simp_all)
  · skip
    have c_1 : true = false := jb_0 c_1
    (first | exact absurd c_1 (by decide) | exact absurd c_1 (by omega) | simp_all)
set_option maxHeartbeats 4000000 in
set_option maxRecDepth 100000 in
theorem c_X4_refuseOtherChanges_l1 (l : Launch) (g : jG) (hst9 : l.stackTraces = false) (q ca n : Nat) (f : Nat → Int32) (y w : Int32) (hy : jBt y 0 (nI n - 1) = false) : jXt l yX4_refuseOtherChanges wsX4_refuseOtherChanges ({ frames := 8, cells := 1, slots := 6, locals := 200 }) g [.ref q, .int 1, .int y, .int w] [(q, .inr (1, [.ref ca, .int (nI n)])), (ca, jaI g 224 f)] "java/lang/IndexOutOfBoundsException" := by
  refine j_enterX (XC := fun sz_ => jXC g [(q, .inr (1, [.ref ca, .int (nI n)])), (ca, jaI g 224 f)] "java/lang/IndexOutOfBoundsException" (va_A [(q, .inr (1, [.ref ca, .int (nI n)])), (ca, jaI g 224 f)] sz_)) (mc := 1) (ms := 6) (cc := cX4_refuseOtherChanges) (maxL := 4) (ret := none) (own := RX4) (L := [(0, .ref q), (1, .int 1), (2, .int y), (3, .int w)]) (by decide) rfl rfl (Nat.le_of_ble_eq_true rfl) rfl (fun p e s m args below meth c C ht9 hX hZ => ?_)
  refine j_iload_n 1 C dX4_refuseOtherChanges_0 rfl rfl ?_
  refine j_iconst (v := 0) C dX4_refuseOtherChanges_1 rfl ?_
  refine j_iconst (v := 5) C dX4_refuseOtherChanges_2 rfl ?_
  refine j_callRi (v := jb (jBt 1 0 5)) (j_runS (As := [.int 1, .int 0, .int 5]) (rest := []) [] C (c_X4_isBetween l g 1 0 5) gX4_refuseOtherChanges_X4_isBetween rfl rfl rfl hd_X4_isBetween ⟨Nat.le_of_ble_eq_true rfl, Nat.le_of_ble_eq_true rfl⟩ rfl rfl dX4_refuseOtherChanges_3 rfl (Nat.le_of_ble_eq_true rfl) ⟨Nat.le_of_ble_eq_true rfl, Nat.le_of_ble_eq_true rfl⟩) ?_
  refine j_eq (pc' := 6) (L' := [(0, .ref q), (1, .int 1), (2, .int y), (3, .int w)]) (st' := [.int (jb true)]) (ws' := [(q, .inr (1, [.ref ca, .int (nI n)])), (ca, jaI g 224 f)]) ?_ rfl rfl (by rw [(show jBt 1 0 5 = true by decide)]) rfl
  refine j_if_ne (tgt := 19) C dX4_refuseOtherChanges_6 (by decide) (fun c_1 => ?_) (fun c_1 => ?_)
  · skip
    have c_1 : true = true := jb_1 c_1
    refine j_iload_n 2 C dX4_refuseOtherChanges_19 rfl rfl ?_
    refine j_iconst (v := 0) C dX4_refuseOtherChanges_20 rfl ?_
    refine j_aload_n 0 C dX4_refuseOtherChanges_21 rfl rfl ?_
    refine j_iload_n 1 C dX4_refuseOtherChanges_22 rfl rfl ?_
    refine j_callRi (v := nI n - 1) (j_runS (As := [.ref q, .int 1]) (rest := [.int 0, .int y]) [0, 1] C (c_X4_lastLoopFor_1 l g q ca n f) gX4_refuseOtherChanges_X4_lastLoopFor rfl rfl rfl hd_X4_lastLoopFor ⟨Nat.le_of_ble_eq_true rfl, Nat.le_of_ble_eq_true rfl⟩ rfl rfl dX4_refuseOtherChanges_23 rfl (Nat.le_of_ble_eq_true rfl) ⟨Nat.le_of_ble_eq_true rfl, Nat.le_of_ble_eq_true rfl⟩) ?_
    refine j_callRi (v := jb (jBt y 0 (nI n - 1))) (j_runS (As := [.int y, .int 0, .int (nI n - 1)]) (rest := []) [] C (c_X4_isBetween l g y 0 (nI n - 1)) gX4_refuseOtherChanges_X4_isBetween rfl rfl rfl hd_X4_isBetween ⟨Nat.le_of_ble_eq_true rfl, Nat.le_of_ble_eq_true rfl⟩ rfl rfl dX4_refuseOtherChanges_26 rfl (Nat.le_of_ble_eq_true rfl) ⟨Nat.le_of_ble_eq_true rfl, Nat.le_of_ble_eq_true rfl⟩) ?_
    refine j_eq (pc' := 29) (L' := [(0, .ref q), (1, .int 1), (2, .int y), (3, .int w)]) (st' := [.int (jb false)]) (ws' := [(q, .inr (1, [.ref ca, .int (nI n)])), (ca, jaI g 224 f)]) ?_ rfl rfl (by rw [hy]) rfl
    refine j_if_ne (tgt := 42) C dX4_refuseOtherChanges_29 (by decide) (fun c_2 => ?_) (fun c_2 => ?_)
    · skip
      have c_2 : false = true := jb_1 c_2
      (first | exact absurd c_2 (by decide) | exact absurd c_2 (by omega) | simp_all)
    · skip
      have c_2 : false = false := jb_0 c_2
      exact j_throw (E := "java/lang/IndexOutOfBoundsException") (ik := 105) (is := 205) (ic := 109) C hst9 hX hZ ht9 (by decide) (by decide) (by decide) (List.mem_of_getElem? (i := 1) rfl) (List.mem_of_getElem? (i := 2) rfl) (fun w h => List.mem_cons_of_mem _ (by exact List.mem_append_left _ (List.mem_append_right _ h))) jat_109 jot_109 dX4_refuseOtherChanges_32 dX4_refuseOtherChanges_35 dX4_refuseOtherChanges_36 dX4_refuseOtherChanges_38 dX4_refuseOtherChanges_41 (Nat.le_of_ble_eq_true rfl) (Nat.le_of_ble_eq_true rfl) (Nat.le_of_ble_eq_true rfl) (Nat.le_of_ble_eq_true rfl)
  · skip
    have c_1 : true = false := jb_0 c_1
    (first | exact absurd c_1 (by decide) | exact absurd c_1 (by omega) | simp_all)
set_option maxHeartbeats 4000000 in
set_option maxRecDepth 100000 in
theorem c_X4_refuseOtherChanges_w1 (l : Launch) (g : jG) (hst9 : l.stackTraces = false) (q ca n : Nat) (f : Nat → Int32) (j a : Nat) (w : Int32) (hj : j < n) (hn : n ≤ 8) (ha : f (j * 28 + 3) = nI a) (ha6 : a ≤ 6) (hw : jBt w 1 (nI a - 1) = false) : jXt l yX4_refuseOtherChanges wsX4_refuseOtherChanges ({ frames := 8, cells := 1, slots := 6, locals := 200 }) g [.ref q, .int 1, .int (nI j), .int w] [(q, .inr (1, [.ref ca, .int (nI n)])), (ca, jaI g 224 f)] "java/lang/IllegalArgumentException" := by
  refine j_enterX (XC := fun sz_ => jXC g [(q, .inr (1, [.ref ca, .int (nI n)])), (ca, jaI g 224 f)] "java/lang/IllegalArgumentException" (va_A [(q, .inr (1, [.ref ca, .int (nI n)])), (ca, jaI g 224 f)] sz_)) (mc := 1) (ms := 6) (cc := cX4_refuseOtherChanges) (maxL := 4) (ret := none) (own := RX4) (L := [(0, .ref q), (1, .int 1), (2, .int (nI j)), (3, .int w)]) (by decide) rfl rfl (Nat.le_of_ble_eq_true rfl) rfl (fun p e s m args below meth c C ht9 hX hZ => ?_)
  refine j_iload_n 1 C dX4_refuseOtherChanges_0 rfl rfl ?_
  refine j_iconst (v := 0) C dX4_refuseOtherChanges_1 rfl ?_
  refine j_iconst (v := 5) C dX4_refuseOtherChanges_2 rfl ?_
  refine j_callRi (v := jb (jBt 1 0 5)) (j_runS (As := [.int 1, .int 0, .int 5]) (rest := []) [] C (c_X4_isBetween l g 1 0 5) gX4_refuseOtherChanges_X4_isBetween rfl rfl rfl hd_X4_isBetween ⟨Nat.le_of_ble_eq_true rfl, Nat.le_of_ble_eq_true rfl⟩ rfl rfl dX4_refuseOtherChanges_3 rfl (Nat.le_of_ble_eq_true rfl) ⟨Nat.le_of_ble_eq_true rfl, Nat.le_of_ble_eq_true rfl⟩) ?_
  refine j_eq (pc' := 6) (L' := [(0, .ref q), (1, .int 1), (2, .int (nI j)), (3, .int w)]) (st' := [.int (jb true)]) (ws' := [(q, .inr (1, [.ref ca, .int (nI n)])), (ca, jaI g 224 f)]) ?_ rfl rfl (by rw [(show jBt 1 0 5 = true by decide)]) rfl
  refine j_if_ne (tgt := 19) C dX4_refuseOtherChanges_6 (by decide) (fun c_1 => ?_) (fun c_1 => ?_)
  · skip
    have c_1 : true = true := jb_1 c_1
    refine j_iload_n 2 C dX4_refuseOtherChanges_19 rfl rfl ?_
    refine j_iconst (v := 0) C dX4_refuseOtherChanges_20 rfl ?_
    refine j_aload_n 0 C dX4_refuseOtherChanges_21 rfl rfl ?_
    refine j_iload_n 1 C dX4_refuseOtherChanges_22 rfl rfl ?_
    refine j_callRi (v := nI n - 1) (j_runS (As := [.ref q, .int 1]) (rest := [.int 0, .int (nI j)]) [0, 1] C (c_X4_lastLoopFor_1 l g q ca n f) gX4_refuseOtherChanges_X4_lastLoopFor rfl rfl rfl hd_X4_lastLoopFor ⟨Nat.le_of_ble_eq_true rfl, Nat.le_of_ble_eq_true rfl⟩ rfl rfl dX4_refuseOtherChanges_23 rfl (Nat.le_of_ble_eq_true rfl) ⟨Nat.le_of_ble_eq_true rfl, Nat.le_of_ble_eq_true rfl⟩) ?_
    refine j_callRi (v := jb (jBt (nI j) 0 (nI n - 1))) (j_runS (As := [.int (nI j), .int 0, .int (nI n - 1)]) (rest := []) [] C (c_X4_isBetween l g (nI j) 0 (nI n - 1)) gX4_refuseOtherChanges_X4_isBetween rfl rfl rfl hd_X4_isBetween ⟨Nat.le_of_ble_eq_true rfl, Nat.le_of_ble_eq_true rfl⟩ rfl rfl dX4_refuseOtherChanges_26 rfl (Nat.le_of_ble_eq_true rfl) ⟨Nat.le_of_ble_eq_true rfl, Nat.le_of_ble_eq_true rfl⟩) ?_
    refine j_eq (pc' := 29) (L' := [(0, .ref q), (1, .int 1), (2, .int (nI j)), (3, .int w)]) (st' := [.int (jb true)]) (ws' := [(q, .inr (1, [.ref ca, .int (nI n)])), (ca, jaI g 224 f)]) ?_ rfl rfl (by rw [jBt_n hj (by omega)]) rfl
    refine j_if_ne (tgt := 42) C dX4_refuseOtherChanges_29 (by decide) (fun c_2 => ?_) (fun c_2 => ?_)
    · skip
      have c_2 : true = true := jb_1 c_2
      refine j_aload_n 0 C dX4_refuseOtherChanges_42 rfl rfl ?_
      refine j_iload_n 1 C dX4_refuseOtherChanges_43 rfl rfl ?_
      refine j_iload_n 2 C dX4_refuseOtherChanges_44 rfl rfl ?_
      refine j_iload_n 3 C dX4_refuseOtherChanges_45 rfl rfl ?_
      refine j_callRi (v := jb (jBt w 1 (nI a - 1))) (j_runS (As := [.ref q, .int 1, .int (nI j), .int w]) (rest := []) [0, 1] C (c_X4_isWith_1 l g q ca n f j a w (by omega) ha (by omega)) gX4_refuseOtherChanges_X4_isWith rfl rfl rfl hd_X4_isWith ⟨Nat.le_of_ble_eq_true rfl, Nat.le_of_ble_eq_true rfl⟩ rfl rfl dX4_refuseOtherChanges_46 rfl (Nat.le_of_ble_eq_true rfl) ⟨Nat.le_of_ble_eq_true rfl, Nat.le_of_ble_eq_true rfl⟩) ?_
      refine j_eq (pc' := 49) (L' := [(0, .ref q), (1, .int 1), (2, .int (nI j)), (3, .int w)]) (st' := [.int (jb false)]) (ws' := [(q, .inr (1, [.ref ca, .int (nI n)])), (ca, jaI g 224 f)]) ?_ rfl rfl (by rw [hw]) rfl
      refine j_if_ne (tgt := 62) C dX4_refuseOtherChanges_49 (by decide) (fun c_3 => ?_) (fun c_3 => ?_)
      · skip
        have c_3 : false = true := jb_1 c_3
        (first | exact absurd c_3 (by decide) | exact absurd c_3 (by omega) | simp_all)
      · skip
        have c_3 : false = false := jb_0 c_3
        exact j_throw (E := "java/lang/IllegalArgumentException") (ik := 62) (is := 211) (ic := 66) C hst9 hX hZ ht9 (by decide) (by decide) (by decide) (List.mem_of_getElem? (i := 3) rfl) (List.mem_of_getElem? (i := 4) rfl) (fun w h => List.mem_cons_of_mem _ (by exact List.mem_append_right _ h)) jat_66 jot_66 dX4_refuseOtherChanges_52 dX4_refuseOtherChanges_55 dX4_refuseOtherChanges_56 dX4_refuseOtherChanges_58 dX4_refuseOtherChanges_61 (Nat.le_of_ble_eq_true rfl) (Nat.le_of_ble_eq_true rfl) (Nat.le_of_ble_eq_true rfl) (Nat.le_of_ble_eq_true rfl)
    · skip
      have c_2 : true = false := jb_0 c_2
      (first | exact absurd c_2 (by decide) | exact absurd c_2 (by omega) | simp_all)
  · skip
    have c_1 : true = false := jb_0 c_1
    (first | exact absurd c_1 (by decide) | exact absurd c_1 (by omega) | simp_all)
set_option maxHeartbeats 4000000 in
set_option maxRecDepth 100000 in
theorem c_X4_refuseOtherChanges_1 (l : Launch) (g : jG) (q ca n : Nat) (f : Nat → Int32) (j i a : Nat) (hj : j < n) (hn : n ≤ 8) (ha : f (j * 28 + 3) = nI a) (ha6 : a ≤ 6) (hi1 : 1 ≤ i) (hi : i < a) : jWv l yX4_refuseOtherChanges wsX4_refuseOtherChanges ({ frames := 8, cells := 0, slots := 0, locals := 200 }) g [.ref q, .int 1, .int (nI j), .int (nI i)] [(q, .inr (1, [.ref ca, .int (nI n)])), (ca, jaI g 224 f)] [(q, .inr (1, [.ref ca, .int (nI n)])), (ca, jaI g 224 f)] := by
  refine j_enterW (Qc := fun sz_ => va_Qv (fun (_ : Unit) => True) (fun _ t => va_P g.1 vwCl [(q, .inr (1, [.ref ca, .int (nI n)])), (ca, jaI g 224 f)] t.heap) (va_A [(q, .inr (1, [.ref ca, .int (nI n)])), (ca, jaI g 224 f)] sz_)) (cc := cX4_refuseOtherChanges) (maxL := 4) (ret := none) (own := RX4) (L := [(0, .ref q), (1, .int 1), (2, .int (nI j)), (3, .int (nI i))]) (by decide) rfl rfl (Nat.le_of_ble_eq_true rfl) rfl (fun p e s m args below meth c C hr => ?_)
  refine j_iload_n 1 C dX4_refuseOtherChanges_0 rfl rfl ?_
  refine j_iconst (v := 0) C dX4_refuseOtherChanges_1 rfl ?_
  refine j_iconst (v := 5) C dX4_refuseOtherChanges_2 rfl ?_
  refine j_callRi (v := jb (jBt 1 0 5)) (j_runS (As := [.int 1, .int 0, .int 5]) (rest := []) [] C (c_X4_isBetween l g 1 0 5) gX4_refuseOtherChanges_X4_isBetween rfl rfl rfl hd_X4_isBetween ⟨Nat.le_of_ble_eq_true rfl, Nat.le_of_ble_eq_true rfl⟩ rfl rfl dX4_refuseOtherChanges_3 rfl (Nat.le_of_ble_eq_true rfl) ⟨Nat.le_of_ble_eq_true rfl, Nat.le_of_ble_eq_true rfl⟩) ?_
  refine j_eq (pc' := 6) (L' := [(0, .ref q), (1, .int 1), (2, .int (nI j)), (3, .int (nI i))]) (st' := [.int (jb true)]) (ws' := [(q, .inr (1, [.ref ca, .int (nI n)])), (ca, jaI g 224 f)]) ?_ rfl rfl (by rw [(show jBt 1 0 5 = true by decide)]) rfl
  refine j_if_ne (tgt := 19) C dX4_refuseOtherChanges_6 (by decide) (fun c_1 => ?_) (fun c_1 => ?_)
  · skip
    have c_1 : true = true := jb_1 c_1
    refine j_iload_n 2 C dX4_refuseOtherChanges_19 rfl rfl ?_
    refine j_iconst (v := 0) C dX4_refuseOtherChanges_20 rfl ?_
    refine j_aload_n 0 C dX4_refuseOtherChanges_21 rfl rfl ?_
    refine j_iload_n 1 C dX4_refuseOtherChanges_22 rfl rfl ?_
    refine j_callRi (v := nI n - 1) (j_runS (As := [.ref q, .int 1]) (rest := [.int 0, .int (nI j)]) [0, 1] C (c_X4_lastLoopFor_1 l g q ca n f) gX4_refuseOtherChanges_X4_lastLoopFor rfl rfl rfl hd_X4_lastLoopFor ⟨Nat.le_of_ble_eq_true rfl, Nat.le_of_ble_eq_true rfl⟩ rfl rfl dX4_refuseOtherChanges_23 rfl (Nat.le_of_ble_eq_true rfl) ⟨Nat.le_of_ble_eq_true rfl, Nat.le_of_ble_eq_true rfl⟩) ?_
    refine j_callRi (v := jb (jBt (nI j) 0 (nI n - 1))) (j_runS (As := [.int (nI j), .int 0, .int (nI n - 1)]) (rest := []) [] C (c_X4_isBetween l g (nI j) 0 (nI n - 1)) gX4_refuseOtherChanges_X4_isBetween rfl rfl rfl hd_X4_isBetween ⟨Nat.le_of_ble_eq_true rfl, Nat.le_of_ble_eq_true rfl⟩ rfl rfl dX4_refuseOtherChanges_26 rfl (Nat.le_of_ble_eq_true rfl) ⟨Nat.le_of_ble_eq_true rfl, Nat.le_of_ble_eq_true rfl⟩) ?_
    refine j_eq (pc' := 29) (L' := [(0, .ref q), (1, .int 1), (2, .int (nI j)), (3, .int (nI i))]) (st' := [.int (jb true)]) (ws' := [(q, .inr (1, [.ref ca, .int (nI n)])), (ca, jaI g 224 f)]) ?_ rfl rfl (by rw [jBt_n hj (by omega)]) rfl
    refine j_if_ne (tgt := 42) C dX4_refuseOtherChanges_29 (by decide) (fun c_2 => ?_) (fun c_2 => ?_)
    · skip
      have c_2 : true = true := jb_1 c_2
      refine j_aload_n 0 C dX4_refuseOtherChanges_42 rfl rfl ?_
      refine j_iload_n 1 C dX4_refuseOtherChanges_43 rfl rfl ?_
      refine j_iload_n 2 C dX4_refuseOtherChanges_44 rfl rfl ?_
      refine j_iload_n 3 C dX4_refuseOtherChanges_45 rfl rfl ?_
      refine j_callRi (v := jb (jBt (nI i) 1 (nI a - 1))) (j_runS (As := [.ref q, .int 1, .int (nI j), .int (nI i)]) (rest := []) [0, 1] C (c_X4_isWith_1 l g q ca n f j a (nI i) (by omega) ha (by omega)) gX4_refuseOtherChanges_X4_isWith rfl rfl rfl hd_X4_isWith ⟨Nat.le_of_ble_eq_true rfl, Nat.le_of_ble_eq_true rfl⟩ rfl rfl dX4_refuseOtherChanges_46 rfl (Nat.le_of_ble_eq_true rfl) ⟨Nat.le_of_ble_eq_true rfl, Nat.le_of_ble_eq_true rfl⟩) ?_
      refine j_eq (pc' := 49) (L' := [(0, .ref q), (1, .int 1), (2, .int (nI j)), (3, .int (nI i))]) (st' := [.int (jb true)]) (ws' := [(q, .inr (1, [.ref ca, .int (nI n)])), (ca, jaI g 224 f)]) ?_ rfl rfl (by rw [jBt_1 hi1 hi (by omega)]) rfl
      refine j_if_ne (tgt := 62) C dX4_refuseOtherChanges_49 (by decide) (fun c_3 => ?_) (fun c_3 => ?_)
      · skip
        have c_3 : true = true := jb_1 c_3
        exact j_vretW C hr dX4_refuseOtherChanges_62 () trivial rfl
      · skip
        have c_3 : true = false := jb_0 c_3
        (first | exact absurd c_3 (by decide) | exact absurd c_3 (by omega) | simp_all)
    · skip
      have c_2 : true = false := jb_0 c_2
      (first | exact absurd c_2 (by decide) | exact absurd c_2 (by omega) | simp_all)
  · skip
    have c_1 : true = false := jb_0 c_1
    (first | exact absurd c_1 (by decide) | exact absurd c_1 (by omega) | simp_all)
set_option maxHeartbeats 4000000 in
set_option maxRecDepth 100000 in
theorem c_X4_refuseOtherChanges_l2 (l : Launch) (g : jG) (hst9 : l.stackTraces = false) (q ca n : Nat) (f : Nat → Int32) (y w : Int32) (hy : jBt y 0 (nI n - 1) = false) : jXt l yX4_refuseOtherChanges wsX4_refuseOtherChanges ({ frames := 8, cells := 1, slots := 6, locals := 200 }) g [.ref q, .int 2, .int y, .int w] [(q, .inr (1, [.ref ca, .int (nI n)])), (ca, jaI g 224 f)] "java/lang/IndexOutOfBoundsException" := by
  refine j_enterX (XC := fun sz_ => jXC g [(q, .inr (1, [.ref ca, .int (nI n)])), (ca, jaI g 224 f)] "java/lang/IndexOutOfBoundsException" (va_A [(q, .inr (1, [.ref ca, .int (nI n)])), (ca, jaI g 224 f)] sz_)) (mc := 1) (ms := 6) (cc := cX4_refuseOtherChanges) (maxL := 4) (ret := none) (own := RX4) (L := [(0, .ref q), (1, .int 2), (2, .int y), (3, .int w)]) (by decide) rfl rfl (Nat.le_of_ble_eq_true rfl) rfl (fun p e s m args below meth c C ht9 hX hZ => ?_)
  refine j_iload_n 1 C dX4_refuseOtherChanges_0 rfl rfl ?_
  refine j_iconst (v := 0) C dX4_refuseOtherChanges_1 rfl ?_
  refine j_iconst (v := 5) C dX4_refuseOtherChanges_2 rfl ?_
  refine j_callRi (v := jb (jBt 2 0 5)) (j_runS (As := [.int 2, .int 0, .int 5]) (rest := []) [] C (c_X4_isBetween l g 2 0 5) gX4_refuseOtherChanges_X4_isBetween rfl rfl rfl hd_X4_isBetween ⟨Nat.le_of_ble_eq_true rfl, Nat.le_of_ble_eq_true rfl⟩ rfl rfl dX4_refuseOtherChanges_3 rfl (Nat.le_of_ble_eq_true rfl) ⟨Nat.le_of_ble_eq_true rfl, Nat.le_of_ble_eq_true rfl⟩) ?_
  refine j_eq (pc' := 6) (L' := [(0, .ref q), (1, .int 2), (2, .int y), (3, .int w)]) (st' := [.int (jb true)]) (ws' := [(q, .inr (1, [.ref ca, .int (nI n)])), (ca, jaI g 224 f)]) ?_ rfl rfl (by rw [(show jBt 2 0 5 = true by decide)]) rfl
  refine j_if_ne (tgt := 19) C dX4_refuseOtherChanges_6 (by decide) (fun c_1 => ?_) (fun c_1 => ?_)
  · skip
    have c_1 : true = true := jb_1 c_1
    refine j_iload_n 2 C dX4_refuseOtherChanges_19 rfl rfl ?_
    refine j_iconst (v := 0) C dX4_refuseOtherChanges_20 rfl ?_
    refine j_aload_n 0 C dX4_refuseOtherChanges_21 rfl rfl ?_
    refine j_iload_n 1 C dX4_refuseOtherChanges_22 rfl rfl ?_
    refine j_callRi (v := nI n - 1) (j_runS (As := [.ref q, .int 2]) (rest := [.int 0, .int y]) [0, 1] C (c_X4_lastLoopFor_2 l g q ca n f) gX4_refuseOtherChanges_X4_lastLoopFor rfl rfl rfl hd_X4_lastLoopFor ⟨Nat.le_of_ble_eq_true rfl, Nat.le_of_ble_eq_true rfl⟩ rfl rfl dX4_refuseOtherChanges_23 rfl (Nat.le_of_ble_eq_true rfl) ⟨Nat.le_of_ble_eq_true rfl, Nat.le_of_ble_eq_true rfl⟩) ?_
    refine j_callRi (v := jb (jBt y 0 (nI n - 1))) (j_runS (As := [.int y, .int 0, .int (nI n - 1)]) (rest := []) [] C (c_X4_isBetween l g y 0 (nI n - 1)) gX4_refuseOtherChanges_X4_isBetween rfl rfl rfl hd_X4_isBetween ⟨Nat.le_of_ble_eq_true rfl, Nat.le_of_ble_eq_true rfl⟩ rfl rfl dX4_refuseOtherChanges_26 rfl (Nat.le_of_ble_eq_true rfl) ⟨Nat.le_of_ble_eq_true rfl, Nat.le_of_ble_eq_true rfl⟩) ?_
    refine j_eq (pc' := 29) (L' := [(0, .ref q), (1, .int 2), (2, .int y), (3, .int w)]) (st' := [.int (jb false)]) (ws' := [(q, .inr (1, [.ref ca, .int (nI n)])), (ca, jaI g 224 f)]) ?_ rfl rfl (by rw [hy]) rfl
    refine j_if_ne (tgt := 42) C dX4_refuseOtherChanges_29 (by decide) (fun c_2 => ?_) (fun c_2 => ?_)
    · skip
      have c_2 : false = true := jb_1 c_2
      (first | exact absurd c_2 (by decide) | exact absurd c_2 (by omega) | simp_all)
    · skip
      have c_2 : false = false := jb_0 c_2
      exact j_throw (E := "java/lang/IndexOutOfBoundsException") (ik := 105) (is := 205) (ic := 109) C hst9 hX hZ ht9 (by decide) (by decide) (by decide) (List.mem_of_getElem? (i := 1) rfl) (List.mem_of_getElem? (i := 2) rfl) (fun w h => List.mem_cons_of_mem _ (by exact List.mem_append_left _ (List.mem_append_right _ h))) jat_109 jot_109 dX4_refuseOtherChanges_32 dX4_refuseOtherChanges_35 dX4_refuseOtherChanges_36 dX4_refuseOtherChanges_38 dX4_refuseOtherChanges_41 (Nat.le_of_ble_eq_true rfl) (Nat.le_of_ble_eq_true rfl) (Nat.le_of_ble_eq_true rfl) (Nat.le_of_ble_eq_true rfl)
  · skip
    have c_1 : true = false := jb_0 c_1
    (first | exact absurd c_1 (by decide) | exact absurd c_1 (by omega) | simp_all)
set_option maxHeartbeats 4000000 in
set_option maxRecDepth 100000 in
theorem c_X4_refuseOtherChanges_w2 (l : Launch) (g : jG) (hst9 : l.stackTraces = false) (q ca n : Nat) (f : Nat → Int32) (j : Nat) (w : Int32) (hj : j < n) (hn : n ≤ 8) (hw : jBt w 1 10 = false) : jXt l yX4_refuseOtherChanges wsX4_refuseOtherChanges ({ frames := 8, cells := 1, slots := 6, locals := 200 }) g [.ref q, .int 2, .int (nI j), .int w] [(q, .inr (1, [.ref ca, .int (nI n)])), (ca, jaI g 224 f)] "java/lang/IllegalArgumentException" := by
  refine j_enterX (XC := fun sz_ => jXC g [(q, .inr (1, [.ref ca, .int (nI n)])), (ca, jaI g 224 f)] "java/lang/IllegalArgumentException" (va_A [(q, .inr (1, [.ref ca, .int (nI n)])), (ca, jaI g 224 f)] sz_)) (mc := 1) (ms := 6) (cc := cX4_refuseOtherChanges) (maxL := 4) (ret := none) (own := RX4) (L := [(0, .ref q), (1, .int 2), (2, .int (nI j)), (3, .int w)]) (by decide) rfl rfl (Nat.le_of_ble_eq_true rfl) rfl (fun p e s m args below meth c C ht9 hX hZ => ?_)
  refine j_iload_n 1 C dX4_refuseOtherChanges_0 rfl rfl ?_
  refine j_iconst (v := 0) C dX4_refuseOtherChanges_1 rfl ?_
  refine j_iconst (v := 5) C dX4_refuseOtherChanges_2 rfl ?_
  refine j_callRi (v := jb (jBt 2 0 5)) (j_runS (As := [.int 2, .int 0, .int 5]) (rest := []) [] C (c_X4_isBetween l g 2 0 5) gX4_refuseOtherChanges_X4_isBetween rfl rfl rfl hd_X4_isBetween ⟨Nat.le_of_ble_eq_true rfl, Nat.le_of_ble_eq_true rfl⟩ rfl rfl dX4_refuseOtherChanges_3 rfl (Nat.le_of_ble_eq_true rfl) ⟨Nat.le_of_ble_eq_true rfl, Nat.le_of_ble_eq_true rfl⟩) ?_
  refine j_eq (pc' := 6) (L' := [(0, .ref q), (1, .int 2), (2, .int (nI j)), (3, .int w)]) (st' := [.int (jb true)]) (ws' := [(q, .inr (1, [.ref ca, .int (nI n)])), (ca, jaI g 224 f)]) ?_ rfl rfl (by rw [(show jBt 2 0 5 = true by decide)]) rfl
  refine j_if_ne (tgt := 19) C dX4_refuseOtherChanges_6 (by decide) (fun c_1 => ?_) (fun c_1 => ?_)
  · skip
    have c_1 : true = true := jb_1 c_1
    refine j_iload_n 2 C dX4_refuseOtherChanges_19 rfl rfl ?_
    refine j_iconst (v := 0) C dX4_refuseOtherChanges_20 rfl ?_
    refine j_aload_n 0 C dX4_refuseOtherChanges_21 rfl rfl ?_
    refine j_iload_n 1 C dX4_refuseOtherChanges_22 rfl rfl ?_
    refine j_callRi (v := nI n - 1) (j_runS (As := [.ref q, .int 2]) (rest := [.int 0, .int (nI j)]) [0, 1] C (c_X4_lastLoopFor_2 l g q ca n f) gX4_refuseOtherChanges_X4_lastLoopFor rfl rfl rfl hd_X4_lastLoopFor ⟨Nat.le_of_ble_eq_true rfl, Nat.le_of_ble_eq_true rfl⟩ rfl rfl dX4_refuseOtherChanges_23 rfl (Nat.le_of_ble_eq_true rfl) ⟨Nat.le_of_ble_eq_true rfl, Nat.le_of_ble_eq_true rfl⟩) ?_
    refine j_callRi (v := jb (jBt (nI j) 0 (nI n - 1))) (j_runS (As := [.int (nI j), .int 0, .int (nI n - 1)]) (rest := []) [] C (c_X4_isBetween l g (nI j) 0 (nI n - 1)) gX4_refuseOtherChanges_X4_isBetween rfl rfl rfl hd_X4_isBetween ⟨Nat.le_of_ble_eq_true rfl, Nat.le_of_ble_eq_true rfl⟩ rfl rfl dX4_refuseOtherChanges_26 rfl (Nat.le_of_ble_eq_true rfl) ⟨Nat.le_of_ble_eq_true rfl, Nat.le_of_ble_eq_true rfl⟩) ?_
    refine j_eq (pc' := 29) (L' := [(0, .ref q), (1, .int 2), (2, .int (nI j)), (3, .int w)]) (st' := [.int (jb true)]) (ws' := [(q, .inr (1, [.ref ca, .int (nI n)])), (ca, jaI g 224 f)]) ?_ rfl rfl (by rw [jBt_n hj (by omega)]) rfl
    refine j_if_ne (tgt := 42) C dX4_refuseOtherChanges_29 (by decide) (fun c_2 => ?_) (fun c_2 => ?_)
    · skip
      have c_2 : true = true := jb_1 c_2
      refine j_aload_n 0 C dX4_refuseOtherChanges_42 rfl rfl ?_
      refine j_iload_n 1 C dX4_refuseOtherChanges_43 rfl rfl ?_
      refine j_iload_n 2 C dX4_refuseOtherChanges_44 rfl rfl ?_
      refine j_iload_n 3 C dX4_refuseOtherChanges_45 rfl rfl ?_
      refine j_callRi (v := jb (jBt w 1 10)) (j_runS (As := [.ref q, .int 2, .int (nI j), .int w]) (rest := []) [0, 1] C (c_X4_isWith_2 l g q ca n f (nI j) w) gX4_refuseOtherChanges_X4_isWith rfl rfl rfl hd_X4_isWith ⟨Nat.le_of_ble_eq_true rfl, Nat.le_of_ble_eq_true rfl⟩ rfl rfl dX4_refuseOtherChanges_46 rfl (Nat.le_of_ble_eq_true rfl) ⟨Nat.le_of_ble_eq_true rfl, Nat.le_of_ble_eq_true rfl⟩) ?_
      refine j_eq (pc' := 49) (L' := [(0, .ref q), (1, .int 2), (2, .int (nI j)), (3, .int w)]) (st' := [.int (jb false)]) (ws' := [(q, .inr (1, [.ref ca, .int (nI n)])), (ca, jaI g 224 f)]) ?_ rfl rfl (by rw [hw]) rfl
      refine j_if_ne (tgt := 62) C dX4_refuseOtherChanges_49 (by decide) (fun c_3 => ?_) (fun c_3 => ?_)
      · skip
        have c_3 : false = true := jb_1 c_3
        (first | exact absurd c_3 (by decide) | exact absurd c_3 (by omega) | simp_all)
      · skip
        have c_3 : false = false := jb_0 c_3
        exact j_throw (E := "java/lang/IllegalArgumentException") (ik := 62) (is := 211) (ic := 66) C hst9 hX hZ ht9 (by decide) (by decide) (by decide) (List.mem_of_getElem? (i := 3) rfl) (List.mem_of_getElem? (i := 4) rfl) (fun w h => List.mem_cons_of_mem _ (by exact List.mem_append_right _ h)) jat_66 jot_66 dX4_refuseOtherChanges_52 dX4_refuseOtherChanges_55 dX4_refuseOtherChanges_56 dX4_refuseOtherChanges_58 dX4_refuseOtherChanges_61 (Nat.le_of_ble_eq_true rfl) (Nat.le_of_ble_eq_true rfl) (Nat.le_of_ble_eq_true rfl) (Nat.le_of_ble_eq_true rfl)
    · skip
      have c_2 : true = false := jb_0 c_2
      (first | exact absurd c_2 (by decide) | exact absurd c_2 (by omega) | simp_all)
  · skip
    have c_1 : true = false := jb_0 c_1
    (first | exact absurd c_1 (by decide) | exact absurd c_1 (by omega) | simp_all)
set_option maxHeartbeats 4000000 in
set_option maxRecDepth 100000 in
theorem c_X4_refuseOtherChanges_2 (l : Launch) (g : jG) (q ca n : Nat) (f : Nat → Int32) (j w a v u : Nat) (hj : j < n) (hn : n ≤ 8) (ha : f (j * 28 + 3) = nI a) (ha6 : a ≤ 6) (hw1 : 1 ≤ w) (hw2 : w ≤ 10) (hv : f (j * 28 + 0) = nI v) (hv5 : v ≤ 5) (hu : f (j * 28 + 1) = nI u) (hu5 : u ≤ 5) : jWv l yX4_refuseOtherChanges wsX4_refuseOtherChanges ({ frames := 8, cells := 0, slots := 0, locals := 200 }) g [.ref q, .int 2, .int (nI j), .int (nI w)] [(q, .inr (1, [.ref ca, .int (nI n)])), (ca, jaI g 224 f)] [(q, .inr (1, [.ref ca, .int (nI n)])), (ca, jaI g 224 f)] := by
  refine j_enterW (Qc := fun sz_ => va_Qv (fun (_ : Unit) => True) (fun _ t => va_P g.1 vwCl [(q, .inr (1, [.ref ca, .int (nI n)])), (ca, jaI g 224 f)] t.heap) (va_A [(q, .inr (1, [.ref ca, .int (nI n)])), (ca, jaI g 224 f)] sz_)) (cc := cX4_refuseOtherChanges) (maxL := 4) (ret := none) (own := RX4) (L := [(0, .ref q), (1, .int 2), (2, .int (nI j)), (3, .int (nI w))]) (by decide) rfl rfl (Nat.le_of_ble_eq_true rfl) rfl (fun p e s m args below meth c C hr => ?_)
  refine j_iload_n 1 C dX4_refuseOtherChanges_0 rfl rfl ?_
  refine j_iconst (v := 0) C dX4_refuseOtherChanges_1 rfl ?_
  refine j_iconst (v := 5) C dX4_refuseOtherChanges_2 rfl ?_
  refine j_callRi (v := jb (jBt 2 0 5)) (j_runS (As := [.int 2, .int 0, .int 5]) (rest := []) [] C (c_X4_isBetween l g 2 0 5) gX4_refuseOtherChanges_X4_isBetween rfl rfl rfl hd_X4_isBetween ⟨Nat.le_of_ble_eq_true rfl, Nat.le_of_ble_eq_true rfl⟩ rfl rfl dX4_refuseOtherChanges_3 rfl (Nat.le_of_ble_eq_true rfl) ⟨Nat.le_of_ble_eq_true rfl, Nat.le_of_ble_eq_true rfl⟩) ?_
  refine j_eq (pc' := 6) (L' := [(0, .ref q), (1, .int 2), (2, .int (nI j)), (3, .int (nI w))]) (st' := [.int (jb true)]) (ws' := [(q, .inr (1, [.ref ca, .int (nI n)])), (ca, jaI g 224 f)]) ?_ rfl rfl (by rw [(show jBt 2 0 5 = true by decide)]) rfl
  refine j_if_ne (tgt := 19) C dX4_refuseOtherChanges_6 (by decide) (fun c_1 => ?_) (fun c_1 => ?_)
  · skip
    have c_1 : true = true := jb_1 c_1
    refine j_iload_n 2 C dX4_refuseOtherChanges_19 rfl rfl ?_
    refine j_iconst (v := 0) C dX4_refuseOtherChanges_20 rfl ?_
    refine j_aload_n 0 C dX4_refuseOtherChanges_21 rfl rfl ?_
    refine j_iload_n 1 C dX4_refuseOtherChanges_22 rfl rfl ?_
    refine j_callRi (v := nI n - 1) (j_runS (As := [.ref q, .int 2]) (rest := [.int 0, .int (nI j)]) [0, 1] C (c_X4_lastLoopFor_2 l g q ca n f) gX4_refuseOtherChanges_X4_lastLoopFor rfl rfl rfl hd_X4_lastLoopFor ⟨Nat.le_of_ble_eq_true rfl, Nat.le_of_ble_eq_true rfl⟩ rfl rfl dX4_refuseOtherChanges_23 rfl (Nat.le_of_ble_eq_true rfl) ⟨Nat.le_of_ble_eq_true rfl, Nat.le_of_ble_eq_true rfl⟩) ?_
    refine j_callRi (v := jb (jBt (nI j) 0 (nI n - 1))) (j_runS (As := [.int (nI j), .int 0, .int (nI n - 1)]) (rest := []) [] C (c_X4_isBetween l g (nI j) 0 (nI n - 1)) gX4_refuseOtherChanges_X4_isBetween rfl rfl rfl hd_X4_isBetween ⟨Nat.le_of_ble_eq_true rfl, Nat.le_of_ble_eq_true rfl⟩ rfl rfl dX4_refuseOtherChanges_26 rfl (Nat.le_of_ble_eq_true rfl) ⟨Nat.le_of_ble_eq_true rfl, Nat.le_of_ble_eq_true rfl⟩) ?_
    refine j_eq (pc' := 29) (L' := [(0, .ref q), (1, .int 2), (2, .int (nI j)), (3, .int (nI w))]) (st' := [.int (jb true)]) (ws' := [(q, .inr (1, [.ref ca, .int (nI n)])), (ca, jaI g 224 f)]) ?_ rfl rfl (by rw [jBt_n hj (by omega)]) rfl
    refine j_if_ne (tgt := 42) C dX4_refuseOtherChanges_29 (by decide) (fun c_2 => ?_) (fun c_2 => ?_)
    · skip
      have c_2 : true = true := jb_1 c_2
      refine j_aload_n 0 C dX4_refuseOtherChanges_42 rfl rfl ?_
      refine j_iload_n 1 C dX4_refuseOtherChanges_43 rfl rfl ?_
      refine j_iload_n 2 C dX4_refuseOtherChanges_44 rfl rfl ?_
      refine j_iload_n 3 C dX4_refuseOtherChanges_45 rfl rfl ?_
      refine j_callRi (v := jb (jBt (nI w) 1 10)) (j_runS (As := [.ref q, .int 2, .int (nI j), .int (nI w)]) (rest := []) [0, 1] C (c_X4_isWith_2 l g q ca n f (nI j) (nI w)) gX4_refuseOtherChanges_X4_isWith rfl rfl rfl hd_X4_isWith ⟨Nat.le_of_ble_eq_true rfl, Nat.le_of_ble_eq_true rfl⟩ rfl rfl dX4_refuseOtherChanges_46 rfl (Nat.le_of_ble_eq_true rfl) ⟨Nat.le_of_ble_eq_true rfl, Nat.le_of_ble_eq_true rfl⟩) ?_
      refine j_eq (pc' := 49) (L' := [(0, .ref q), (1, .int 2), (2, .int (nI j)), (3, .int (nI w))]) (st' := [.int (jb true)]) (ws' := [(q, .inr (1, [.ref ca, .int (nI n)])), (ca, jaI g 224 f)]) ?_ rfl rfl (by rw [(show jBt (nI w) 1 10 = true from jBt_2 (N := 10) hw1 hw2 (by omega))]) rfl
      refine j_if_ne (tgt := 62) C dX4_refuseOtherChanges_49 (by decide) (fun c_3 => ?_) (fun c_3 => ?_)
      · skip
        have c_3 : true = true := jb_1 c_3
        exact j_vretW C hr dX4_refuseOtherChanges_62 () trivial rfl
      · skip
        have c_3 : true = false := jb_0 c_3
        (first | exact absurd c_3 (by decide) | exact absurd c_3 (by omega) | simp_all)
    · skip
      have c_2 : true = false := jb_0 c_2
      (first | exact absurd c_2 (by decide) | exact absurd c_2 (by omega) | simp_all)
  · skip
    have c_1 : true = false := jb_0 c_1
    (first | exact absurd c_1 (by decide) | exact absurd c_1 (by omega) | simp_all)
set_option maxHeartbeats 4000000 in
set_option maxRecDepth 100000 in
theorem c_X4_refuseOtherChanges_l3 (l : Launch) (g : jG) (hst9 : l.stackTraces = false) (q ca n : Nat) (f : Nat → Int32) (y w : Int32) (hy : jBt y 0 (nI n - 1) = false) : jXt l yX4_refuseOtherChanges wsX4_refuseOtherChanges ({ frames := 8, cells := 1, slots := 6, locals := 200 }) g [.ref q, .int 3, .int y, .int w] [(q, .inr (1, [.ref ca, .int (nI n)])), (ca, jaI g 224 f)] "java/lang/IndexOutOfBoundsException" := by
  refine j_enterX (XC := fun sz_ => jXC g [(q, .inr (1, [.ref ca, .int (nI n)])), (ca, jaI g 224 f)] "java/lang/IndexOutOfBoundsException" (va_A [(q, .inr (1, [.ref ca, .int (nI n)])), (ca, jaI g 224 f)] sz_)) (mc := 1) (ms := 6) (cc := cX4_refuseOtherChanges) (maxL := 4) (ret := none) (own := RX4) (L := [(0, .ref q), (1, .int 3), (2, .int y), (3, .int w)]) (by decide) rfl rfl (Nat.le_of_ble_eq_true rfl) rfl (fun p e s m args below meth c C ht9 hX hZ => ?_)
  refine j_iload_n 1 C dX4_refuseOtherChanges_0 rfl rfl ?_
  refine j_iconst (v := 0) C dX4_refuseOtherChanges_1 rfl ?_
  refine j_iconst (v := 5) C dX4_refuseOtherChanges_2 rfl ?_
  refine j_callRi (v := jb (jBt 3 0 5)) (j_runS (As := [.int 3, .int 0, .int 5]) (rest := []) [] C (c_X4_isBetween l g 3 0 5) gX4_refuseOtherChanges_X4_isBetween rfl rfl rfl hd_X4_isBetween ⟨Nat.le_of_ble_eq_true rfl, Nat.le_of_ble_eq_true rfl⟩ rfl rfl dX4_refuseOtherChanges_3 rfl (Nat.le_of_ble_eq_true rfl) ⟨Nat.le_of_ble_eq_true rfl, Nat.le_of_ble_eq_true rfl⟩) ?_
  refine j_eq (pc' := 6) (L' := [(0, .ref q), (1, .int 3), (2, .int y), (3, .int w)]) (st' := [.int (jb true)]) (ws' := [(q, .inr (1, [.ref ca, .int (nI n)])), (ca, jaI g 224 f)]) ?_ rfl rfl (by rw [(show jBt 3 0 5 = true by decide)]) rfl
  refine j_if_ne (tgt := 19) C dX4_refuseOtherChanges_6 (by decide) (fun c_1 => ?_) (fun c_1 => ?_)
  · skip
    have c_1 : true = true := jb_1 c_1
    refine j_iload_n 2 C dX4_refuseOtherChanges_19 rfl rfl ?_
    refine j_iconst (v := 0) C dX4_refuseOtherChanges_20 rfl ?_
    refine j_aload_n 0 C dX4_refuseOtherChanges_21 rfl rfl ?_
    refine j_iload_n 1 C dX4_refuseOtherChanges_22 rfl rfl ?_
    refine j_callRi (v := nI n - 1) (j_runS (As := [.ref q, .int 3]) (rest := [.int 0, .int y]) [0, 1] C (c_X4_lastLoopFor_3 l g q ca n f) gX4_refuseOtherChanges_X4_lastLoopFor rfl rfl rfl hd_X4_lastLoopFor ⟨Nat.le_of_ble_eq_true rfl, Nat.le_of_ble_eq_true rfl⟩ rfl rfl dX4_refuseOtherChanges_23 rfl (Nat.le_of_ble_eq_true rfl) ⟨Nat.le_of_ble_eq_true rfl, Nat.le_of_ble_eq_true rfl⟩) ?_
    refine j_callRi (v := jb (jBt y 0 (nI n - 1))) (j_runS (As := [.int y, .int 0, .int (nI n - 1)]) (rest := []) [] C (c_X4_isBetween l g y 0 (nI n - 1)) gX4_refuseOtherChanges_X4_isBetween rfl rfl rfl hd_X4_isBetween ⟨Nat.le_of_ble_eq_true rfl, Nat.le_of_ble_eq_true rfl⟩ rfl rfl dX4_refuseOtherChanges_26 rfl (Nat.le_of_ble_eq_true rfl) ⟨Nat.le_of_ble_eq_true rfl, Nat.le_of_ble_eq_true rfl⟩) ?_
    refine j_eq (pc' := 29) (L' := [(0, .ref q), (1, .int 3), (2, .int y), (3, .int w)]) (st' := [.int (jb false)]) (ws' := [(q, .inr (1, [.ref ca, .int (nI n)])), (ca, jaI g 224 f)]) ?_ rfl rfl (by rw [hy]) rfl
    refine j_if_ne (tgt := 42) C dX4_refuseOtherChanges_29 (by decide) (fun c_2 => ?_) (fun c_2 => ?_)
    · skip
      have c_2 : false = true := jb_1 c_2
      (first | exact absurd c_2 (by decide) | exact absurd c_2 (by omega) | simp_all)
    · skip
      have c_2 : false = false := jb_0 c_2
      exact j_throw (E := "java/lang/IndexOutOfBoundsException") (ik := 105) (is := 205) (ic := 109) C hst9 hX hZ ht9 (by decide) (by decide) (by decide) (List.mem_of_getElem? (i := 1) rfl) (List.mem_of_getElem? (i := 2) rfl) (fun w h => List.mem_cons_of_mem _ (by exact List.mem_append_left _ (List.mem_append_right _ h))) jat_109 jot_109 dX4_refuseOtherChanges_32 dX4_refuseOtherChanges_35 dX4_refuseOtherChanges_36 dX4_refuseOtherChanges_38 dX4_refuseOtherChanges_41 (Nat.le_of_ble_eq_true rfl) (Nat.le_of_ble_eq_true rfl) (Nat.le_of_ble_eq_true rfl) (Nat.le_of_ble_eq_true rfl)
  · skip
    have c_1 : true = false := jb_0 c_1
    (first | exact absurd c_1 (by decide) | exact absurd c_1 (by omega) | simp_all)
set_option maxHeartbeats 4000000 in
set_option maxRecDepth 100000 in
theorem c_X4_refuseOtherChanges_w3 (l : Launch) (g : jG) (hst9 : l.stackTraces = false) (q ca n : Nat) (f : Nat → Int32) (j : Nat) (w : Int32) (hj : j < n) (hn : n ≤ 8) (hw : ¬ w = 0) : jXt l yX4_refuseOtherChanges wsX4_refuseOtherChanges ({ frames := 8, cells := 1, slots := 6, locals := 200 }) g [.ref q, .int 3, .int (nI j), .int w] [(q, .inr (1, [.ref ca, .int (nI n)])), (ca, jaI g 224 f)] "java/lang/IllegalArgumentException" := by
  refine j_enterX (XC := fun sz_ => jXC g [(q, .inr (1, [.ref ca, .int (nI n)])), (ca, jaI g 224 f)] "java/lang/IllegalArgumentException" (va_A [(q, .inr (1, [.ref ca, .int (nI n)])), (ca, jaI g 224 f)] sz_)) (mc := 1) (ms := 6) (cc := cX4_refuseOtherChanges) (maxL := 4) (ret := none) (own := RX4) (L := [(0, .ref q), (1, .int 3), (2, .int (nI j)), (3, .int w)]) (by decide) rfl rfl (Nat.le_of_ble_eq_true rfl) rfl (fun p e s m args below meth c C ht9 hX hZ => ?_)
  refine j_iload_n 1 C dX4_refuseOtherChanges_0 rfl rfl ?_
  refine j_iconst (v := 0) C dX4_refuseOtherChanges_1 rfl ?_
  refine j_iconst (v := 5) C dX4_refuseOtherChanges_2 rfl ?_
  refine j_callRi (v := jb (jBt 3 0 5)) (j_runS (As := [.int 3, .int 0, .int 5]) (rest := []) [] C (c_X4_isBetween l g 3 0 5) gX4_refuseOtherChanges_X4_isBetween rfl rfl rfl hd_X4_isBetween ⟨Nat.le_of_ble_eq_true rfl, Nat.le_of_ble_eq_true rfl⟩ rfl rfl dX4_refuseOtherChanges_3 rfl (Nat.le_of_ble_eq_true rfl) ⟨Nat.le_of_ble_eq_true rfl, Nat.le_of_ble_eq_true rfl⟩) ?_
  refine j_eq (pc' := 6) (L' := [(0, .ref q), (1, .int 3), (2, .int (nI j)), (3, .int w)]) (st' := [.int (jb true)]) (ws' := [(q, .inr (1, [.ref ca, .int (nI n)])), (ca, jaI g 224 f)]) ?_ rfl rfl (by rw [(show jBt 3 0 5 = true by decide)]) rfl
  refine j_if_ne (tgt := 19) C dX4_refuseOtherChanges_6 (by decide) (fun c_1 => ?_) (fun c_1 => ?_)
  · skip
    have c_1 : true = true := jb_1 c_1
    refine j_iload_n 2 C dX4_refuseOtherChanges_19 rfl rfl ?_
    refine j_iconst (v := 0) C dX4_refuseOtherChanges_20 rfl ?_
    refine j_aload_n 0 C dX4_refuseOtherChanges_21 rfl rfl ?_
    refine j_iload_n 1 C dX4_refuseOtherChanges_22 rfl rfl ?_
    refine j_callRi (v := nI n - 1) (j_runS (As := [.ref q, .int 3]) (rest := [.int 0, .int (nI j)]) [0, 1] C (c_X4_lastLoopFor_3 l g q ca n f) gX4_refuseOtherChanges_X4_lastLoopFor rfl rfl rfl hd_X4_lastLoopFor ⟨Nat.le_of_ble_eq_true rfl, Nat.le_of_ble_eq_true rfl⟩ rfl rfl dX4_refuseOtherChanges_23 rfl (Nat.le_of_ble_eq_true rfl) ⟨Nat.le_of_ble_eq_true rfl, Nat.le_of_ble_eq_true rfl⟩) ?_
    refine j_callRi (v := jb (jBt (nI j) 0 (nI n - 1))) (j_runS (As := [.int (nI j), .int 0, .int (nI n - 1)]) (rest := []) [] C (c_X4_isBetween l g (nI j) 0 (nI n - 1)) gX4_refuseOtherChanges_X4_isBetween rfl rfl rfl hd_X4_isBetween ⟨Nat.le_of_ble_eq_true rfl, Nat.le_of_ble_eq_true rfl⟩ rfl rfl dX4_refuseOtherChanges_26 rfl (Nat.le_of_ble_eq_true rfl) ⟨Nat.le_of_ble_eq_true rfl, Nat.le_of_ble_eq_true rfl⟩) ?_
    refine j_eq (pc' := 29) (L' := [(0, .ref q), (1, .int 3), (2, .int (nI j)), (3, .int w)]) (st' := [.int (jb true)]) (ws' := [(q, .inr (1, [.ref ca, .int (nI n)])), (ca, jaI g 224 f)]) ?_ rfl rfl (by rw [jBt_n hj (by omega)]) rfl
    refine j_if_ne (tgt := 42) C dX4_refuseOtherChanges_29 (by decide) (fun c_2 => ?_) (fun c_2 => ?_)
    · skip
      have c_2 : true = true := jb_1 c_2
      refine j_aload_n 0 C dX4_refuseOtherChanges_42 rfl rfl ?_
      refine j_iload_n 1 C dX4_refuseOtherChanges_43 rfl rfl ?_
      refine j_iload_n 2 C dX4_refuseOtherChanges_44 rfl rfl ?_
      refine j_iload_n 3 C dX4_refuseOtherChanges_45 rfl rfl ?_
      refine j_callRi (v := jb false) (j_runS (As := [.ref q, .int 3, .int (nI j), .int w]) (rest := []) [0, 1] C (c_X4_isWith_3 l g q ca n f (nI j) w (by omega)) gX4_refuseOtherChanges_X4_isWith rfl rfl rfl hd_X4_isWith ⟨Nat.le_of_ble_eq_true rfl, Nat.le_of_ble_eq_true rfl⟩ rfl rfl dX4_refuseOtherChanges_46 rfl (Nat.le_of_ble_eq_true rfl) ⟨Nat.le_of_ble_eq_true rfl, Nat.le_of_ble_eq_true rfl⟩) ?_
      refine j_if_ne (tgt := 62) C dX4_refuseOtherChanges_49 (by decide) (fun c_3 => ?_) (fun c_3 => ?_)
      · skip
        have c_3 : false = true := jb_1 c_3
        (first | exact absurd c_3 (by decide) | exact absurd c_3 (by omega) | simp_all)
      · skip
        have c_3 : false = false := jb_0 c_3
        exact j_throw (E := "java/lang/IllegalArgumentException") (ik := 62) (is := 211) (ic := 66) C hst9 hX hZ ht9 (by decide) (by decide) (by decide) (List.mem_of_getElem? (i := 3) rfl) (List.mem_of_getElem? (i := 4) rfl) (fun w h => List.mem_cons_of_mem _ (by exact List.mem_append_right _ h)) jat_66 jot_66 dX4_refuseOtherChanges_52 dX4_refuseOtherChanges_55 dX4_refuseOtherChanges_56 dX4_refuseOtherChanges_58 dX4_refuseOtherChanges_61 (Nat.le_of_ble_eq_true rfl) (Nat.le_of_ble_eq_true rfl) (Nat.le_of_ble_eq_true rfl) (Nat.le_of_ble_eq_true rfl)
    · skip
      have c_2 : true = false := jb_0 c_2
      (first | exact absurd c_2 (by decide) | exact absurd c_2 (by omega) | simp_all)
  · skip
    have c_1 : true = false := jb_0 c_1
    (first | exact absurd c_1 (by decide) | exact absurd c_1 (by omega) | simp_all)
set_option maxHeartbeats 4000000 in
set_option maxRecDepth 100000 in
theorem c_X4_refuseOtherChanges_3 (l : Launch) (g : jG) (q ca n : Nat) (f : Nat → Int32) (j a : Nat) (hj : j < n) (hn : n ≤ 8) (ha : f (j * 28 + 3) = nI a) (ha6 : a ≤ 6) : jWv l yX4_refuseOtherChanges wsX4_refuseOtherChanges ({ frames := 8, cells := 0, slots := 0, locals := 200 }) g [.ref q, .int 3, .int (nI j), .int 0] [(q, .inr (1, [.ref ca, .int (nI n)])), (ca, jaI g 224 f)] [(q, .inr (1, [.ref ca, .int (nI n)])), (ca, jaI g 224 f)] := by
  refine j_enterW (Qc := fun sz_ => va_Qv (fun (_ : Unit) => True) (fun _ t => va_P g.1 vwCl [(q, .inr (1, [.ref ca, .int (nI n)])), (ca, jaI g 224 f)] t.heap) (va_A [(q, .inr (1, [.ref ca, .int (nI n)])), (ca, jaI g 224 f)] sz_)) (cc := cX4_refuseOtherChanges) (maxL := 4) (ret := none) (own := RX4) (L := [(0, .ref q), (1, .int 3), (2, .int (nI j)), (3, .int 0)]) (by decide) rfl rfl (Nat.le_of_ble_eq_true rfl) rfl (fun p e s m args below meth c C hr => ?_)
  refine j_iload_n 1 C dX4_refuseOtherChanges_0 rfl rfl ?_
  refine j_iconst (v := 0) C dX4_refuseOtherChanges_1 rfl ?_
  refine j_iconst (v := 5) C dX4_refuseOtherChanges_2 rfl ?_
  refine j_callRi (v := jb (jBt 3 0 5)) (j_runS (As := [.int 3, .int 0, .int 5]) (rest := []) [] C (c_X4_isBetween l g 3 0 5) gX4_refuseOtherChanges_X4_isBetween rfl rfl rfl hd_X4_isBetween ⟨Nat.le_of_ble_eq_true rfl, Nat.le_of_ble_eq_true rfl⟩ rfl rfl dX4_refuseOtherChanges_3 rfl (Nat.le_of_ble_eq_true rfl) ⟨Nat.le_of_ble_eq_true rfl, Nat.le_of_ble_eq_true rfl⟩) ?_
  refine j_eq (pc' := 6) (L' := [(0, .ref q), (1, .int 3), (2, .int (nI j)), (3, .int 0)]) (st' := [.int (jb true)]) (ws' := [(q, .inr (1, [.ref ca, .int (nI n)])), (ca, jaI g 224 f)]) ?_ rfl rfl (by rw [(show jBt 3 0 5 = true by decide)]) rfl
  refine j_if_ne (tgt := 19) C dX4_refuseOtherChanges_6 (by decide) (fun c_1 => ?_) (fun c_1 => ?_)
  · skip
    have c_1 : true = true := jb_1 c_1
    refine j_iload_n 2 C dX4_refuseOtherChanges_19 rfl rfl ?_
    refine j_iconst (v := 0) C dX4_refuseOtherChanges_20 rfl ?_
    refine j_aload_n 0 C dX4_refuseOtherChanges_21 rfl rfl ?_
    refine j_iload_n 1 C dX4_refuseOtherChanges_22 rfl rfl ?_
    refine j_callRi (v := nI n - 1) (j_runS (As := [.ref q, .int 3]) (rest := [.int 0, .int (nI j)]) [0, 1] C (c_X4_lastLoopFor_3 l g q ca n f) gX4_refuseOtherChanges_X4_lastLoopFor rfl rfl rfl hd_X4_lastLoopFor ⟨Nat.le_of_ble_eq_true rfl, Nat.le_of_ble_eq_true rfl⟩ rfl rfl dX4_refuseOtherChanges_23 rfl (Nat.le_of_ble_eq_true rfl) ⟨Nat.le_of_ble_eq_true rfl, Nat.le_of_ble_eq_true rfl⟩) ?_
    refine j_callRi (v := jb (jBt (nI j) 0 (nI n - 1))) (j_runS (As := [.int (nI j), .int 0, .int (nI n - 1)]) (rest := []) [] C (c_X4_isBetween l g (nI j) 0 (nI n - 1)) gX4_refuseOtherChanges_X4_isBetween rfl rfl rfl hd_X4_isBetween ⟨Nat.le_of_ble_eq_true rfl, Nat.le_of_ble_eq_true rfl⟩ rfl rfl dX4_refuseOtherChanges_26 rfl (Nat.le_of_ble_eq_true rfl) ⟨Nat.le_of_ble_eq_true rfl, Nat.le_of_ble_eq_true rfl⟩) ?_
    refine j_eq (pc' := 29) (L' := [(0, .ref q), (1, .int 3), (2, .int (nI j)), (3, .int 0)]) (st' := [.int (jb true)]) (ws' := [(q, .inr (1, [.ref ca, .int (nI n)])), (ca, jaI g 224 f)]) ?_ rfl rfl (by rw [jBt_n hj (by omega)]) rfl
    refine j_if_ne (tgt := 42) C dX4_refuseOtherChanges_29 (by decide) (fun c_2 => ?_) (fun c_2 => ?_)
    · skip
      have c_2 : true = true := jb_1 c_2
      refine j_aload_n 0 C dX4_refuseOtherChanges_42 rfl rfl ?_
      refine j_iload_n 1 C dX4_refuseOtherChanges_43 rfl rfl ?_
      refine j_iload_n 2 C dX4_refuseOtherChanges_44 rfl rfl ?_
      refine j_iload_n 3 C dX4_refuseOtherChanges_45 rfl rfl ?_
      refine j_callRi (v := jb true) (j_runS (As := [.ref q, .int 3, .int (nI j), .int 0]) (rest := []) [0, 1] C (c_X4_isWith_3z l g q ca n f (nI j)) gX4_refuseOtherChanges_X4_isWith rfl rfl rfl hd_X4_isWith ⟨Nat.le_of_ble_eq_true rfl, Nat.le_of_ble_eq_true rfl⟩ rfl rfl dX4_refuseOtherChanges_46 rfl (Nat.le_of_ble_eq_true rfl) ⟨Nat.le_of_ble_eq_true rfl, Nat.le_of_ble_eq_true rfl⟩) ?_
      refine j_if_ne (tgt := 62) C dX4_refuseOtherChanges_49 (by decide) (fun c_3 => ?_) (fun c_3 => ?_)
      · skip
        have c_3 : true = true := jb_1 c_3
        exact j_vretW C hr dX4_refuseOtherChanges_62 () trivial rfl
      · skip
        have c_3 : true = false := jb_0 c_3
        (first | exact absurd c_3 (by decide) | exact absurd c_3 (by omega) | simp_all)
    · skip
      have c_2 : true = false := jb_0 c_2
      (first | exact absurd c_2 (by decide) | exact absurd c_2 (by omega) | simp_all)
  · skip
    have c_1 : true = false := jb_0 c_1
    (first | exact absurd c_1 (by decide) | exact absurd c_1 (by omega) | simp_all)
set_option maxHeartbeats 4000000 in
set_option maxRecDepth 100000 in
theorem c_X4_refuseOtherChanges_l4 (l : Launch) (g : jG) (hst9 : l.stackTraces = false) (q ca n : Nat) (f : Nat → Int32) (y w : Int32) (hy : jBt y 0 (nI n - 2) = false) : jXt l yX4_refuseOtherChanges wsX4_refuseOtherChanges ({ frames := 8, cells := 1, slots := 6, locals := 200 }) g [.ref q, .int 4, .int y, .int w] [(q, .inr (1, [.ref ca, .int (nI n)])), (ca, jaI g 224 f)] "java/lang/IndexOutOfBoundsException" := by
  refine j_enterX (XC := fun sz_ => jXC g [(q, .inr (1, [.ref ca, .int (nI n)])), (ca, jaI g 224 f)] "java/lang/IndexOutOfBoundsException" (va_A [(q, .inr (1, [.ref ca, .int (nI n)])), (ca, jaI g 224 f)] sz_)) (mc := 1) (ms := 6) (cc := cX4_refuseOtherChanges) (maxL := 4) (ret := none) (own := RX4) (L := [(0, .ref q), (1, .int 4), (2, .int y), (3, .int w)]) (by decide) rfl rfl (Nat.le_of_ble_eq_true rfl) rfl (fun p e s m args below meth c C ht9 hX hZ => ?_)
  refine j_iload_n 1 C dX4_refuseOtherChanges_0 rfl rfl ?_
  refine j_iconst (v := 0) C dX4_refuseOtherChanges_1 rfl ?_
  refine j_iconst (v := 5) C dX4_refuseOtherChanges_2 rfl ?_
  refine j_callRi (v := jb (jBt 4 0 5)) (j_runS (As := [.int 4, .int 0, .int 5]) (rest := []) [] C (c_X4_isBetween l g 4 0 5) gX4_refuseOtherChanges_X4_isBetween rfl rfl rfl hd_X4_isBetween ⟨Nat.le_of_ble_eq_true rfl, Nat.le_of_ble_eq_true rfl⟩ rfl rfl dX4_refuseOtherChanges_3 rfl (Nat.le_of_ble_eq_true rfl) ⟨Nat.le_of_ble_eq_true rfl, Nat.le_of_ble_eq_true rfl⟩) ?_
  refine j_eq (pc' := 6) (L' := [(0, .ref q), (1, .int 4), (2, .int y), (3, .int w)]) (st' := [.int (jb true)]) (ws' := [(q, .inr (1, [.ref ca, .int (nI n)])), (ca, jaI g 224 f)]) ?_ rfl rfl (by rw [(show jBt 4 0 5 = true by decide)]) rfl
  refine j_if_ne (tgt := 19) C dX4_refuseOtherChanges_6 (by decide) (fun c_1 => ?_) (fun c_1 => ?_)
  · skip
    have c_1 : true = true := jb_1 c_1
    refine j_iload_n 2 C dX4_refuseOtherChanges_19 rfl rfl ?_
    refine j_iconst (v := 0) C dX4_refuseOtherChanges_20 rfl ?_
    refine j_aload_n 0 C dX4_refuseOtherChanges_21 rfl rfl ?_
    refine j_iload_n 1 C dX4_refuseOtherChanges_22 rfl rfl ?_
    refine j_callRi (v := nI n - 2) (j_runS (As := [.ref q, .int 4]) (rest := [.int 0, .int y]) [0, 1] C (c_X4_lastLoopFor_4 l g q ca n f) gX4_refuseOtherChanges_X4_lastLoopFor rfl rfl rfl hd_X4_lastLoopFor ⟨Nat.le_of_ble_eq_true rfl, Nat.le_of_ble_eq_true rfl⟩ rfl rfl dX4_refuseOtherChanges_23 rfl (Nat.le_of_ble_eq_true rfl) ⟨Nat.le_of_ble_eq_true rfl, Nat.le_of_ble_eq_true rfl⟩) ?_
    refine j_callRi (v := jb (jBt y 0 (nI n - 2))) (j_runS (As := [.int y, .int 0, .int (nI n - 2)]) (rest := []) [] C (c_X4_isBetween l g y 0 (nI n - 2)) gX4_refuseOtherChanges_X4_isBetween rfl rfl rfl hd_X4_isBetween ⟨Nat.le_of_ble_eq_true rfl, Nat.le_of_ble_eq_true rfl⟩ rfl rfl dX4_refuseOtherChanges_26 rfl (Nat.le_of_ble_eq_true rfl) ⟨Nat.le_of_ble_eq_true rfl, Nat.le_of_ble_eq_true rfl⟩) ?_
    refine j_eq (pc' := 29) (L' := [(0, .ref q), (1, .int 4), (2, .int y), (3, .int w)]) (st' := [.int (jb false)]) (ws' := [(q, .inr (1, [.ref ca, .int (nI n)])), (ca, jaI g 224 f)]) ?_ rfl rfl (by rw [hy]) rfl
    refine j_if_ne (tgt := 42) C dX4_refuseOtherChanges_29 (by decide) (fun c_2 => ?_) (fun c_2 => ?_)
    · skip
      have c_2 : false = true := jb_1 c_2
      (first | exact absurd c_2 (by decide) | exact absurd c_2 (by omega) | simp_all)
    · skip
      have c_2 : false = false := jb_0 c_2
      exact j_throw (E := "java/lang/IndexOutOfBoundsException") (ik := 105) (is := 205) (ic := 109) C hst9 hX hZ ht9 (by decide) (by decide) (by decide) (List.mem_of_getElem? (i := 1) rfl) (List.mem_of_getElem? (i := 2) rfl) (fun w h => List.mem_cons_of_mem _ (by exact List.mem_append_left _ (List.mem_append_right _ h))) jat_109 jot_109 dX4_refuseOtherChanges_32 dX4_refuseOtherChanges_35 dX4_refuseOtherChanges_36 dX4_refuseOtherChanges_38 dX4_refuseOtherChanges_41 (Nat.le_of_ble_eq_true rfl) (Nat.le_of_ble_eq_true rfl) (Nat.le_of_ble_eq_true rfl) (Nat.le_of_ble_eq_true rfl)
  · skip
    have c_1 : true = false := jb_0 c_1
    (first | exact absurd c_1 (by decide) | exact absurd c_1 (by omega) | simp_all)
set_option maxHeartbeats 4000000 in
set_option maxRecDepth 100000 in
theorem c_X4_refuseOtherChanges_w4 (l : Launch) (g : jG) (hst9 : l.stackTraces = false) (q ca n : Nat) (f : Nat → Int32) (j : Nat) (w : Int32) (hj : j + 1 < n) (hn : n ≤ 8) (hw : ¬ w = 0) : jXt l yX4_refuseOtherChanges wsX4_refuseOtherChanges ({ frames := 8, cells := 1, slots := 6, locals := 200 }) g [.ref q, .int 4, .int (nI j), .int w] [(q, .inr (1, [.ref ca, .int (nI n)])), (ca, jaI g 224 f)] "java/lang/IllegalArgumentException" := by
  refine j_enterX (XC := fun sz_ => jXC g [(q, .inr (1, [.ref ca, .int (nI n)])), (ca, jaI g 224 f)] "java/lang/IllegalArgumentException" (va_A [(q, .inr (1, [.ref ca, .int (nI n)])), (ca, jaI g 224 f)] sz_)) (mc := 1) (ms := 6) (cc := cX4_refuseOtherChanges) (maxL := 4) (ret := none) (own := RX4) (L := [(0, .ref q), (1, .int 4), (2, .int (nI j)), (3, .int w)]) (by decide) rfl rfl (Nat.le_of_ble_eq_true rfl) rfl (fun p e s m args below meth c C ht9 hX hZ => ?_)
  refine j_iload_n 1 C dX4_refuseOtherChanges_0 rfl rfl ?_
  refine j_iconst (v := 0) C dX4_refuseOtherChanges_1 rfl ?_
  refine j_iconst (v := 5) C dX4_refuseOtherChanges_2 rfl ?_
  refine j_callRi (v := jb (jBt 4 0 5)) (j_runS (As := [.int 4, .int 0, .int 5]) (rest := []) [] C (c_X4_isBetween l g 4 0 5) gX4_refuseOtherChanges_X4_isBetween rfl rfl rfl hd_X4_isBetween ⟨Nat.le_of_ble_eq_true rfl, Nat.le_of_ble_eq_true rfl⟩ rfl rfl dX4_refuseOtherChanges_3 rfl (Nat.le_of_ble_eq_true rfl) ⟨Nat.le_of_ble_eq_true rfl, Nat.le_of_ble_eq_true rfl⟩) ?_
  refine j_eq (pc' := 6) (L' := [(0, .ref q), (1, .int 4), (2, .int (nI j)), (3, .int w)]) (st' := [.int (jb true)]) (ws' := [(q, .inr (1, [.ref ca, .int (nI n)])), (ca, jaI g 224 f)]) ?_ rfl rfl (by rw [(show jBt 4 0 5 = true by decide)]) rfl
  refine j_if_ne (tgt := 19) C dX4_refuseOtherChanges_6 (by decide) (fun c_1 => ?_) (fun c_1 => ?_)
  · skip
    have c_1 : true = true := jb_1 c_1
    refine j_iload_n 2 C dX4_refuseOtherChanges_19 rfl rfl ?_
    refine j_iconst (v := 0) C dX4_refuseOtherChanges_20 rfl ?_
    refine j_aload_n 0 C dX4_refuseOtherChanges_21 rfl rfl ?_
    refine j_iload_n 1 C dX4_refuseOtherChanges_22 rfl rfl ?_
    refine j_callRi (v := nI n - 2) (j_runS (As := [.ref q, .int 4]) (rest := [.int 0, .int (nI j)]) [0, 1] C (c_X4_lastLoopFor_4 l g q ca n f) gX4_refuseOtherChanges_X4_lastLoopFor rfl rfl rfl hd_X4_lastLoopFor ⟨Nat.le_of_ble_eq_true rfl, Nat.le_of_ble_eq_true rfl⟩ rfl rfl dX4_refuseOtherChanges_23 rfl (Nat.le_of_ble_eq_true rfl) ⟨Nat.le_of_ble_eq_true rfl, Nat.le_of_ble_eq_true rfl⟩) ?_
    refine j_callRi (v := jb (jBt (nI j) 0 (nI n - 2))) (j_runS (As := [.int (nI j), .int 0, .int (nI n - 2)]) (rest := []) [] C (c_X4_isBetween l g (nI j) 0 (nI n - 2)) gX4_refuseOtherChanges_X4_isBetween rfl rfl rfl hd_X4_isBetween ⟨Nat.le_of_ble_eq_true rfl, Nat.le_of_ble_eq_true rfl⟩ rfl rfl dX4_refuseOtherChanges_26 rfl (Nat.le_of_ble_eq_true rfl) ⟨Nat.le_of_ble_eq_true rfl, Nat.le_of_ble_eq_true rfl⟩) ?_
    refine j_eq (pc' := 29) (L' := [(0, .ref q), (1, .int 4), (2, .int (nI j)), (3, .int w)]) (st' := [.int (jb true)]) (ws' := [(q, .inr (1, [.ref ca, .int (nI n)])), (ca, jaI g 224 f)]) ?_ rfl rfl (by rw [jBt_n2 hj (by omega)]) rfl
    refine j_if_ne (tgt := 42) C dX4_refuseOtherChanges_29 (by decide) (fun c_2 => ?_) (fun c_2 => ?_)
    · skip
      have c_2 : true = true := jb_1 c_2
      refine j_aload_n 0 C dX4_refuseOtherChanges_42 rfl rfl ?_
      refine j_iload_n 1 C dX4_refuseOtherChanges_43 rfl rfl ?_
      refine j_iload_n 2 C dX4_refuseOtherChanges_44 rfl rfl ?_
      refine j_iload_n 3 C dX4_refuseOtherChanges_45 rfl rfl ?_
      refine j_callRi (v := jb false) (j_runS (As := [.ref q, .int 4, .int (nI j), .int w]) (rest := []) [0, 1] C (c_X4_isWith_4 l g q ca n f (nI j) w (by omega)) gX4_refuseOtherChanges_X4_isWith rfl rfl rfl hd_X4_isWith ⟨Nat.le_of_ble_eq_true rfl, Nat.le_of_ble_eq_true rfl⟩ rfl rfl dX4_refuseOtherChanges_46 rfl (Nat.le_of_ble_eq_true rfl) ⟨Nat.le_of_ble_eq_true rfl, Nat.le_of_ble_eq_true rfl⟩) ?_
      refine j_if_ne (tgt := 62) C dX4_refuseOtherChanges_49 (by decide) (fun c_3 => ?_) (fun c_3 => ?_)
      · skip
        have c_3 : false = true := jb_1 c_3
        (first | exact absurd c_3 (by decide) | exact absurd c_3 (by omega) | simp_all)
      · skip
        have c_3 : false = false := jb_0 c_3
        exact j_throw (E := "java/lang/IllegalArgumentException") (ik := 62) (is := 211) (ic := 66) C hst9 hX hZ ht9 (by decide) (by decide) (by decide) (List.mem_of_getElem? (i := 3) rfl) (List.mem_of_getElem? (i := 4) rfl) (fun w h => List.mem_cons_of_mem _ (by exact List.mem_append_right _ h)) jat_66 jot_66 dX4_refuseOtherChanges_52 dX4_refuseOtherChanges_55 dX4_refuseOtherChanges_56 dX4_refuseOtherChanges_58 dX4_refuseOtherChanges_61 (Nat.le_of_ble_eq_true rfl) (Nat.le_of_ble_eq_true rfl) (Nat.le_of_ble_eq_true rfl) (Nat.le_of_ble_eq_true rfl)
    · skip
      have c_2 : true = false := jb_0 c_2
      (first | exact absurd c_2 (by decide) | exact absurd c_2 (by omega) | simp_all)
  · skip
    have c_1 : true = false := jb_0 c_1
    (first | exact absurd c_1 (by decide) | exact absurd c_1 (by omega) | simp_all)
set_option maxHeartbeats 4000000 in
set_option maxRecDepth 100000 in
theorem c_X4_refuseOtherChanges_4 (l : Launch) (g : jG) (q ca n : Nat) (f : Nat → Int32) (j a b : Nat) (hj : j + 1 < n) (hn : n ≤ 8) (ha : f (j * 28 + 3) = nI a) (ha6 : a ≤ 6) (hb : f ((j + 1) * 28 + 3) = nI b) (hb6 : b ≤ 6) : jWv l yX4_refuseOtherChanges wsX4_refuseOtherChanges ({ frames := 8, cells := 0, slots := 0, locals := 200 }) g [.ref q, .int 4, .int (nI j), .int 0] [(q, .inr (1, [.ref ca, .int (nI n)])), (ca, jaI g 224 f)] [(q, .inr (1, [.ref ca, .int (nI n)])), (ca, jaI g 224 f)] := by
  refine j_enterW (Qc := fun sz_ => va_Qv (fun (_ : Unit) => True) (fun _ t => va_P g.1 vwCl [(q, .inr (1, [.ref ca, .int (nI n)])), (ca, jaI g 224 f)] t.heap) (va_A [(q, .inr (1, [.ref ca, .int (nI n)])), (ca, jaI g 224 f)] sz_)) (cc := cX4_refuseOtherChanges) (maxL := 4) (ret := none) (own := RX4) (L := [(0, .ref q), (1, .int 4), (2, .int (nI j)), (3, .int 0)]) (by decide) rfl rfl (Nat.le_of_ble_eq_true rfl) rfl (fun p e s m args below meth c C hr => ?_)
  refine j_iload_n 1 C dX4_refuseOtherChanges_0 rfl rfl ?_
  refine j_iconst (v := 0) C dX4_refuseOtherChanges_1 rfl ?_
  refine j_iconst (v := 5) C dX4_refuseOtherChanges_2 rfl ?_
  refine j_callRi (v := jb (jBt 4 0 5)) (j_runS (As := [.int 4, .int 0, .int 5]) (rest := []) [] C (c_X4_isBetween l g 4 0 5) gX4_refuseOtherChanges_X4_isBetween rfl rfl rfl hd_X4_isBetween ⟨Nat.le_of_ble_eq_true rfl, Nat.le_of_ble_eq_true rfl⟩ rfl rfl dX4_refuseOtherChanges_3 rfl (Nat.le_of_ble_eq_true rfl) ⟨Nat.le_of_ble_eq_true rfl, Nat.le_of_ble_eq_true rfl⟩) ?_
  refine j_eq (pc' := 6) (L' := [(0, .ref q), (1, .int 4), (2, .int (nI j)), (3, .int 0)]) (st' := [.int (jb true)]) (ws' := [(q, .inr (1, [.ref ca, .int (nI n)])), (ca, jaI g 224 f)]) ?_ rfl rfl (by rw [(show jBt 4 0 5 = true by decide)]) rfl
  refine j_if_ne (tgt := 19) C dX4_refuseOtherChanges_6 (by decide) (fun c_1 => ?_) (fun c_1 => ?_)
  · skip
    have c_1 : true = true := jb_1 c_1
    refine j_iload_n 2 C dX4_refuseOtherChanges_19 rfl rfl ?_
    refine j_iconst (v := 0) C dX4_refuseOtherChanges_20 rfl ?_
    refine j_aload_n 0 C dX4_refuseOtherChanges_21 rfl rfl ?_
    refine j_iload_n 1 C dX4_refuseOtherChanges_22 rfl rfl ?_
    refine j_callRi (v := nI n - 2) (j_runS (As := [.ref q, .int 4]) (rest := [.int 0, .int (nI j)]) [0, 1] C (c_X4_lastLoopFor_4 l g q ca n f) gX4_refuseOtherChanges_X4_lastLoopFor rfl rfl rfl hd_X4_lastLoopFor ⟨Nat.le_of_ble_eq_true rfl, Nat.le_of_ble_eq_true rfl⟩ rfl rfl dX4_refuseOtherChanges_23 rfl (Nat.le_of_ble_eq_true rfl) ⟨Nat.le_of_ble_eq_true rfl, Nat.le_of_ble_eq_true rfl⟩) ?_
    refine j_callRi (v := jb (jBt (nI j) 0 (nI n - 2))) (j_runS (As := [.int (nI j), .int 0, .int (nI n - 2)]) (rest := []) [] C (c_X4_isBetween l g (nI j) 0 (nI n - 2)) gX4_refuseOtherChanges_X4_isBetween rfl rfl rfl hd_X4_isBetween ⟨Nat.le_of_ble_eq_true rfl, Nat.le_of_ble_eq_true rfl⟩ rfl rfl dX4_refuseOtherChanges_26 rfl (Nat.le_of_ble_eq_true rfl) ⟨Nat.le_of_ble_eq_true rfl, Nat.le_of_ble_eq_true rfl⟩) ?_
    refine j_eq (pc' := 29) (L' := [(0, .ref q), (1, .int 4), (2, .int (nI j)), (3, .int 0)]) (st' := [.int (jb true)]) (ws' := [(q, .inr (1, [.ref ca, .int (nI n)])), (ca, jaI g 224 f)]) ?_ rfl rfl (by rw [jBt_n2 hj (by omega)]) rfl
    refine j_if_ne (tgt := 42) C dX4_refuseOtherChanges_29 (by decide) (fun c_2 => ?_) (fun c_2 => ?_)
    · skip
      have c_2 : true = true := jb_1 c_2
      refine j_aload_n 0 C dX4_refuseOtherChanges_42 rfl rfl ?_
      refine j_iload_n 1 C dX4_refuseOtherChanges_43 rfl rfl ?_
      refine j_iload_n 2 C dX4_refuseOtherChanges_44 rfl rfl ?_
      refine j_iload_n 3 C dX4_refuseOtherChanges_45 rfl rfl ?_
      refine j_callRi (v := jb true) (j_runS (As := [.ref q, .int 4, .int (nI j), .int 0]) (rest := []) [0, 1] C (c_X4_isWith_4z l g q ca n f (nI j)) gX4_refuseOtherChanges_X4_isWith rfl rfl rfl hd_X4_isWith ⟨Nat.le_of_ble_eq_true rfl, Nat.le_of_ble_eq_true rfl⟩ rfl rfl dX4_refuseOtherChanges_46 rfl (Nat.le_of_ble_eq_true rfl) ⟨Nat.le_of_ble_eq_true rfl, Nat.le_of_ble_eq_true rfl⟩) ?_
      refine j_if_ne (tgt := 62) C dX4_refuseOtherChanges_49 (by decide) (fun c_3 => ?_) (fun c_3 => ?_)
      · skip
        have c_3 : true = true := jb_1 c_3
        exact j_vretW C hr dX4_refuseOtherChanges_62 () trivial rfl
      · skip
        have c_3 : true = false := jb_0 c_3
        (first | exact absurd c_3 (by decide) | exact absurd c_3 (by omega) | simp_all)
    · skip
      have c_2 : true = false := jb_0 c_2
      (first | exact absurd c_2 (by decide) | exact absurd c_2 (by omega) | simp_all)
  · skip
    have c_1 : true = false := jb_0 c_1
    (first | exact absurd c_1 (by decide) | exact absurd c_1 (by omega) | simp_all)
set_option maxHeartbeats 4000000 in
set_option maxRecDepth 100000 in
theorem c_X4_refuseOtherChanges_l5 (l : Launch) (g : jG) (hst9 : l.stackTraces = false) (q ca n : Nat) (f : Nat → Int32) (y w : Int32) (hy : jBt y 0 0 = false) : jXt l yX4_refuseOtherChanges wsX4_refuseOtherChanges ({ frames := 8, cells := 1, slots := 6, locals := 200 }) g [.ref q, .int 5, .int y, .int w] [(q, .inr (1, [.ref ca, .int (nI n)])), (ca, jaI g 224 f)] "java/lang/IndexOutOfBoundsException" := by
  refine j_enterX (XC := fun sz_ => jXC g [(q, .inr (1, [.ref ca, .int (nI n)])), (ca, jaI g 224 f)] "java/lang/IndexOutOfBoundsException" (va_A [(q, .inr (1, [.ref ca, .int (nI n)])), (ca, jaI g 224 f)] sz_)) (mc := 1) (ms := 6) (cc := cX4_refuseOtherChanges) (maxL := 4) (ret := none) (own := RX4) (L := [(0, .ref q), (1, .int 5), (2, .int y), (3, .int w)]) (by decide) rfl rfl (Nat.le_of_ble_eq_true rfl) rfl (fun p e s m args below meth c C ht9 hX hZ => ?_)
  refine j_iload_n 1 C dX4_refuseOtherChanges_0 rfl rfl ?_
  refine j_iconst (v := 0) C dX4_refuseOtherChanges_1 rfl ?_
  refine j_iconst (v := 5) C dX4_refuseOtherChanges_2 rfl ?_
  refine j_callRi (v := jb (jBt 5 0 5)) (j_runS (As := [.int 5, .int 0, .int 5]) (rest := []) [] C (c_X4_isBetween l g 5 0 5) gX4_refuseOtherChanges_X4_isBetween rfl rfl rfl hd_X4_isBetween ⟨Nat.le_of_ble_eq_true rfl, Nat.le_of_ble_eq_true rfl⟩ rfl rfl dX4_refuseOtherChanges_3 rfl (Nat.le_of_ble_eq_true rfl) ⟨Nat.le_of_ble_eq_true rfl, Nat.le_of_ble_eq_true rfl⟩) ?_
  refine j_eq (pc' := 6) (L' := [(0, .ref q), (1, .int 5), (2, .int y), (3, .int w)]) (st' := [.int (jb true)]) (ws' := [(q, .inr (1, [.ref ca, .int (nI n)])), (ca, jaI g 224 f)]) ?_ rfl rfl (by rw [(show jBt 5 0 5 = true by decide)]) rfl
  refine j_if_ne (tgt := 19) C dX4_refuseOtherChanges_6 (by decide) (fun c_1 => ?_) (fun c_1 => ?_)
  · skip
    have c_1 : true = true := jb_1 c_1
    refine j_iload_n 2 C dX4_refuseOtherChanges_19 rfl rfl ?_
    refine j_iconst (v := 0) C dX4_refuseOtherChanges_20 rfl ?_
    refine j_aload_n 0 C dX4_refuseOtherChanges_21 rfl rfl ?_
    refine j_iload_n 1 C dX4_refuseOtherChanges_22 rfl rfl ?_
    refine j_callRi (v := 0) (j_runS (As := [.ref q, .int 5]) (rest := [.int 0, .int y]) [0, 1] C (c_X4_lastLoopFor_5 l g q ca n f) gX4_refuseOtherChanges_X4_lastLoopFor rfl rfl rfl hd_X4_lastLoopFor ⟨Nat.le_of_ble_eq_true rfl, Nat.le_of_ble_eq_true rfl⟩ rfl rfl dX4_refuseOtherChanges_23 rfl (Nat.le_of_ble_eq_true rfl) ⟨Nat.le_of_ble_eq_true rfl, Nat.le_of_ble_eq_true rfl⟩) ?_
    refine j_callRi (v := jb (jBt y 0 0)) (j_runS (As := [.int y, .int 0, .int 0]) (rest := []) [] C (c_X4_isBetween l g y 0 0) gX4_refuseOtherChanges_X4_isBetween rfl rfl rfl hd_X4_isBetween ⟨Nat.le_of_ble_eq_true rfl, Nat.le_of_ble_eq_true rfl⟩ rfl rfl dX4_refuseOtherChanges_26 rfl (Nat.le_of_ble_eq_true rfl) ⟨Nat.le_of_ble_eq_true rfl, Nat.le_of_ble_eq_true rfl⟩) ?_
    refine j_eq (pc' := 29) (L' := [(0, .ref q), (1, .int 5), (2, .int y), (3, .int w)]) (st' := [.int (jb false)]) (ws' := [(q, .inr (1, [.ref ca, .int (nI n)])), (ca, jaI g 224 f)]) ?_ rfl rfl (by rw [hy]) rfl
    refine j_if_ne (tgt := 42) C dX4_refuseOtherChanges_29 (by decide) (fun c_2 => ?_) (fun c_2 => ?_)
    · skip
      have c_2 : false = true := jb_1 c_2
      (first | exact absurd c_2 (by decide) | exact absurd c_2 (by omega) | simp_all)
    · skip
      have c_2 : false = false := jb_0 c_2
      exact j_throw (E := "java/lang/IndexOutOfBoundsException") (ik := 105) (is := 205) (ic := 109) C hst9 hX hZ ht9 (by decide) (by decide) (by decide) (List.mem_of_getElem? (i := 1) rfl) (List.mem_of_getElem? (i := 2) rfl) (fun w h => List.mem_cons_of_mem _ (by exact List.mem_append_left _ (List.mem_append_right _ h))) jat_109 jot_109 dX4_refuseOtherChanges_32 dX4_refuseOtherChanges_35 dX4_refuseOtherChanges_36 dX4_refuseOtherChanges_38 dX4_refuseOtherChanges_41 (Nat.le_of_ble_eq_true rfl) (Nat.le_of_ble_eq_true rfl) (Nat.le_of_ble_eq_true rfl) (Nat.le_of_ble_eq_true rfl)
  · skip
    have c_1 : true = false := jb_0 c_1
    (first | exact absurd c_1 (by decide) | exact absurd c_1 (by omega) | simp_all)
set_option maxHeartbeats 4000000 in
set_option maxRecDepth 100000 in
theorem c_X4_refuseOtherChanges_w5 (l : Launch) (g : jG) (hst9 : l.stackTraces = false) (q ca n : Nat) (f : Nat → Int32) (w : Int32) (hw : ¬ w = 0) : jXt l yX4_refuseOtherChanges wsX4_refuseOtherChanges ({ frames := 8, cells := 1, slots := 6, locals := 200 }) g [.ref q, .int 5, .int 0, .int w] [(q, .inr (1, [.ref ca, .int (nI n)])), (ca, jaI g 224 f)] "java/lang/IllegalArgumentException" := by
  refine j_enterX (XC := fun sz_ => jXC g [(q, .inr (1, [.ref ca, .int (nI n)])), (ca, jaI g 224 f)] "java/lang/IllegalArgumentException" (va_A [(q, .inr (1, [.ref ca, .int (nI n)])), (ca, jaI g 224 f)] sz_)) (mc := 1) (ms := 6) (cc := cX4_refuseOtherChanges) (maxL := 4) (ret := none) (own := RX4) (L := [(0, .ref q), (1, .int 5), (2, .int 0), (3, .int w)]) (by decide) rfl rfl (Nat.le_of_ble_eq_true rfl) rfl (fun p e s m args below meth c C ht9 hX hZ => ?_)
  refine j_iload_n 1 C dX4_refuseOtherChanges_0 rfl rfl ?_
  refine j_iconst (v := 0) C dX4_refuseOtherChanges_1 rfl ?_
  refine j_iconst (v := 5) C dX4_refuseOtherChanges_2 rfl ?_
  refine j_callRi (v := jb (jBt 5 0 5)) (j_runS (As := [.int 5, .int 0, .int 5]) (rest := []) [] C (c_X4_isBetween l g 5 0 5) gX4_refuseOtherChanges_X4_isBetween rfl rfl rfl hd_X4_isBetween ⟨Nat.le_of_ble_eq_true rfl, Nat.le_of_ble_eq_true rfl⟩ rfl rfl dX4_refuseOtherChanges_3 rfl (Nat.le_of_ble_eq_true rfl) ⟨Nat.le_of_ble_eq_true rfl, Nat.le_of_ble_eq_true rfl⟩) ?_
  refine j_eq (pc' := 6) (L' := [(0, .ref q), (1, .int 5), (2, .int 0), (3, .int w)]) (st' := [.int (jb true)]) (ws' := [(q, .inr (1, [.ref ca, .int (nI n)])), (ca, jaI g 224 f)]) ?_ rfl rfl (by rw [(show jBt 5 0 5 = true by decide)]) rfl
  refine j_if_ne (tgt := 19) C dX4_refuseOtherChanges_6 (by decide) (fun c_1 => ?_) (fun c_1 => ?_)
  · skip
    have c_1 : true = true := jb_1 c_1
    refine j_iload_n 2 C dX4_refuseOtherChanges_19 rfl rfl ?_
    refine j_iconst (v := 0) C dX4_refuseOtherChanges_20 rfl ?_
    refine j_aload_n 0 C dX4_refuseOtherChanges_21 rfl rfl ?_
    refine j_iload_n 1 C dX4_refuseOtherChanges_22 rfl rfl ?_
    refine j_callRi (v := 0) (j_runS (As := [.ref q, .int 5]) (rest := [.int 0, .int 0]) [0, 1] C (c_X4_lastLoopFor_5 l g q ca n f) gX4_refuseOtherChanges_X4_lastLoopFor rfl rfl rfl hd_X4_lastLoopFor ⟨Nat.le_of_ble_eq_true rfl, Nat.le_of_ble_eq_true rfl⟩ rfl rfl dX4_refuseOtherChanges_23 rfl (Nat.le_of_ble_eq_true rfl) ⟨Nat.le_of_ble_eq_true rfl, Nat.le_of_ble_eq_true rfl⟩) ?_
    refine j_callRi (v := jb (jBt 0 0 0)) (j_runS (As := [.int 0, .int 0, .int 0]) (rest := []) [] C (c_X4_isBetween l g 0 0 0) gX4_refuseOtherChanges_X4_isBetween rfl rfl rfl hd_X4_isBetween ⟨Nat.le_of_ble_eq_true rfl, Nat.le_of_ble_eq_true rfl⟩ rfl rfl dX4_refuseOtherChanges_26 rfl (Nat.le_of_ble_eq_true rfl) ⟨Nat.le_of_ble_eq_true rfl, Nat.le_of_ble_eq_true rfl⟩) ?_
    refine j_eq (pc' := 29) (L' := [(0, .ref q), (1, .int 5), (2, .int 0), (3, .int w)]) (st' := [.int (jb true)]) (ws' := [(q, .inr (1, [.ref ca, .int (nI n)])), (ca, jaI g 224 f)]) ?_ rfl rfl (by rw [(show jBt 0 0 0 = true by decide)]) rfl
    refine j_if_ne (tgt := 42) C dX4_refuseOtherChanges_29 (by decide) (fun c_2 => ?_) (fun c_2 => ?_)
    · skip
      have c_2 : true = true := jb_1 c_2
      refine j_aload_n 0 C dX4_refuseOtherChanges_42 rfl rfl ?_
      refine j_iload_n 1 C dX4_refuseOtherChanges_43 rfl rfl ?_
      refine j_iload_n 2 C dX4_refuseOtherChanges_44 rfl rfl ?_
      refine j_iload_n 3 C dX4_refuseOtherChanges_45 rfl rfl ?_
      refine j_callRi (v := jb false) (j_runS (As := [.ref q, .int 5, .int 0, .int w]) (rest := []) [0, 1] C (c_X4_isWith_5 l g q ca n f 0 w (by omega)) gX4_refuseOtherChanges_X4_isWith rfl rfl rfl hd_X4_isWith ⟨Nat.le_of_ble_eq_true rfl, Nat.le_of_ble_eq_true rfl⟩ rfl rfl dX4_refuseOtherChanges_46 rfl (Nat.le_of_ble_eq_true rfl) ⟨Nat.le_of_ble_eq_true rfl, Nat.le_of_ble_eq_true rfl⟩) ?_
      refine j_if_ne (tgt := 62) C dX4_refuseOtherChanges_49 (by decide) (fun c_3 => ?_) (fun c_3 => ?_)
      · skip
        have c_3 : false = true := jb_1 c_3
        (first | exact absurd c_3 (by decide) | exact absurd c_3 (by omega) | simp_all)
      · skip
        have c_3 : false = false := jb_0 c_3
        exact j_throw (E := "java/lang/IllegalArgumentException") (ik := 62) (is := 211) (ic := 66) C hst9 hX hZ ht9 (by decide) (by decide) (by decide) (List.mem_of_getElem? (i := 3) rfl) (List.mem_of_getElem? (i := 4) rfl) (fun w h => List.mem_cons_of_mem _ (by exact List.mem_append_right _ h)) jat_66 jot_66 dX4_refuseOtherChanges_52 dX4_refuseOtherChanges_55 dX4_refuseOtherChanges_56 dX4_refuseOtherChanges_58 dX4_refuseOtherChanges_61 (Nat.le_of_ble_eq_true rfl) (Nat.le_of_ble_eq_true rfl) (Nat.le_of_ble_eq_true rfl) (Nat.le_of_ble_eq_true rfl)
    · skip
      have c_2 : true = false := jb_0 c_2
      (first | exact absurd c_2 (by decide) | exact absurd c_2 (by omega) | simp_all)
  · skip
    have c_1 : true = false := jb_0 c_1
    (first | exact absurd c_1 (by decide) | exact absurd c_1 (by omega) | simp_all)
set_option maxHeartbeats 4000000 in
set_option maxRecDepth 100000 in
theorem c_X4_refuseOtherChanges_5 (l : Launch) (g : jG) (q ca n : Nat) (f : Nat → Int32)  : jWv l yX4_refuseOtherChanges wsX4_refuseOtherChanges ({ frames := 8, cells := 0, slots := 0, locals := 200 }) g [.ref q, .int 5, .int 0, .int 0] [(q, .inr (1, [.ref ca, .int (nI n)])), (ca, jaI g 224 f)] [(q, .inr (1, [.ref ca, .int (nI n)])), (ca, jaI g 224 f)] := by
  refine j_enterW (Qc := fun sz_ => va_Qv (fun (_ : Unit) => True) (fun _ t => va_P g.1 vwCl [(q, .inr (1, [.ref ca, .int (nI n)])), (ca, jaI g 224 f)] t.heap) (va_A [(q, .inr (1, [.ref ca, .int (nI n)])), (ca, jaI g 224 f)] sz_)) (cc := cX4_refuseOtherChanges) (maxL := 4) (ret := none) (own := RX4) (L := [(0, .ref q), (1, .int 5), (2, .int 0), (3, .int 0)]) (by decide) rfl rfl (Nat.le_of_ble_eq_true rfl) rfl (fun p e s m args below meth c C hr => ?_)
  refine j_iload_n 1 C dX4_refuseOtherChanges_0 rfl rfl ?_
  refine j_iconst (v := 0) C dX4_refuseOtherChanges_1 rfl ?_
  refine j_iconst (v := 5) C dX4_refuseOtherChanges_2 rfl ?_
  refine j_callRi (v := jb (jBt 5 0 5)) (j_runS (As := [.int 5, .int 0, .int 5]) (rest := []) [] C (c_X4_isBetween l g 5 0 5) gX4_refuseOtherChanges_X4_isBetween rfl rfl rfl hd_X4_isBetween ⟨Nat.le_of_ble_eq_true rfl, Nat.le_of_ble_eq_true rfl⟩ rfl rfl dX4_refuseOtherChanges_3 rfl (Nat.le_of_ble_eq_true rfl) ⟨Nat.le_of_ble_eq_true rfl, Nat.le_of_ble_eq_true rfl⟩) ?_
  refine j_eq (pc' := 6) (L' := [(0, .ref q), (1, .int 5), (2, .int 0), (3, .int 0)]) (st' := [.int (jb true)]) (ws' := [(q, .inr (1, [.ref ca, .int (nI n)])), (ca, jaI g 224 f)]) ?_ rfl rfl (by rw [(show jBt 5 0 5 = true by decide)]) rfl
  refine j_if_ne (tgt := 19) C dX4_refuseOtherChanges_6 (by decide) (fun c_1 => ?_) (fun c_1 => ?_)
  · skip
    have c_1 : true = true := jb_1 c_1
    refine j_iload_n 2 C dX4_refuseOtherChanges_19 rfl rfl ?_
    refine j_iconst (v := 0) C dX4_refuseOtherChanges_20 rfl ?_
    refine j_aload_n 0 C dX4_refuseOtherChanges_21 rfl rfl ?_
    refine j_iload_n 1 C dX4_refuseOtherChanges_22 rfl rfl ?_
    refine j_callRi (v := 0) (j_runS (As := [.ref q, .int 5]) (rest := [.int 0, .int 0]) [0, 1] C (c_X4_lastLoopFor_5 l g q ca n f) gX4_refuseOtherChanges_X4_lastLoopFor rfl rfl rfl hd_X4_lastLoopFor ⟨Nat.le_of_ble_eq_true rfl, Nat.le_of_ble_eq_true rfl⟩ rfl rfl dX4_refuseOtherChanges_23 rfl (Nat.le_of_ble_eq_true rfl) ⟨Nat.le_of_ble_eq_true rfl, Nat.le_of_ble_eq_true rfl⟩) ?_
    refine j_callRi (v := jb (jBt 0 0 0)) (j_runS (As := [.int 0, .int 0, .int 0]) (rest := []) [] C (c_X4_isBetween l g 0 0 0) gX4_refuseOtherChanges_X4_isBetween rfl rfl rfl hd_X4_isBetween ⟨Nat.le_of_ble_eq_true rfl, Nat.le_of_ble_eq_true rfl⟩ rfl rfl dX4_refuseOtherChanges_26 rfl (Nat.le_of_ble_eq_true rfl) ⟨Nat.le_of_ble_eq_true rfl, Nat.le_of_ble_eq_true rfl⟩) ?_
    refine j_eq (pc' := 29) (L' := [(0, .ref q), (1, .int 5), (2, .int 0), (3, .int 0)]) (st' := [.int (jb true)]) (ws' := [(q, .inr (1, [.ref ca, .int (nI n)])), (ca, jaI g 224 f)]) ?_ rfl rfl (by rw [(show jBt 0 0 0 = true by decide)]) rfl
    refine j_if_ne (tgt := 42) C dX4_refuseOtherChanges_29 (by decide) (fun c_2 => ?_) (fun c_2 => ?_)
    · skip
      have c_2 : true = true := jb_1 c_2
      refine j_aload_n 0 C dX4_refuseOtherChanges_42 rfl rfl ?_
      refine j_iload_n 1 C dX4_refuseOtherChanges_43 rfl rfl ?_
      refine j_iload_n 2 C dX4_refuseOtherChanges_44 rfl rfl ?_
      refine j_iload_n 3 C dX4_refuseOtherChanges_45 rfl rfl ?_
      refine j_callRi (v := jb true) (j_runS (As := [.ref q, .int 5, .int 0, .int 0]) (rest := []) [0, 1] C (c_X4_isWith_5z l g q ca n f 0) gX4_refuseOtherChanges_X4_isWith rfl rfl rfl hd_X4_isWith ⟨Nat.le_of_ble_eq_true rfl, Nat.le_of_ble_eq_true rfl⟩ rfl rfl dX4_refuseOtherChanges_46 rfl (Nat.le_of_ble_eq_true rfl) ⟨Nat.le_of_ble_eq_true rfl, Nat.le_of_ble_eq_true rfl⟩) ?_
      refine j_if_ne (tgt := 62) C dX4_refuseOtherChanges_49 (by decide) (fun c_3 => ?_) (fun c_3 => ?_)
      · skip
        have c_3 : true = true := jb_1 c_3
        exact j_vretW C hr dX4_refuseOtherChanges_62 () trivial rfl
      · skip
        have c_3 : true = false := jb_0 c_3
        (first | exact absurd c_3 (by decide) | exact absurd c_3 (by omega) | simp_all)
    · skip
      have c_2 : true = false := jb_0 c_2
      (first | exact absurd c_2 (by decide) | exact absurd c_2 (by omega) | simp_all)
  · skip
    have c_1 : true = false := jb_0 c_1
    (first | exact absurd c_1 (by decide) | exact absurd c_1 (by omega) | simp_all)
