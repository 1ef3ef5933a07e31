set_option maxRecDepth 100000 in
theorem hin_X5_thrown_X5 : ∀ w ∈ u_ws RX5 TX5 11, w ∈ wsX5_thrown := fun w h => List.mem_cons_of_mem _ (by exact List.mem_append_right _ h)
theorem hd_X5_loopAt : yX5_loopAt.cls = RX5 ∧ yX5_loopAt.cls ≠ "java/lang/invoke/MethodHandle" ∧ yX5_loopAt.cls ≠ "java/lang/invoke/VarHandle" ∧ (parseMethodDescriptor yX5_loopAt.desc).map (fun d => d.parameters.length) = some 1 := by decide +kernel
theorem hd_X5_stepAt : yX5_stepAt.cls = RX5 ∧ yX5_stepAt.cls ≠ "java/lang/invoke/MethodHandle" ∧ yX5_stepAt.cls ≠ "java/lang/invoke/VarHandle" ∧ (parseMethodDescriptor yX5_stepAt.desc).map (fun d => d.parameters.length) = some 2 := by decide +kernel
theorem hd_X5_get : yX5_get.cls = RX5 ∧ yX5_get.cls ≠ "java/lang/invoke/MethodHandle" ∧ yX5_get.cls ≠ "java/lang/invoke/VarHandle" ∧ (parseMethodDescriptor yX5_get.desc).map (fun d => d.parameters.length) = some 4 := by decide +kernel
theorem hd_X5_steps : yX5_steps.cls = RX5 ∧ yX5_steps.cls ≠ "java/lang/invoke/MethodHandle" ∧ yX5_steps.cls ≠ "java/lang/invoke/VarHandle" ∧ (parseMethodDescriptor yX5_steps.desc).map (fun d => d.parameters.length) = some 2 := by decide +kernel
theorem hd_X5_has : yX5_has.cls = RX5 ∧ yX5_has.cls ≠ "java/lang/invoke/MethodHandle" ∧ yX5_has.cls ≠ "java/lang/invoke/VarHandle" ∧ (parseMethodDescriptor yX5_has.desc).map (fun d => d.parameters.length) = some 5 := by decide +kernel
theorem hd_X5_effects : yX5_effects.cls = RX5 ∧ yX5_effects.cls ≠ "java/lang/invoke/MethodHandle" ∧ yX5_effects.cls ≠ "java/lang/invoke/VarHandle" ∧ (parseMethodDescriptor yX5_effects.desc).map (fun d => d.parameters.length) = some 4 := by decide +kernel
theorem hd_X5_areApart : yX5_areApart.cls = RX5 ∧ yX5_areApart.cls ≠ "java/lang/invoke/MethodHandle" ∧ yX5_areApart.cls ≠ "java/lang/invoke/VarHandle" ∧ (parseMethodDescriptor yX5_areApart.desc).map (fun d => d.parameters.length) = some 2 := by decide +kernel
set_option maxHeartbeats 4000000 in
set_option maxRecDepth 100000 in
theorem c_X5_thrown (l : Launch) (g : jG) (m0 : Nat) (th np : Int32) (tb md rw0 : Nat) (sz : Int32) (cs va : Nat) (lk : Int32) (rn kp : Nat)  : jRi l yX5_thrown wsX5_thrown ({ frames := 0, cells := 0, slots := 0, locals := 0 }) g [.ref m0] [(m0, .inr (4, [.int th, .int np, .ref tb, .ref md, .ref rw0, .int sz, .ref cs, .ref va, .int lk, .ref rn, .ref kp]))] th := by
  refine j_enterR (cc := cX5_thrown) (maxL := 1) (ret := (some .int)) (own := RX5) (L := [(0, .ref m0)]) (by decide) rfl rfl (Nat.le_of_ble_eq_true rfl) rfl (fun p e s m args below meth c C hr => ?_)
  refine j_aload_n 0 C dX5_thrown_0 rfl rfl ?_
  refine j_get (Cn := RX5) (T := TX5) (N := 11) 0 0 C dX5_thrown_1 hin_X5_thrown_X5 rfl rfl (by decide) (List.mem_of_getElem? (i := 1) rfl) rfl ?_
  exact j_iretR (v := th) C hr dX5_thrown_4 rfl
set_option maxHeartbeats 4000000 in
set_option maxRecDepth 100000 in
theorem c_X5_loopAt (l : Launch) (g : jG) (k : Nat)  : jRi l yX5_loopAt wsX5_loopAt ({ frames := 0, cells := 0, slots := 0, locals := 0 }) g [.int (nI k)] [] (nI (1 + 28 * k)) := by
  refine j_enterR (cc := cX5_loopAt) (maxL := 1) (ret := (some .int)) (own := RX5) (L := [(0, .int (nI k))]) (by decide) rfl rfl (Nat.le_of_ble_eq_true rfl) rfl (fun p e s m args below meth c C hr => ?_)
  refine j_iconst (v := 1) C dX5_loopAt_0 rfl ?_
  refine j_bipush (v := 28) C dX5_loopAt_1 rfl ?_
  refine j_iload_n 0 C dX5_loopAt_3 rfl rfl ?_
  refine j_imul (x := 28) (y := nI k) (v := nI (28 * k)) C dX5_loopAt_4 (pk_mul 28 k) ?_
  refine j_iadd (x := 1) (y := nI (28 * k)) (v := nI (1 + 28 * k)) C dX5_loopAt_5 (nI_add 1 (28 * k)) ?_
  exact j_iretR (v := nI (1 + 28 * k)) C hr dX5_loopAt_6 rfl
set_option maxHeartbeats 4000000 in
set_option maxRecDepth 100000 in
theorem c_X5_stepAt (l : Launch) (g : jG) (k j : Nat)  : jRi l yX5_stepAt wsX5_stepAt ({ frames := 1, cells := 0, slots := 0, locals := 20 }) g [.int (nI k), .int (nI j)] [] (nI (1 + 28 * k + 4 + 4 * j)) := by
  refine j_enterR (cc := cX5_stepAt) (maxL := 2) (ret := (some .int)) (own := RX5) (L := [(0, .int (nI k)), (1, .int (nI j))]) (by decide) rfl rfl (Nat.le_of_ble_eq_true rfl) rfl (fun p e s m args below meth c C hr => ?_)
  refine j_iload_n 0 C dX5_stepAt_0 rfl rfl ?_
  refine j_callRi (v := nI (1 + 28 * k)) (j_runS (As := [.int (nI k)]) (rest := []) [] C (c_X5_loopAt l g k) gX5_stepAt_X5_loopAt rfl rfl rfl hd_X5_loopAt ⟨Nat.le_of_ble_eq_true rfl, Nat.le_of_ble_eq_true rfl⟩ rfl rfl dX5_stepAt_1 rfl (Nat.le_of_ble_eq_true rfl) ⟨Nat.le_of_ble_eq_true rfl, Nat.le_of_ble_eq_true rfl⟩) ?_
  refine j_iconst (v := 4) C dX5_stepAt_4 rfl ?_
  refine j_iadd (x := nI (1 + 28 * k)) (y := 4) (v := nI (1 + 28 * k + 4)) C dX5_stepAt_5 (nI_add (1 + 28 * k) 4) ?_
  refine j_iconst (v := 4) C dX5_stepAt_6 rfl ?_
  refine j_iload_n 1 C dX5_stepAt_7 rfl rfl ?_
  refine j_imul (x := 4) (y := nI j) (v := nI (4 * j)) C dX5_stepAt_8 (pk_mul 4 j) ?_
  refine j_iadd (x := nI (1 + 28 * k + 4)) (y := nI (4 * j)) (v := nI (1 + 28 * k + 4 + 4 * j)) C dX5_stepAt_9 (nI_add (1 + 28 * k + 4) (4 * j)) ?_
  exact j_iretR (v := nI (1 + 28 * k + 4 + 4 * j)) C hr dX5_stepAt_10 rfl
set_option maxHeartbeats 4000000 in
set_option maxRecDepth 100000 in
theorem c_X5_steps (l : Launch) (g : jG) (a0 n : Nat) (f : Nat → Int32) (k : Nat) (hk : k < 9) : jRi l yX5_steps wsX5_steps ({ frames := 1, cells := 0, slots := 0, locals := 20 }) g [.ref a0, .int (nI k)] [(a0, jaI g 253 (jrw n f))] (f (k * 28 + 3)) := by
  refine j_enterR (cc := cX5_steps) (maxL := 2) (ret := (some .int)) (own := RX5) (L := [(0, .ref a0), (1, .int (nI k))]) (by decide) rfl rfl (Nat.le_of_ble_eq_true rfl) rfl (fun p e s m args below meth c C hr => ?_)
  refine j_aload_n 0 C dX5_steps_0 rfl rfl ?_
  refine j_iload_n 1 C dX5_steps_1 rfl rfl ?_
  refine j_callRi (v := nI (1 + 28 * k)) (j_runS (As := [.int (nI k)]) (rest := [.ref a0]) [] C (c_X5_loopAt l g k) gX5_steps_X5_loopAt rfl rfl rfl hd_X5_loopAt ⟨Nat.le_of_ble_eq_true rfl, Nat.le_of_ble_eq_true rfl⟩ rfl rfl dX5_steps_2 rfl (Nat.le_of_ble_eq_true rfl) ⟨Nat.le_of_ble_eq_true rfl, Nat.le_of_ble_eq_true rfl⟩) ?_
  refine j_iconst (v := 3) C dX5_steps_5 rfl ?_
  refine j_iadd (x := nI (1 + 28 * k)) (y := 3) (v := nI (1 + 28 * k + 3)) C dX5_steps_6 (nI_add (1 + 28 * k) 3) ?_
  refine j_ialdR (x := 1 + 28 * k + 3) (y := k * 28 + 3) 0 C dX5_steps_7 rfl rfl (by omega) (by omega) ?_
  exact j_iretR (v := f (k * 28 + 3)) C hr dX5_steps_8 rfl
set_option maxHeartbeats 4000000 in
set_option maxRecDepth 100000 in
theorem c_X5_get (l : Launch) (g : jG) (a0 n : Nat) (f : Nat → Int32) (k j w : Nat) (hx : k * 28 + 4 + j * 4 + w < 252) : jRi l yX5_get wsX5_get ({ frames := 2, cells := 0, slots := 0, locals := 41 }) g [.ref a0, .int (nI k), .int (nI j), .int (nI w)] [(a0, jaI g 253 (jrw n f))] (f (k * 28 + 4 + j * 4 + w)) := by
  refine j_enterR (cc := cX5_get) (maxL := 4) (ret := (some .int)) (own := RX5) (L := [(0, .ref a0), (1, .int (nI k)), (2, .int (nI j)), (3, .int (nI w))]) (by decide) rfl rfl (Nat.le_of_ble_eq_true rfl) rfl (fun p e s m args below meth c C hr => ?_)
  refine j_aload_n 0 C dX5_get_0 rfl rfl ?_
  refine j_iload_n 1 C dX5_get_1 rfl rfl ?_
  refine j_iload_n 2 C dX5_get_2 rfl rfl ?_
  refine j_callRi (v := nI (1 + 28 * k + 4 + 4 * j)) (j_runS (As := [.int (nI k), .int (nI j)]) (rest := [.ref a0]) [] C (c_X5_stepAt l g k j) gX5_get_X5_stepAt rfl rfl rfl hd_X5_stepAt ⟨Nat.le_of_ble_eq_true rfl, Nat.le_of_ble_eq_true rfl⟩ rfl rfl dX5_get_3 rfl (Nat.le_of_ble_eq_true rfl) ⟨Nat.le_of_ble_eq_true rfl, Nat.le_of_ble_eq_true rfl⟩) ?_
  refine j_iload_n 3 C dX5_get_6 rfl rfl ?_
  refine j_iadd (x := nI (1 + 28 * k + 4 + 4 * j)) (y := nI w) (v := nI (1 + 28 * k + 4 + 4 * j + w)) C dX5_get_7 (nI_add (1 + 28 * k + 4 + 4 * j) w) ?_
  refine j_ialdR (x := 1 + 28 * k + 4 + 4 * j + w) (y := k * 28 + 4 + j * 4 + w) 0 C dX5_get_8 rfl rfl (by omega) (by omega) ?_
  exact j_iretR (v := f (k * 28 + 4 + j * 4 + w)) C hr dX5_get_9 rfl
set_option maxHeartbeats 4000000 in
set_option maxRecDepth 100000 in
theorem c_X5_isIn (l : Launch) (g : jG) (x lo hi : Int64)  : jRi l yX5_isIn wsX5_isIn ({ frames := 0, cells := 0, slots := 0, locals := 0 }) g [.long x, .long lo, .long hi] [] (jb (jIn x lo hi)) := by
  refine j_enterR (cc := cX5_isIn) (maxL := 6) (ret := (some .boolean)) (own := RX5) (L := [(0, .long x), (2, .long lo), (4, .long hi)]) (by decide) rfl rfl (Nat.le_of_ble_eq_true rfl) rfl (fun p e s m args below meth c C hr => ?_)
  refine j_lload_n 0 C dX5_isIn_0 rfl rfl ?_
  refine j_lload_n 1 C dX5_isIn_1 rfl rfl ?_
  refine j_lcmp_lt (tgt := 17) C dX5_isIn_2 dX5_isIn_3 (by decide) (fun c_1 => ?_) (fun c_1 => ?_)
  · skip
    refine j_iconst (v := 0) C dX5_isIn_17 rfl ?_
    exact j_zretR (v := 0) C hr dX5_isIn_18 rfl (by first | (rw [jIn, decide_eq_true (by assumption)]; rfl) | (rw [jIn, decide_eq_false (by assumption), decide_eq_true (by assumption)]; rfl) | (rw [jIn, decide_eq_false (by assumption), decide_eq_false (by assumption)]; rfl))
  · skip
    refine j_lload_n 0 C dX5_isIn_6 rfl rfl ?_
    refine j_lload 2 C dX5_isIn_7 rfl ?_
    refine j_lcmp_gt (tgt := 17) C dX5_isIn_9 dX5_isIn_10 (by decide) (fun c_2 => ?_) (fun c_2 => ?_)
    · skip
      refine j_iconst (v := 0) C dX5_isIn_17 rfl ?_
      exact j_zretR (v := 0) C hr dX5_isIn_18 rfl (by first | (rw [jIn, decide_eq_true (by assumption)]; rfl) | (rw [jIn, decide_eq_false (by assumption), decide_eq_true (by assumption)]; rfl) | (rw [jIn, decide_eq_false (by assumption), decide_eq_false (by assumption)]; rfl))
    · skip
      refine j_iconst (v := 1) C dX5_isIn_13 rfl ?_
      refine j_goto (tgt := 18) C dX5_isIn_14 (by decide) ?_
      exact j_zretR (v := 1) C hr dX5_isIn_18 rfl (by first | (rw [jIn, decide_eq_true (by assumption)]; rfl) | (rw [jIn, decide_eq_false (by assumption), decide_eq_true (by assumption)]; rfl) | (rw [jIn, decide_eq_false (by assumption), decide_eq_false (by assumption)]; rfl))
set_option maxHeartbeats 4000000 in
set_option maxRecDepth 100000 in
theorem c_X5_has (l : Launch) (g : jG) (a0 n : Nat) (f : Nat → Int32) (k i e0 : Nat) (d : Int32) (hk : k < 8) (he : e0 ≤ 6) (hi : i ≤ 6) : jRi l yX5_has wsX5_has ({ frames := 3, cells := 0, slots := 0, locals := 64 }) g [.ref a0, .int (nI k), .int (nI i), .int (nI e0), .int d] [(a0, jaI g 253 (jrw n f))] (jb (jHas f k d (e0 - i) i)) := by
  refine j_enterR (cc := cX5_has) (maxL := 7) (ret := (some .boolean)) (own := RX5) (L := [(0, .ref a0), (1, .int (nI k)), (2, .int (nI i)), (3, .int (nI e0)), (4, .int d)]) (by decide) rfl rfl (Nat.le_of_ble_eq_true rfl) rfl (fun p e s m args below meth c C hr => ?_)
  refine j_iconst (v := 0) C dX5_has_0 rfl ?_
  refine j_istore (L' := [(0, .ref a0), (1, .int (nI k)), (2, .int (nI i)), (3, .int (nI e0)), (4, .int d), (5, .int 0)]) C dX5_has_1 (Nat.le_of_ble_eq_true rfl) rfl rfl ?_
  refine j_iload_n 2 C dX5_has_3 rfl rfl ?_
  refine j_istore (L' := [(0, .ref a0), (1, .int (nI k)), (2, .int (nI i)), (3, .int (nI e0)), (4, .int d), (5, .int 0), (6, .int (nI i))]) C dX5_has_4 (Nat.le_of_ble_eq_true rfl) rfl rfl ?_
  refine j_loop (σ := Nat × Bool) (fun (x9_ : Nat × Bool) => match x9_ with | (j, b) => [(0, .ref a0), (1, .int (nI k)), (2, .int (nI i)), (3, .int (nI e0)), (4, .int d), (5, .int (jb b)), (6, .int (nI j))]) (fun (x9_ : Nat × Bool) => match x9_ with | (j, b) => [(a0, jaI g 253 (jrw n f))]) (fun (x9_ : Nat × Bool) => match x9_ with | (j, b) => (i ≤ j) ∧ (j ≤ i + e0) ∧ ((b || jHas f k d (e0 - j) j) = jHas f k d (e0 - i) i)) (fun (x9_ : Nat × Bool) => match x9_ with | (j, b) => e0 - j) (fun x_ hi_2 ih_1 => ?_) (i, false) ⟨(by omega), (by omega), rfl⟩ rfl rfl
  obtain ⟨j, b⟩ := x_
  obtain ⟨hI0, hI1, hI2⟩ := (show (i ≤ j) ∧ (j ≤ i + e0) ∧ ((b || jHas f k d (e0 - j) j) = jHas f k d (e0 - i) i) from hi_2)
  refine j_eq (pc' := 6) (L' := [(0, .ref a0), (1, .int (nI k)), (2, .int (nI i)), (3, .int (nI e0)), (4, .int d), (5, .int (jb b)), (6, .int (nI j))]) (st' := []) (ws' := [(a0, jaI g 253 (jrw n f))]) ?_ rfl rfl rfl rfl
  refine j_iload 6 C dX5_has_6 rfl ?_
  refine j_iload_n 3 C dX5_has_8 rfl rfl ?_
  refine j_icmp_ge (tgt := 43) C dX5_has_9 (by decide) (fun c_3 => ?_) (fun c_3 => ?_)
  · skip
    have c_3 : e0 ≤ j := (nI_leI (a := e0) (b := j) (by omega) (by omega)).mp c_3
    refine j_iload 5 C dX5_has_43 rfl ?_
    exact j_zretR (v := jb b) C hr dX5_has_45 (jb_n b) (by rw [← hI2, show e0 - j = 0 by omega]; cases b <;> rfl)
  · skip
    have c_3 : ¬ e0 ≤ j := fun z => c_3 ((nI_leI (a := e0) (b := j) (by omega) (by omega)).mpr z)
    refine j_iload 5 C dX5_has_12 rfl ?_
    refine j_if_ne (tgt := 30) C dX5_has_14 (by decide) (fun c_4 => ?_) (fun c_4 => ?_)
    · skip
      have c_4 : b = true := jb_1 c_4
      refine j_iconst (v := 1) C dX5_has_30 rfl ?_
      refine j_goto (tgt := 35) C dX5_has_31 (by decide) ?_
      refine j_istore (L' := [(0, .ref a0), (1, .int (nI k)), (2, .int (nI i)), (3, .int (nI e0)), (4, .int d), (5, .int 1), (6, .int (nI j))]) C dX5_has_35 (Nat.le_of_ble_eq_true rfl) rfl rfl ?_
      refine j_iinc (v := nI (j + 1)) (L' := [(0, .ref a0), (1, .int (nI k)), (2, .int (nI i)), (3, .int (nI e0)), (4, .int d), (5, .int 1), (6, .int (nI (j + 1)))]) 6 C dX5_has_37 rfl (nI_add j 1) (Nat.le_of_ble_eq_true rfl) rfl rfl ?_
      refine j_goto (tgt := 6) C dX5_has_40 (by decide) ?_
      exact ih_1 (j + 1, true) ⟨(by omega), (by omega), (by rw [← hI2, show e0 - j = (e0 - (j + 1)) + 1 by omega, jHas_s]; simp_all)⟩ (show e0 - (j + 1) < e0 - j from by omega)
    · skip
      have c_4 : b = false := jb_0 c_4
      refine j_aload_n 0 C dX5_has_17 rfl rfl ?_
      refine j_iload_n 1 C dX5_has_18 rfl rfl ?_
      refine j_iload 6 C dX5_has_19 rfl ?_
      refine j_iconst (v := 2) C dX5_has_21 rfl ?_
      refine j_callRi (v := f (k * 28 + 4 + j * 4 + 2)) (j_runS (As := [.ref a0, .int (nI k), .int (nI j), .int 2]) (rest := []) [0] C (c_X5_get l g a0 n f k j 2 (by omega)) gX5_has_X5_get rfl rfl rfl hd_X5_get ⟨Nat.le_of_ble_eq_true rfl, Nat.le_of_ble_eq_true rfl⟩ rfl rfl dX5_has_22 rfl (Nat.le_of_ble_eq_true rfl) ⟨Nat.le_of_ble_eq_true rfl, Nat.le_of_ble_eq_true rfl⟩) ?_
      refine j_iload 4 C dX5_has_25 rfl ?_
      refine j_icmp_ne (tgt := 34) C dX5_has_27 (by decide) (fun c_5 => ?_) (fun c_5 => ?_)
      · skip
        refine j_iconst (v := 0) C dX5_has_34 rfl ?_
        refine j_istore (L' := [(0, .ref a0), (1, .int (nI k)), (2, .int (nI i)), (3, .int (nI e0)), (4, .int d), (5, .int 0), (6, .int (nI j))]) C dX5_has_35 (Nat.le_of_ble_eq_true rfl) rfl rfl ?_
        refine j_iinc (v := nI (j + 1)) (L' := [(0, .ref a0), (1, .int (nI k)), (2, .int (nI i)), (3, .int (nI e0)), (4, .int d), (5, .int 0), (6, .int (nI (j + 1)))]) 6 C dX5_has_37 rfl (nI_add j 1) (Nat.le_of_ble_eq_true rfl) rfl rfl ?_
        refine j_goto (tgt := 6) C dX5_has_40 (by decide) ?_
        exact ih_1 (j + 1, false) ⟨(by omega), (by omega), (by rw [← hI2, show e0 - j = (e0 - (j + 1)) + 1 by omega, jHas_s]; simp_all)⟩ (show e0 - (j + 1) < e0 - j from by omega)
      · skip
        refine j_iconst (v := 1) C dX5_has_30 rfl ?_
        refine j_goto (tgt := 35) C dX5_has_31 (by decide) ?_
        refine j_istore (L' := [(0, .ref a0), (1, .int (nI k)), (2, .int (nI i)), (3, .int (nI e0)), (4, .int d), (5, .int 1), (6, .int (nI j))]) C dX5_has_35 (Nat.le_of_ble_eq_true rfl) rfl rfl ?_
        refine j_iinc (v := nI (j + 1)) (L' := [(0, .ref a0), (1, .int (nI k)), (2, .int (nI i)), (3, .int (nI e0)), (4, .int d), (5, .int 1), (6, .int (nI (j + 1)))]) 6 C dX5_has_37 rfl (nI_add j 1) (Nat.le_of_ble_eq_true rfl) rfl rfl ?_
        refine j_goto (tgt := 6) C dX5_has_40 (by decide) ?_
        exact ih_1 (j + 1, true) ⟨(by omega), (by omega), (by rw [← hI2, show e0 - j = (e0 - (j + 1)) + 1 by omega, jHas_s]; simp_all)⟩ (show e0 - (j + 1) < e0 - j from by omega)
set_option maxHeartbeats 4000000 in
set_option maxRecDepth 100000 in
theorem c_X5_has_ (l : Launch) (g : jG) (a0 n : Nat) (f : Nat → Int32) (k a : Nat) (d : Int32) (hk : k < 8) (ha : f (k * 28 + 3) = nI a) (ha6 : a ≤ 6) : jRi l yX5_has_ wsX5_has_ ({ frames := 4, cells := 0, slots := 0, locals := 90 }) g [.ref a0, .int (nI k), .int d] [(a0, jaI g 253 (jrw n f))] (jb (jHas f k d a 0)) := by
  refine j_enterR (cc := cX5_has_) (maxL := 3) (ret := (some .boolean)) (own := RX5) (L := [(0, .ref a0), (1, .int (nI k)), (2, .int d)]) (by decide) rfl rfl (Nat.le_of_ble_eq_true rfl) rfl (fun p e s m args below meth c C hr => ?_)
  refine j_aload_n 0 C dX5_has__0 rfl rfl ?_
  refine j_iload_n 1 C dX5_has__1 rfl rfl ?_
  refine j_iconst (v := 0) C dX5_has__2 rfl ?_
  refine j_aload_n 0 C dX5_has__3 rfl rfl ?_
  refine j_iload_n 1 C dX5_has__4 rfl rfl ?_
  refine j_callRi (v := f (k * 28 + 3)) (j_runS (As := [.ref a0, .int (nI k)]) (rest := [.int 0, .int (nI k), .ref a0]) [0] C (c_X5_steps l g a0 n f k (by omega)) gX5_has__X5_steps rfl rfl rfl hd_X5_steps ⟨Nat.le_of_ble_eq_true rfl, Nat.le_of_ble_eq_true rfl⟩ rfl rfl dX5_has__5 rfl (Nat.le_of_ble_eq_true rfl) ⟨Nat.le_of_ble_eq_true rfl, Nat.le_of_ble_eq_true rfl⟩) ?_
  refine j_eq (pc' := 8) (L' := [(0, .ref a0), (1, .int (nI k)), (2, .int d)]) (st' := [.int (nI a), .int 0, .int (nI k), .ref a0]) (ws' := [(a0, jaI g 253 (jrw n f))]) ?_ rfl rfl (by rw [ha]) rfl
  refine j_iload_n 2 C dX5_has__8 rfl rfl ?_
  refine j_callRi (v := jb (jHas f k d (a - 0) 0)) (j_runS (As := [.ref a0, .int (nI k), .int 0, .int (nI a), .int d]) (rest := []) [0] C (c_X5_has l g a0 n f k 0 a d (by omega) (by omega) (by omega)) gX5_has__X5_has rfl rfl rfl hd_X5_has ⟨Nat.le_of_ble_eq_true rfl, Nat.le_of_ble_eq_true rfl⟩ rfl rfl dX5_has__9 rfl (Nat.le_of_ble_eq_true rfl) ⟨Nat.le_of_ble_eq_true rfl, Nat.le_of_ble_eq_true rfl⟩) ?_
  exact j_zretR (v := jb (jHas f k d (a - 0) 0)) C hr dX5_has__12 (jb_n (jHas f k d (a - 0) 0)) (by rfl)
set_option maxHeartbeats 4000000 in
set_option maxRecDepth 100000 in
theorem c_X5_effects (l : Launch) (g : jG) (a0 n : Nat) (f : Nat → Int32) (k i e0 : Nat) (hk : k < 8) (he : e0 ≤ 6) (hi : i ≤ 6) : jRi l yX5_effects wsX5_effects ({ frames := 3, cells := 0, slots := 0, locals := 64 }) g [.ref a0, .int (nI k), .int (nI i), .int (nI e0)] [(a0, jaI g 253 (jrw n f))] (jEf f k (e0 - i) i 0) := by
  refine j_enterR (cc := cX5_effects) (maxL := 8) (ret := (some .int)) (own := RX5) (L := [(0, .ref a0), (1, .int (nI k)), (2, .int (nI i)), (3, .int (nI e0))]) (by decide) rfl rfl (Nat.le_of_ble_eq_true rfl) rfl (fun p e s m args below meth c C hr => ?_)
  refine j_iconst (v := 0) C dX5_effects_0 rfl ?_
  refine j_istore (L' := [(0, .ref a0), (1, .int (nI k)), (2, .int (nI i)), (3, .int (nI e0)), (4, .int 0)]) C dX5_effects_1 (Nat.le_of_ble_eq_true rfl) rfl rfl ?_
  refine j_iload_n 2 C dX5_effects_3 rfl rfl ?_
  refine j_istore (L' := [(0, .ref a0), (1, .int (nI k)), (2, .int (nI i)), (3, .int (nI e0)), (4, .int 0), (5, .int (nI i))]) C dX5_effects_4 (Nat.le_of_ble_eq_true rfl) rfl rfl ?_
  refine j_loop (σ := Nat × Int32) (fun (x9_ : Nat × Int32) => match x9_ with | (j, acc) => [(0, .ref a0), (1, .int (nI k)), (2, .int (nI i)), (3, .int (nI e0)), (4, .int acc), (5, .int (nI j))]) (fun (x9_ : Nat × Int32) => match x9_ with | (j, acc) => [(a0, jaI g 253 (jrw n f))]) (fun (x9_ : Nat × Int32) => match x9_ with | (j, acc) => (i ≤ j) ∧ (j ≤ i + e0) ∧ (jEf f k (e0 - j) j acc = jEf f k (e0 - i) i 0)) (fun (x9_ : Nat × Int32) => match x9_ with | (j, acc) => e0 - j) (fun x_ hi_2 ih_1 => ?_) (i, 0) ⟨(by omega), (by omega), rfl⟩ rfl rfl
  obtain ⟨j, acc⟩ := x_
  obtain ⟨hI0, hI1, hI2⟩ := (show (i ≤ j) ∧ (j ≤ i + e0) ∧ (jEf f k (e0 - j) j acc = jEf f k (e0 - i) i 0) from hi_2)
  refine j_eq (pc' := 6) (L' := [(0, .ref a0), (1, .int (nI k)), (2, .int (nI i)), (3, .int (nI e0)), (4, .int acc), (5, .int (nI j))]) (st' := []) (ws' := [(a0, jaI g 253 (jrw n f))]) ?_ rfl rfl rfl rfl
  refine j_iload 5 C dX5_effects_6 rfl ?_
  refine j_iload_n 3 C dX5_effects_8 rfl rfl ?_
  refine j_icmp_ge (tgt := 122) C dX5_effects_9 (by decide) (fun c_3 => ?_) (fun c_3 => ?_)
  · skip
    have c_3 : e0 ≤ j := (nI_leI (a := e0) (b := j) (by omega) (by omega)).mp c_3
    refine j_iload 4 C dX5_effects_122 rfl ?_
    exact j_iretR (v := acc) C hr dX5_effects_124 (by rw [← hI2, show e0 - j = 0 by omega]; rfl)
  · skip
    have c_3 : ¬ e0 ≤ j := fun z => c_3 ((nI_leI (a := e0) (b := j) (by omega) (by omega)).mpr z)
    refine j_aload_n 0 C dX5_effects_12 rfl rfl ?_
    refine j_iload_n 1 C dX5_effects_13 rfl rfl ?_
    refine j_iload 5 C dX5_effects_14 rfl ?_
    refine j_iconst (v := 2) C dX5_effects_16 rfl ?_
    refine j_callRi (v := f (k * 28 + 4 + j * 4 + 2)) (j_runS (As := [.ref a0, .int (nI k), .int (nI j), .int 2]) (rest := []) [0] C (c_X5_get l g a0 n f k j 2 (by omega)) gX5_effects_X5_get rfl rfl rfl hd_X5_get ⟨Nat.le_of_ble_eq_true rfl, Nat.le_of_ble_eq_true rfl⟩ rfl rfl dX5_effects_17 rfl (Nat.le_of_ble_eq_true rfl) ⟨Nat.le_of_ble_eq_true rfl, Nat.le_of_ble_eq_true rfl⟩) ?_
    refine j_istore (L' := [(0, .ref a0), (1, .int (nI k)), (2, .int (nI i)), (3, .int (nI e0)), (4, .int acc), (5, .int (nI j)), (6, .int (f (k * 28 + 4 + j * 4 + 2)))]) C dX5_effects_20 (Nat.le_of_ble_eq_true rfl) rfl rfl ?_
    refine j_iconst (v := 1) C dX5_effects_22 rfl ?_
    refine j_aload_n 0 C dX5_effects_23 rfl rfl ?_
    refine j_iload_n 1 C dX5_effects_24 rfl rfl ?_
    refine j_iload 5 C dX5_effects_25 rfl ?_
    refine j_iconst (v := 3) C dX5_effects_27 rfl ?_
    refine j_callRi (v := f (k * 28 + 4 + j * 4 + 3)) (j_runS (As := [.ref a0, .int (nI k), .int (nI j), .int 3]) (rest := [.int 1]) [0] C (c_X5_get l g a0 n f k j 3 (by omega)) gX5_effects_X5_get rfl rfl rfl hd_X5_get ⟨Nat.le_of_ble_eq_true rfl, Nat.le_of_ble_eq_true rfl⟩ rfl rfl dX5_effects_28 rfl (Nat.le_of_ble_eq_true rfl) ⟨Nat.le_of_ble_eq_true rfl, Nat.le_of_ble_eq_true rfl⟩) ?_
    refine j_iconst (v := 4) C dX5_effects_31 rfl ?_
    refine j_irem (x := f (k * 28 + 4 + j * 4 + 3)) (y := 4) (v := (f (k * 28 + 4 + j * 4 + 3)) - (f (k * 28 + 4 + j * 4 + 3)) / 4 * 4) C dX5_effects_32 (by decide) rfl ?_
    refine j_ishl (x := 1) (y := (f (k * 28 + 4 + j * 4 + 3)) - (f (k * 28 + 4 + j * 4 + 3)) / 4 * 4) (v := (1 : Int32) <<< (((f (k * 28 + 4 + j * 4 + 3)) - (f (k * 28 + 4 + j * 4 + 3)) / 4 * 4) &&& 31)) C dX5_effects_33 rfl ?_
    refine j_istore (L' := [(0, .ref a0), (1, .int (nI k)), (2, .int (nI i)), (3, .int (nI e0)), (4, .int acc), (5, .int (nI j)), (6, .int (f (k * 28 + 4 + j * 4 + 2))), (7, .int ((1 : Int32) <<< (((f (k * 28 + 4 + j * 4 + 3)) - (f (k * 28 + 4 + j * 4 + 3)) / 4 * 4) &&& 31)))]) C dX5_effects_34 (Nat.le_of_ble_eq_true rfl) rfl rfl ?_
    refine j_iload 6 C dX5_effects_36 rfl ?_
    refine j_iconst (v := 4) C dX5_effects_38 rfl ?_
    refine j_icmp_ge (tgt := 49) C dX5_effects_39 (by decide) (fun c_4 => ?_) (fun c_4 => ?_)
    · skip
      refine j_iload 6 C dX5_effects_49 rfl ?_
      refine j_iconst (v := 2) C dX5_effects_51 rfl ?_
      refine j_icmp_lt (tgt := 71) C dX5_effects_52 (by decide) (fun c_5 => ?_) (fun c_5 => ?_)
      · skip
        refine j_aload_n 0 C dX5_effects_71 rfl rfl ?_
        refine j_iload_n 1 C dX5_effects_72 rfl rfl ?_
        refine j_iload 5 C dX5_effects_73 rfl ?_
        refine j_iconst (v := 0) C dX5_effects_75 rfl ?_
        refine j_callRi (v := f (k * 28 + 4 + j * 4 + 0)) (j_runS (As := [.ref a0, .int (nI k), .int (nI j), .int 0]) (rest := []) [0] C (c_X5_get l g a0 n f k j 0 (by omega)) gX5_effects_X5_get rfl rfl rfl hd_X5_get ⟨Nat.le_of_ble_eq_true rfl, Nat.le_of_ble_eq_true rfl⟩ rfl rfl dX5_effects_76 rfl (Nat.le_of_ble_eq_true rfl) ⟨Nat.le_of_ble_eq_true rfl, Nat.le_of_ble_eq_true rfl⟩) ?_
        refine j_if_eq (tgt := 116) C dX5_effects_79 (by decide) (fun c_6 => ?_) (fun c_6 => ?_)
        · skip
          refine j_iinc (v := nI (j + 1)) (L' := [(0, .ref a0), (1, .int (nI k)), (2, .int (nI i)), (3, .int (nI e0)), (4, .int acc), (5, .int (nI (j + 1))), (6, .int (f (k * 28 + 4 + j * 4 + 2))), (7, .int ((1 : Int32) <<< (((f (k * 28 + 4 + j * 4 + 3)) - (f (k * 28 + 4 + j * 4 + 3)) / 4 * 4) &&& 31)))]) 5 C dX5_effects_116 rfl (nI_add j 1) (Nat.le_of_ble_eq_true rfl) rfl rfl ?_
          refine j_goto (tgt := 6) C dX5_effects_119 (by decide) ?_
          refine j_pick (L' := [(0, .ref a0), (1, .int (nI k)), (2, .int (nI i)), (3, .int (nI e0)), (4, .int acc), (5, .int (nI (j + 1)))]) [0, 1, 2, 3, 4, 5] rfl ?_
          exact ih_1 (j + 1, acc) ⟨(by omega), (by omega), (by first | contradiction | (rw [← hI2, show e0 - j = (e0 - (j + 1)) + 1 by omega, jEf_s]; simp only [jE1, jE2, jE3, jBit]; repeat (first | rw [if_pos (by assumption)] | rw [if_neg (by assumption)])))⟩ (show e0 - (j + 1) < e0 - j from by omega)
        · skip
          refine j_aload_n 0 C dX5_effects_82 rfl rfl ?_
          refine j_iload_n 1 C dX5_effects_83 rfl rfl ?_
          refine j_iload 5 C dX5_effects_84 rfl ?_
          refine j_iconst (v := 1) C dX5_effects_86 rfl ?_
          refine j_callRi (v := f (k * 28 + 4 + j * 4 + 1)) (j_runS (As := [.ref a0, .int (nI k), .int (nI j), .int 1]) (rest := []) [0] C (c_X5_get l g a0 n f k j 1 (by omega)) gX5_effects_X5_get rfl rfl rfl hd_X5_get ⟨Nat.le_of_ble_eq_true rfl, Nat.le_of_ble_eq_true rfl⟩ rfl rfl dX5_effects_87 rfl (Nat.le_of_ble_eq_true rfl) ⟨Nat.le_of_ble_eq_true rfl, Nat.le_of_ble_eq_true rfl⟩) ?_
          refine j_sipush (v := 1000) C dX5_effects_90 rfl ?_
          refine j_icmp_lt (tgt := 116) C dX5_effects_93 (by decide) (fun c_7 => ?_) (fun c_7 => ?_)
          · skip
            refine j_iinc (v := nI (j + 1)) (L' := [(0, .ref a0), (1, .int (nI k)), (2, .int (nI i)), (3, .int (nI e0)), (4, .int acc), (5, .int (nI (j + 1))), (6, .int (f (k * 28 + 4 + j * 4 + 2))), (7, .int ((1 : Int32) <<< (((f (k * 28 + 4 + j * 4 + 3)) - (f (k * 28 + 4 + j * 4 + 3)) / 4 * 4) &&& 31)))]) 5 C dX5_effects_116 rfl (nI_add j 1) (Nat.le_of_ble_eq_true rfl) rfl rfl ?_
            refine j_goto (tgt := 6) C dX5_effects_119 (by decide) ?_
            refine j_pick (L' := [(0, .ref a0), (1, .int (nI k)), (2, .int (nI i)), (3, .int (nI e0)), (4, .int acc), (5, .int (nI (j + 1)))]) [0, 1, 2, 3, 4, 5] rfl ?_
            exact ih_1 (j + 1, acc) ⟨(by omega), (by omega), (by first | contradiction | (rw [← hI2, show e0 - j = (e0 - (j + 1)) + 1 by omega, jEf_s]; simp only [jE1, jE2, jE3, jBit]; repeat (first | rw [if_pos (by assumption)] | rw [if_neg (by assumption)])))⟩ (show e0 - (j + 1) < e0 - j from by omega)
          · skip
            refine j_iload 4 C dX5_effects_96 rfl ?_
            refine j_bipush (v := 16) C dX5_effects_98 rfl ?_
            refine j_aload_n 0 C dX5_effects_100 rfl rfl ?_
            refine j_iload_n 1 C dX5_effects_101 rfl rfl ?_
            refine j_iload 5 C dX5_effects_102 rfl ?_
            refine j_iconst (v := 1) C dX5_effects_104 rfl ?_
            refine j_callRi (v := f (k * 28 + 4 + j * 4 + 1)) (j_runS (As := [.ref a0, .int (nI k), .int (nI j), .int 1]) (rest := [.int 16, .int acc]) [0] C (c_X5_get l g a0 n f k j 1 (by omega)) gX5_effects_X5_get rfl rfl rfl hd_X5_get ⟨Nat.le_of_ble_eq_true rfl, Nat.le_of_ble_eq_true rfl⟩ rfl rfl dX5_effects_105 rfl (Nat.le_of_ble_eq_true rfl) ⟨Nat.le_of_ble_eq_true rfl, Nat.le_of_ble_eq_true rfl⟩) ?_
            refine j_sipush (v := 1000) C dX5_effects_108 rfl ?_
            refine j_isub (x := f (k * 28 + 4 + j * 4 + 1)) (y := 1000) (v := (f (k * 28 + 4 + j * 4 + 1)) - 1000) C dX5_effects_111 rfl ?_
            refine j_ishl (x := 16) (y := (f (k * 28 + 4 + j * 4 + 1)) - 1000) (v := (16 : Int32) <<< (((f (k * 28 + 4 + j * 4 + 1)) - 1000) &&& 31)) C dX5_effects_112 rfl ?_
            refine j_ior (x := acc) (y := (16 : Int32) <<< (((f (k * 28 + 4 + j * 4 + 1)) - 1000) &&& 31)) (v := acc ||| ((16 : Int32) <<< (((f (k * 28 + 4 + j * 4 + 1)) - 1000) &&& 31))) C dX5_effects_113 rfl ?_
            refine j_istore (L' := [(0, .ref a0), (1, .int (nI k)), (2, .int (nI i)), (3, .int (nI e0)), (4, .int (acc ||| ((16 : Int32) <<< (((f (k * 28 + 4 + j * 4 + 1)) - 1000) &&& 31)))), (5, .int (nI j)), (6, .int (f (k * 28 + 4 + j * 4 + 2))), (7, .int ((1 : Int32) <<< (((f (k * 28 + 4 + j * 4 + 3)) - (f (k * 28 + 4 + j * 4 + 3)) / 4 * 4) &&& 31)))]) C dX5_effects_114 (Nat.le_of_ble_eq_true rfl) rfl rfl ?_
            refine j_iinc (v := nI (j + 1)) (L' := [(0, .ref a0), (1, .int (nI k)), (2, .int (nI i)), (3, .int (nI e0)), (4, .int (acc ||| ((16 : Int32) <<< (((f (k * 28 + 4 + j * 4 + 1)) - 1000) &&& 31)))), (5, .int (nI (j + 1))), (6, .int (f (k * 28 + 4 + j * 4 + 2))), (7, .int ((1 : Int32) <<< (((f (k * 28 + 4 + j * 4 + 3)) - (f (k * 28 + 4 + j * 4 + 3)) / 4 * 4) &&& 31)))]) 5 C dX5_effects_116 rfl (nI_add j 1) (Nat.le_of_ble_eq_true rfl) rfl rfl ?_
            refine j_goto (tgt := 6) C dX5_effects_119 (by decide) ?_
            refine j_pick (L' := [(0, .ref a0), (1, .int (nI k)), (2, .int (nI i)), (3, .int (nI e0)), (4, .int (acc ||| ((16 : Int32) <<< (((f (k * 28 + 4 + j * 4 + 1)) - 1000) &&& 31)))), (5, .int (nI (j + 1)))]) [0, 1, 2, 3, 4, 5] rfl ?_
            exact ih_1 (j + 1, acc ||| ((16 : Int32) <<< (((f (k * 28 + 4 + j * 4 + 1)) - 1000) &&& 31))) ⟨(by omega), (by omega), (by first | contradiction | (rw [← hI2, show e0 - j = (e0 - (j + 1)) + 1 by omega, jEf_s]; simp only [jE1, jE2, jE3, jBit]; repeat (first | rw [if_pos (by assumption)] | rw [if_neg (by assumption)])))⟩ (show e0 - (j + 1) < e0 - j from by omega)
      · skip
        refine j_iload 6 C dX5_effects_55 rfl ?_
        refine j_iconst (v := 4) C dX5_effects_57 rfl ?_
        refine j_icmp_ge (tgt := 71) C dX5_effects_58 (by decide) (fun c_8 => ?_) (fun c_8 => ?_)
        · skip
          refine j_aload_n 0 C dX5_effects_71 rfl rfl ?_
          refine j_iload_n 1 C dX5_effects_72 rfl rfl ?_
          refine j_iload 5 C dX5_effects_73 rfl ?_
          refine j_iconst (v := 0) C dX5_effects_75 rfl ?_
          refine j_callRi (v := f (k * 28 + 4 + j * 4 + 0)) (j_runS (As := [.ref a0, .int (nI k), .int (nI j), .int 0]) (rest := []) [0] C (c_X5_get l g a0 n f k j 0 (by omega)) gX5_effects_X5_get rfl rfl rfl hd_X5_get ⟨Nat.le_of_ble_eq_true rfl, Nat.le_of_ble_eq_true rfl⟩ rfl rfl dX5_effects_76 rfl (Nat.le_of_ble_eq_true rfl) ⟨Nat.le_of_ble_eq_true rfl, Nat.le_of_ble_eq_true rfl⟩) ?_
          refine j_if_eq (tgt := 116) C dX5_effects_79 (by decide) (fun c_9 => ?_) (fun c_9 => ?_)
          · skip
            refine j_iinc (v := nI (j + 1)) (L' := [(0, .ref a0), (1, .int (nI k)), (2, .int (nI i)), (3, .int (nI e0)), (4, .int acc), (5, .int (nI (j + 1))), (6, .int (f (k * 28 + 4 + j * 4 + 2))), (7, .int ((1 : Int32) <<< (((f (k * 28 + 4 + j * 4 + 3)) - (f (k * 28 + 4 + j * 4 + 3)) / 4 * 4) &&& 31)))]) 5 C dX5_effects_116 rfl (nI_add j 1) (Nat.le_of_ble_eq_true rfl) rfl rfl ?_
            refine j_goto (tgt := 6) C dX5_effects_119 (by decide) ?_
            refine j_pick (L' := [(0, .ref a0), (1, .int (nI k)), (2, .int (nI i)), (3, .int (nI e0)), (4, .int acc), (5, .int (nI (j + 1)))]) [0, 1, 2, 3, 4, 5] rfl ?_
            exact ih_1 (j + 1, acc) ⟨(by omega), (by omega), (by first | contradiction | (rw [← hI2, show e0 - j = (e0 - (j + 1)) + 1 by omega, jEf_s]; simp only [jE1, jE2, jE3, jBit]; repeat (first | rw [if_pos (by assumption)] | rw [if_neg (by assumption)])))⟩ (show e0 - (j + 1) < e0 - j from by omega)
          · skip
            refine j_aload_n 0 C dX5_effects_82 rfl rfl ?_
            refine j_iload_n 1 C dX5_effects_83 rfl rfl ?_
            refine j_iload 5 C dX5_effects_84 rfl ?_
            refine j_iconst (v := 1) C dX5_effects_86 rfl ?_
            refine j_callRi (v := f (k * 28 + 4 + j * 4 + 1)) (j_runS (As := [.ref a0, .int (nI k), .int (nI j), .int 1]) (rest := []) [0] C (c_X5_get l g a0 n f k j 1 (by omega)) gX5_effects_X5_get rfl rfl rfl hd_X5_get ⟨Nat.le_of_ble_eq_true rfl, Nat.le_of_ble_eq_true rfl⟩ rfl rfl dX5_effects_87 rfl (Nat.le_of_ble_eq_true rfl) ⟨Nat.le_of_ble_eq_true rfl, Nat.le_of_ble_eq_true rfl⟩) ?_
            refine j_sipush (v := 1000) C dX5_effects_90 rfl ?_
            refine j_icmp_lt (tgt := 116) C dX5_effects_93 (by decide) (fun c_10 => ?_) (fun c_10 => ?_)
            · skip
              refine j_iinc (v := nI (j + 1)) (L' := [(0, .ref a0), (1, .int (nI k)), (2, .int (nI i)), (3, .int (nI e0)), (4, .int acc), (5, .int (nI (j + 1))), (6, .int (f (k * 28 + 4 + j * 4 + 2))), (7, .int ((1 : Int32) <<< (((f (k * 28 + 4 + j * 4 + 3)) - (f (k * 28 + 4 + j * 4 + 3)) / 4 * 4) &&& 31)))]) 5 C dX5_effects_116 rfl (nI_add j 1) (Nat.le_of_ble_eq_true rfl) rfl rfl ?_
              refine j_goto (tgt := 6) C dX5_effects_119 (by decide) ?_
              refine j_pick (L' := [(0, .ref a0), (1, .int (nI k)), (2, .int (nI i)), (3, .int (nI e0)), (4, .int acc), (5, .int (nI (j + 1)))]) [0, 1, 2, 3, 4, 5] rfl ?_
              exact ih_1 (j + 1, acc) ⟨(by omega), (by omega), (by first | contradiction | (rw [← hI2, show e0 - j = (e0 - (j + 1)) + 1 by omega, jEf_s]; simp only [jE1, jE2, jE3, jBit]; repeat (first | rw [if_pos (by assumption)] | rw [if_neg (by assumption)])))⟩ (show e0 - (j + 1) < e0 - j from by omega)
            · skip
              refine j_iload 4 C dX5_effects_96 rfl ?_
              refine j_bipush (v := 16) C dX5_effects_98 rfl ?_
              refine j_aload_n 0 C dX5_effects_100 rfl rfl ?_
              refine j_iload_n 1 C dX5_effects_101 rfl rfl ?_
              refine j_iload 5 C dX5_effects_102 rfl ?_
              refine j_iconst (v := 1) C dX5_effects_104 rfl ?_
              refine j_callRi (v := f (k * 28 + 4 + j * 4 + 1)) (j_runS (As := [.ref a0, .int (nI k), .int (nI j), .int 1]) (rest := [.int 16, .int acc]) [0] C (c_X5_get l g a0 n f k j 1 (by omega)) gX5_effects_X5_get rfl rfl rfl hd_X5_get ⟨Nat.le_of_ble_eq_true rfl, Nat.le_of_ble_eq_true rfl⟩ rfl rfl dX5_effects_105 rfl (Nat.le_of_ble_eq_true rfl) ⟨Nat.le_of_ble_eq_true rfl, Nat.le_of_ble_eq_true rfl⟩) ?_
              refine j_sipush (v := 1000) C dX5_effects_108 rfl ?_
              refine j_isub (x := f (k * 28 + 4 + j * 4 + 1)) (y := 1000) (v := (f (k * 28 + 4 + j * 4 + 1)) - 1000) C dX5_effects_111 rfl ?_
              refine j_ishl (x := 16) (y := (f (k * 28 + 4 + j * 4 + 1)) - 1000) (v := (16 : Int32) <<< (((f (k * 28 + 4 + j * 4 + 1)) - 1000) &&& 31)) C dX5_effects_112 rfl ?_
              refine j_ior (x := acc) (y := (16 : Int32) <<< (((f (k * 28 + 4 + j * 4 + 1)) - 1000) &&& 31)) (v := acc ||| ((16 : Int32) <<< (((f (k * 28 + 4 + j * 4 + 1)) - 1000) &&& 31))) C dX5_effects_113 rfl ?_
              refine j_istore (L' := [(0, .ref a0), (1, .int (nI k)), (2, .int (nI i)), (3, .int (nI e0)), (4, .int (acc ||| ((16 : Int32) <<< (((f (k * 28 + 4 + j * 4 + 1)) - 1000) &&& 31)))), (5, .int (nI j)), (6, .int (f (k * 28 + 4 + j * 4 + 2))), (7, .int ((1 : Int32) <<< (((f (k * 28 + 4 + j * 4 + 3)) - (f (k * 28 + 4 + j * 4 + 3)) / 4 * 4) &&& 31)))]) C dX5_effects_114 (Nat.le_of_ble_eq_true rfl) rfl rfl ?_
              refine j_iinc (v := nI (j + 1)) (L' := [(0, .ref a0), (1, .int (nI k)), (2, .int (nI i)), (3, .int (nI e0)), (4, .int (acc ||| ((16 : Int32) <<< (((f (k * 28 + 4 + j * 4 + 1)) - 1000) &&& 31)))), (5, .int (nI (j + 1))), (6, .int (f (k * 28 + 4 + j * 4 + 2))), (7, .int ((1 : Int32) <<< (((f (k * 28 + 4 + j * 4 + 3)) - (f (k * 28 + 4 + j * 4 + 3)) / 4 * 4) &&& 31)))]) 5 C dX5_effects_116 rfl (nI_add j 1) (Nat.le_of_ble_eq_true rfl) rfl rfl ?_
              refine j_goto (tgt := 6) C dX5_effects_119 (by decide) ?_
              refine j_pick (L' := [(0, .ref a0), (1, .int (nI k)), (2, .int (nI i)), (3, .int (nI e0)), (4, .int (acc ||| ((16 : Int32) <<< (((f (k * 28 + 4 + j * 4 + 1)) - 1000) &&& 31)))), (5, .int (nI (j + 1)))]) [0, 1, 2, 3, 4, 5] rfl ?_
              exact ih_1 (j + 1, acc ||| ((16 : Int32) <<< (((f (k * 28 + 4 + j * 4 + 1)) - 1000) &&& 31))) ⟨(by omega), (by omega), (by first | contradiction | (rw [← hI2, show e0 - j = (e0 - (j + 1)) + 1 by omega, jEf_s]; simp only [jE1, jE2, jE3, jBit]; repeat (first | rw [if_pos (by assumption)] | rw [if_neg (by assumption)])))⟩ (show e0 - (j + 1) < e0 - j from by omega)
        · skip
          refine j_iload 4 C dX5_effects_61 rfl ?_
          refine j_bipush (v := 16) C dX5_effects_63 rfl ?_
          refine j_iload 7 C dX5_effects_65 rfl ?_
          refine j_imul (x := 16) (y := (1 : Int32) <<< (((f (k * 28 + 4 + j * 4 + 3)) - (f (k * 28 + 4 + j * 4 + 3)) / 4 * 4) &&& 31)) (v := (16 : Int32) * ((1 : Int32) <<< (((f (k * 28 + 4 + j * 4 + 3)) - (f (k * 28 + 4 + j * 4 + 3)) / 4 * 4) &&& 31))) C dX5_effects_67 rfl ?_
          refine j_ior (x := acc) (y := (16 : Int32) * ((1 : Int32) <<< (((f (k * 28 + 4 + j * 4 + 3)) - (f (k * 28 + 4 + j * 4 + 3)) / 4 * 4) &&& 31))) (v := acc ||| ((16 : Int32) * ((1 : Int32) <<< (((f (k * 28 + 4 + j * 4 + 3)) - (f (k * 28 + 4 + j * 4 + 3)) / 4 * 4) &&& 31)))) C dX5_effects_68 rfl ?_
          refine j_istore (L' := [(0, .ref a0), (1, .int (nI k)), (2, .int (nI i)), (3, .int (nI e0)), (4, .int (acc ||| ((16 : Int32) * ((1 : Int32) <<< (((f (k * 28 + 4 + j * 4 + 3)) - (f (k * 28 + 4 + j * 4 + 3)) / 4 * 4) &&& 31))))), (5, .int (nI j)), (6, .int (f (k * 28 + 4 + j * 4 + 2))), (7, .int ((1 : Int32) <<< (((f (k * 28 + 4 + j * 4 + 3)) - (f (k * 28 + 4 + j * 4 + 3)) / 4 * 4) &&& 31)))]) C dX5_effects_69 (Nat.le_of_ble_eq_true rfl) rfl rfl ?_
          refine j_aload_n 0 C dX5_effects_71 rfl rfl ?_
          refine j_iload_n 1 C dX5_effects_72 rfl rfl ?_
          refine j_iload 5 C dX5_effects_73 rfl ?_
          refine j_iconst (v := 0) C dX5_effects_75 rfl ?_
          refine j_callRi (v := f (k * 28 + 4 + j * 4 + 0)) (j_runS (As := [.ref a0, .int (nI k), .int (nI j), .int 0]) (rest := []) [0] C (c_X5_get l g a0 n f k j 0 (by omega)) gX5_effects_X5_get rfl rfl rfl hd_X5_get ⟨Nat.le_of_ble_eq_true rfl, Nat.le_of_ble_eq_true rfl⟩ rfl rfl dX5_effects_76 rfl (Nat.le_of_ble_eq_true rfl) ⟨Nat.le_of_ble_eq_true rfl, Nat.le_of_ble_eq_true rfl⟩) ?_
          refine j_if_eq (tgt := 116) C dX5_effects_79 (by decide) (fun c_11 => ?_) (fun c_11 => ?_)
          · skip
            refine j_iinc (v := nI (j + 1)) (L' := [(0, .ref a0), (1, .int (nI k)), (2, .int (nI i)), (3, .int (nI e0)), (4, .int (acc ||| ((16 : Int32) * ((1 : Int32) <<< (((f (k * 28 + 4 + j * 4 + 3)) - (f (k * 28 + 4 + j * 4 + 3)) / 4 * 4) &&& 31))))), (5, .int (nI (j + 1))), (6, .int (f (k * 28 + 4 + j * 4 + 2))), (7, .int ((1 : Int32) <<< (((f (k * 28 + 4 + j * 4 + 3)) - (f (k * 28 + 4 + j * 4 + 3)) / 4 * 4) &&& 31)))]) 5 C dX5_effects_116 rfl (nI_add j 1) (Nat.le_of_ble_eq_true rfl) rfl rfl ?_
            refine j_goto (tgt := 6) C dX5_effects_119 (by decide) ?_
            refine j_pick (L' := [(0, .ref a0), (1, .int (nI k)), (2, .int (nI i)), (3, .int (nI e0)), (4, .int (acc ||| ((16 : Int32) * ((1 : Int32) <<< (((f (k * 28 + 4 + j * 4 + 3)) - (f (k * 28 + 4 + j * 4 + 3)) / 4 * 4) &&& 31))))), (5, .int (nI (j + 1)))]) [0, 1, 2, 3, 4, 5] rfl ?_
            exact ih_1 (j + 1, acc ||| ((16 : Int32) * ((1 : Int32) <<< (((f (k * 28 + 4 + j * 4 + 3)) - (f (k * 28 + 4 + j * 4 + 3)) / 4 * 4) &&& 31)))) ⟨(by omega), (by omega), (by first | contradiction | (rw [← hI2, show e0 - j = (e0 - (j + 1)) + 1 by omega, jEf_s]; simp only [jE1, jE2, jE3, jBit]; repeat (first | rw [if_pos (by assumption)] | rw [if_neg (by assumption)])))⟩ (show e0 - (j + 1) < e0 - j from by omega)
          · skip
            refine j_aload_n 0 C dX5_effects_82 rfl rfl ?_
            refine j_iload_n 1 C dX5_effects_83 rfl rfl ?_
            refine j_iload 5 C dX5_effects_84 rfl ?_
            refine j_iconst (v := 1) C dX5_effects_86 rfl ?_
            refine j_callRi (v := f (k * 28 + 4 + j * 4 + 1)) (j_runS (As := [.ref a0, .int (nI k), .int (nI j), .int 1]) (rest := []) [0] C (c_X5_get l g a0 n f k j 1 (by omega)) gX5_effects_X5_get rfl rfl rfl hd_X5_get ⟨Nat.le_of_ble_eq_true rfl, Nat.le_of_ble_eq_true rfl⟩ rfl rfl dX5_effects_87 rfl (Nat.le_of_ble_eq_true rfl) ⟨Nat.le_of_ble_eq_true rfl, Nat.le_of_ble_eq_true rfl⟩) ?_
            refine j_sipush (v := 1000) C dX5_effects_90 rfl ?_
            refine j_icmp_lt (tgt := 116) C dX5_effects_93 (by decide) (fun c_12 => ?_) (fun c_12 => ?_)
            · skip
              refine j_iinc (v := nI (j + 1)) (L' := [(0, .ref a0), (1, .int (nI k)), (2, .int (nI i)), (3, .int (nI e0)), (4, .int (acc ||| ((16 : Int32) * ((1 : Int32) <<< (((f (k * 28 + 4 + j * 4 + 3)) - (f (k * 28 + 4 + j * 4 + 3)) / 4 * 4) &&& 31))))), (5, .int (nI (j + 1))), (6, .int (f (k * 28 + 4 + j * 4 + 2))), (7, .int ((1 : Int32) <<< (((f (k * 28 + 4 + j * 4 + 3)) - (f (k * 28 + 4 + j * 4 + 3)) / 4 * 4) &&& 31)))]) 5 C dX5_effects_116 rfl (nI_add j 1) (Nat.le_of_ble_eq_true rfl) rfl rfl ?_
              refine j_goto (tgt := 6) C dX5_effects_119 (by decide) ?_
              refine j_pick (L' := [(0, .ref a0), (1, .int (nI k)), (2, .int (nI i)), (3, .int (nI e0)), (4, .int (acc ||| ((16 : Int32) * ((1 : Int32) <<< (((f (k * 28 + 4 + j * 4 + 3)) - (f (k * 28 + 4 + j * 4 + 3)) / 4 * 4) &&& 31))))), (5, .int (nI (j + 1)))]) [0, 1, 2, 3, 4, 5] rfl ?_
              exact ih_1 (j + 1, acc ||| ((16 : Int32) * ((1 : Int32) <<< (((f (k * 28 + 4 + j * 4 + 3)) - (f (k * 28 + 4 + j * 4 + 3)) / 4 * 4) &&& 31)))) ⟨(by omega), (by omega), (by first | contradiction | (rw [← hI2, show e0 - j = (e0 - (j + 1)) + 1 by omega, jEf_s]; simp only [jE1, jE2, jE3, jBit]; repeat (first | rw [if_pos (by assumption)] | rw [if_neg (by assumption)])))⟩ (show e0 - (j + 1) < e0 - j from by omega)
            · skip
              refine j_iload 4 C dX5_effects_96 rfl ?_
              refine j_bipush (v := 16) C dX5_effects_98 rfl ?_
              refine j_aload_n 0 C dX5_effects_100 rfl rfl ?_
              refine j_iload_n 1 C dX5_effects_101 rfl rfl ?_
              refine j_iload 5 C dX5_effects_102 rfl ?_
              refine j_iconst (v := 1) C dX5_effects_104 rfl ?_
              refine j_callRi (v := f (k * 28 + 4 + j * 4 + 1)) (j_runS (As := [.ref a0, .int (nI k), .int (nI j), .int 1]) (rest := [.int 16, .int (acc ||| ((16 : Int32) * ((1 : Int32) <<< (((f (k * 28 + 4 + j * 4 + 3)) - (f (k * 28 + 4 + j * 4 + 3)) / 4 * 4) &&& 31))))]) [0] C (c_X5_get l g a0 n f k j 1 (by omega)) gX5_effects_X5_get rfl rfl rfl hd_X5_get ⟨Nat.le_of_ble_eq_true rfl, Nat.le_of_ble_eq_true rfl⟩ rfl rfl dX5_effects_105 rfl (Nat.le_of_ble_eq_true rfl) ⟨Nat.le_of_ble_eq_true rfl, Nat.le_of_ble_eq_true rfl⟩) ?_
              refine j_sipush (v := 1000) C dX5_effects_108 rfl ?_
              refine j_isub (x := f (k * 28 + 4 + j * 4 + 1)) (y := 1000) (v := (f (k * 28 + 4 + j * 4 + 1)) - 1000) C dX5_effects_111 rfl ?_
              refine j_ishl (x := 16) (y := (f (k * 28 + 4 + j * 4 + 1)) - 1000) (v := (16 : Int32) <<< (((f (k * 28 + 4 + j * 4 + 1)) - 1000) &&& 31)) C dX5_effects_112 rfl ?_
              refine j_ior (x := acc ||| ((16 : Int32) * ((1 : Int32) <<< (((f (k * 28 + 4 + j * 4 + 3)) - (f (k * 28 + 4 + j * 4 + 3)) / 4 * 4) &&& 31)))) (y := (16 : Int32) <<< (((f (k * 28 + 4 + j * 4 + 1)) - 1000) &&& 31)) (v := (acc ||| ((16 : Int32) * ((1 : Int32) <<< (((f (k * 28 + 4 + j * 4 + 3)) - (f (k * 28 + 4 + j * 4 + 3)) / 4 * 4) &&& 31)))) ||| ((16 : Int32) <<< (((f (k * 28 + 4 + j * 4 + 1)) - 1000) &&& 31))) C dX5_effects_113 rfl ?_
              refine j_istore (L' := [(0, .ref a0), (1, .int (nI k)), (2, .int (nI i)), (3, .int (nI e0)), (4, .int ((acc ||| ((16 : Int32) * ((1 : Int32) <<< (((f (k * 28 + 4 + j * 4 + 3)) - (f (k * 28 + 4 + j * 4 + 3)) / 4 * 4) &&& 31)))) ||| ((16 : Int32) <<< (((f (k * 28 + 4 + j * 4 + 1)) - 1000) &&& 31)))), (5, .int (nI j)), (6, .int (f (k * 28 + 4 + j * 4 + 2))), (7, .int ((1 : Int32) <<< (((f (k * 28 + 4 + j * 4 + 3)) - (f (k * 28 + 4 + j * 4 + 3)) / 4 * 4) &&& 31)))]) C dX5_effects_114 (Nat.le_of_ble_eq_true rfl) rfl rfl ?_
              refine j_iinc (v := nI (j + 1)) (L' := [(0, .ref a0), (1, .int (nI k)), (2, .int (nI i)), (3, .int (nI e0)), (4, .int ((acc ||| ((16 : Int32) * ((1 : Int32) <<< (((f (k * 28 + 4 + j * 4 + 3)) - (f (k * 28 + 4 + j * 4 + 3)) / 4 * 4) &&& 31)))) ||| ((16 : Int32) <<< (((f (k * 28 + 4 + j * 4 + 1)) - 1000) &&& 31)))), (5, .int (nI (j + 1))), (6, .int (f (k * 28 + 4 + j * 4 + 2))), (7, .int ((1 : Int32) <<< (((f (k * 28 + 4 + j * 4 + 3)) - (f (k * 28 + 4 + j * 4 + 3)) / 4 * 4) &&& 31)))]) 5 C dX5_effects_116 rfl (nI_add j 1) (Nat.le_of_ble_eq_true rfl) rfl rfl ?_
              refine j_goto (tgt := 6) C dX5_effects_119 (by decide) ?_
              refine j_pick (L' := [(0, .ref a0), (1, .int (nI k)), (2, .int (nI i)), (3, .int (nI e0)), (4, .int ((acc ||| ((16 : Int32) * ((1 : Int32) <<< (((f (k * 28 + 4 + j * 4 + 3)) - (f (k * 28 + 4 + j * 4 + 3)) / 4 * 4) &&& 31)))) ||| ((16 : Int32) <<< (((f (k * 28 + 4 + j * 4 + 1)) - 1000) &&& 31)))), (5, .int (nI (j + 1)))]) [0, 1, 2, 3, 4, 5] rfl ?_
              exact ih_1 (j + 1, (acc ||| ((16 : Int32) * ((1 : Int32) <<< (((f (k * 28 + 4 + j * 4 + 3)) - (f (k * 28 + 4 + j * 4 + 3)) / 4 * 4) &&& 31)))) ||| ((16 : Int32) <<< (((f (k * 28 + 4 + j * 4 + 1)) - 1000) &&& 31))) ⟨(by omega), (by omega), (by first | contradiction | (rw [← hI2, show e0 - j = (e0 - (j + 1)) + 1 by omega, jEf_s]; simp only [jE1, jE2, jE3, jBit]; repeat (first | rw [if_pos (by assumption)] | rw [if_neg (by assumption)])))⟩ (show e0 - (j + 1) < e0 - j from by omega)
    · skip
      refine j_iload 4 C dX5_effects_42 rfl ?_
      refine j_iload 7 C dX5_effects_44 rfl ?_
      refine j_ior (x := acc) (y := (1 : Int32) <<< (((f (k * 28 + 4 + j * 4 + 3)) - (f (k * 28 + 4 + j * 4 + 3)) / 4 * 4) &&& 31)) (v := acc ||| ((1 : Int32) <<< (((f (k * 28 + 4 + j * 4 + 3)) - (f (k * 28 + 4 + j * 4 + 3)) / 4 * 4) &&& 31))) C dX5_effects_46 rfl ?_
      refine j_istore (L' := [(0, .ref a0), (1, .int (nI k)), (2, .int (nI i)), (3, .int (nI e0)), (4, .int (acc ||| ((1 : Int32) <<< (((f (k * 28 + 4 + j * 4 + 3)) - (f (k * 28 + 4 + j * 4 + 3)) / 4 * 4) &&& 31)))), (5, .int (nI j)), (6, .int (f (k * 28 + 4 + j * 4 + 2))), (7, .int ((1 : Int32) <<< (((f (k * 28 + 4 + j * 4 + 3)) - (f (k * 28 + 4 + j * 4 + 3)) / 4 * 4) &&& 31)))]) C dX5_effects_47 (Nat.le_of_ble_eq_true rfl) rfl rfl ?_
      refine j_iload 6 C dX5_effects_49 rfl ?_
      refine j_iconst (v := 2) C dX5_effects_51 rfl ?_
      refine j_icmp_lt (tgt := 71) C dX5_effects_52 (by decide) (fun c_13 => ?_) (fun c_13 => ?_)
      · skip
        refine j_aload_n 0 C dX5_effects_71 rfl rfl ?_
        refine j_iload_n 1 C dX5_effects_72 rfl rfl ?_
        refine j_iload 5 C dX5_effects_73 rfl ?_
        refine j_iconst (v := 0) C dX5_effects_75 rfl ?_
        refine j_callRi (v := f (k * 28 + 4 + j * 4 + 0)) (j_runS (As := [.ref a0, .int (nI k), .int (nI j), .int 0]) (rest := []) [0] C (c_X5_get l g a0 n f k j 0 (by omega)) gX5_effects_X5_get rfl rfl rfl hd_X5_get ⟨Nat.le_of_ble_eq_true rfl, Nat.le_of_ble_eq_true rfl⟩ rfl rfl dX5_effects_76 rfl (Nat.le_of_ble_eq_true rfl) ⟨Nat.le_of_ble_eq_true rfl, Nat.le_of_ble_eq_true rfl⟩) ?_
        refine j_if_eq (tgt := 116) C dX5_effects_79 (by decide) (fun c_14 => ?_) (fun c_14 => ?_)
        · skip
          refine j_iinc (v := nI (j + 1)) (L' := [(0, .ref a0), (1, .int (nI k)), (2, .int (nI i)), (3, .int (nI e0)), (4, .int (acc ||| ((1 : Int32) <<< (((f (k * 28 + 4 + j * 4 + 3)) - (f (k * 28 + 4 + j * 4 + 3)) / 4 * 4) &&& 31)))), (5, .int (nI (j + 1))), (6, .int (f (k * 28 + 4 + j * 4 + 2))), (7, .int ((1 : Int32) <<< (((f (k * 28 + 4 + j * 4 + 3)) - (f (k * 28 + 4 + j * 4 + 3)) / 4 * 4) &&& 31)))]) 5 C dX5_effects_116 rfl (nI_add j 1) (Nat.le_of_ble_eq_true rfl) rfl rfl ?_
          refine j_goto (tgt := 6) C dX5_effects_119 (by decide) ?_
          refine j_pick (L' := [(0, .ref a0), (1, .int (nI k)), (2, .int (nI i)), (3, .int (nI e0)), (4, .int (acc ||| ((1 : Int32) <<< (((f (k * 28 + 4 + j * 4 + 3)) - (f (k * 28 + 4 + j * 4 + 3)) / 4 * 4) &&& 31)))), (5, .int (nI (j + 1)))]) [0, 1, 2, 3, 4, 5] rfl ?_
          exact ih_1 (j + 1, acc ||| ((1 : Int32) <<< (((f (k * 28 + 4 + j * 4 + 3)) - (f (k * 28 + 4 + j * 4 + 3)) / 4 * 4) &&& 31))) ⟨(by omega), (by omega), (by first | contradiction | (rw [← hI2, show e0 - j = (e0 - (j + 1)) + 1 by omega, jEf_s]; simp only [jE1, jE2, jE3, jBit]; repeat (first | rw [if_pos (by assumption)] | rw [if_neg (by assumption)])))⟩ (show e0 - (j + 1) < e0 - j from by omega)
        · skip
          refine j_aload_n 0 C dX5_effects_82 rfl rfl ?_
          refine j_iload_n 1 C dX5_effects_83 rfl rfl ?_
          refine j_iload 5 C dX5_effects_84 rfl ?_
          refine j_iconst (v := 1) C dX5_effects_86 rfl ?_
          refine j_callRi (v := f (k * 28 + 4 + j * 4 + 1)) (j_runS (As := [.ref a0, .int (nI k), .int (nI j), .int 1]) (rest := []) [0] C (c_X5_get l g a0 n f k j 1 (by omega)) gX5_effects_X5_get rfl rfl rfl hd_X5_get ⟨Nat.le_of_ble_eq_true rfl, Nat.le_of_ble_eq_true rfl⟩ rfl rfl dX5_effects_87 rfl (Nat.le_of_ble_eq_true rfl) ⟨Nat.le_of_ble_eq_true rfl, Nat.le_of_ble_eq_true rfl⟩) ?_
          refine j_sipush (v := 1000) C dX5_effects_90 rfl ?_
          refine j_icmp_lt (tgt := 116) C dX5_effects_93 (by decide) (fun c_15 => ?_) (fun c_15 => ?_)
          · skip
            refine j_iinc (v := nI (j + 1)) (L' := [(0, .ref a0), (1, .int (nI k)), (2, .int (nI i)), (3, .int (nI e0)), (4, .int (acc ||| ((1 : Int32) <<< (((f (k * 28 + 4 + j * 4 + 3)) - (f (k * 28 + 4 + j * 4 + 3)) / 4 * 4) &&& 31)))), (5, .int (nI (j + 1))), (6, .int (f (k * 28 + 4 + j * 4 + 2))), (7, .int ((1 : Int32) <<< (((f (k * 28 + 4 + j * 4 + 3)) - (f (k * 28 + 4 + j * 4 + 3)) / 4 * 4) &&& 31)))]) 5 C dX5_effects_116 rfl (nI_add j 1) (Nat.le_of_ble_eq_true rfl) rfl rfl ?_
            refine j_goto (tgt := 6) C dX5_effects_119 (by decide) ?_
            refine j_pick (L' := [(0, .ref a0), (1, .int (nI k)), (2, .int (nI i)), (3, .int (nI e0)), (4, .int (acc ||| ((1 : Int32) <<< (((f (k * 28 + 4 + j * 4 + 3)) - (f (k * 28 + 4 + j * 4 + 3)) / 4 * 4) &&& 31)))), (5, .int (nI (j + 1)))]) [0, 1, 2, 3, 4, 5] rfl ?_
            exact ih_1 (j + 1, acc ||| ((1 : Int32) <<< (((f (k * 28 + 4 + j * 4 + 3)) - (f (k * 28 + 4 + j * 4 + 3)) / 4 * 4) &&& 31))) ⟨(by omega), (by omega), (by first | contradiction | (rw [← hI2, show e0 - j = (e0 - (j + 1)) + 1 by omega, jEf_s]; simp only [jE1, jE2, jE3, jBit]; repeat (first | rw [if_pos (by assumption)] | rw [if_neg (by assumption)])))⟩ (show e0 - (j + 1) < e0 - j from by omega)
          · skip
            refine j_iload 4 C dX5_effects_96 rfl ?_
            refine j_bipush (v := 16) C dX5_effects_98 rfl ?_
            refine j_aload_n 0 C dX5_effects_100 rfl rfl ?_
            refine j_iload_n 1 C dX5_effects_101 rfl rfl ?_
            refine j_iload 5 C dX5_effects_102 rfl ?_
            refine j_iconst (v := 1) C dX5_effects_104 rfl ?_
            refine j_callRi (v := f (k * 28 + 4 + j * 4 + 1)) (j_runS (As := [.ref a0, .int (nI k), .int (nI j), .int 1]) (rest := [.int 16, .int (acc ||| ((1 : Int32) <<< (((f (k * 28 + 4 + j * 4 + 3)) - (f (k * 28 + 4 + j * 4 + 3)) / 4 * 4) &&& 31)))]) [0] C (c_X5_get l g a0 n f k j 1 (by omega)) gX5_effects_X5_get rfl rfl rfl hd_X5_get ⟨Nat.le_of_ble_eq_true rfl, Nat.le_of_ble_eq_true rfl⟩ rfl rfl dX5_effects_105 rfl (Nat.le_of_ble_eq_true rfl) ⟨Nat.le_of_ble_eq_true rfl, Nat.le_of_ble_eq_true rfl⟩) ?_
            refine j_sipush (v := 1000) C dX5_effects_108 rfl ?_
            refine j_isub (x := f (k * 28 + 4 + j * 4 + 1)) (y := 1000) (v := (f (k * 28 + 4 + j * 4 + 1)) - 1000) C dX5_effects_111 rfl ?_
            refine j_ishl (x := 16) (y := (f (k * 28 + 4 + j * 4 + 1)) - 1000) (v := (16 : Int32) <<< (((f (k * 28 + 4 + j * 4 + 1)) - 1000) &&& 31)) C dX5_effects_112 rfl ?_
            refine j_ior (x := acc ||| ((1 : Int32) <<< (((f (k * 28 + 4 + j * 4 + 3)) - (f (k * 28 + 4 + j * 4 + 3)) / 4 * 4) &&& 31))) (y := (16 : Int32) <<< (((f (k * 28 + 4 + j * 4 + 1)) - 1000) &&& 31)) (v := (acc ||| ((1 : Int32) <<< (((f (k * 28 + 4 + j * 4 + 3)) - (f (k * 28 + 4 + j * 4 + 3)) / 4 * 4) &&& 31))) ||| ((16 : Int32) <<< (((f (k * 28 + 4 + j * 4 + 1)) - 1000) &&& 31))) C dX5_effects_113 rfl ?_
            refine j_istore (L' := [(0, .ref a0), (1, .int (nI k)), (2, .int (nI i)), (3, .int (nI e0)), (4, .int ((acc ||| ((1 : Int32) <<< (((f (k * 28 + 4 + j * 4 + 3)) - (f (k * 28 + 4 + j * 4 + 3)) / 4 * 4) &&& 31))) ||| ((16 : Int32) <<< (((f (k * 28 + 4 + j * 4 + 1)) - 1000) &&& 31)))), (5, .int (nI j)), (6, .int (f (k * 28 + 4 + j * 4 + 2))), (7, .int ((1 : Int32) <<< (((f (k * 28 + 4 + j * 4 + 3)) - (f (k * 28 + 4 + j * 4 + 3)) / 4 * 4) &&& 31)))]) C dX5_effects_114 (Nat.le_of_ble_eq_true rfl) rfl rfl ?_
            refine j_iinc (v := nI (j + 1)) (L' := [(0, .ref a0), (1, .int (nI k)), (2, .int (nI i)), (3, .int (nI e0)), (4, .int ((acc ||| ((1 : Int32) <<< (((f (k * 28 + 4 + j * 4 + 3)) - (f (k * 28 + 4 + j * 4 + 3)) / 4 * 4) &&& 31))) ||| ((16 : Int32) <<< (((f (k * 28 + 4 + j * 4 + 1)) - 1000) &&& 31)))), (5, .int (nI (j + 1))), (6, .int (f (k * 28 + 4 + j * 4 + 2))), (7, .int ((1 : Int32) <<< (((f (k * 28 + 4 + j * 4 + 3)) - (f (k * 28 + 4 + j * 4 + 3)) / 4 * 4) &&& 31)))]) 5 C dX5_effects_116 rfl (nI_add j 1) (Nat.le_of_ble_eq_true rfl) rfl rfl ?_
            refine j_goto (tgt := 6) C dX5_effects_119 (by decide) ?_
            refine j_pick (L' := [(0, .ref a0), (1, .int (nI k)), (2, .int (nI i)), (3, .int (nI e0)), (4, .int ((acc ||| ((1 : Int32) <<< (((f (k * 28 + 4 + j * 4 + 3)) - (f (k * 28 + 4 + j * 4 + 3)) / 4 * 4) &&& 31))) ||| ((16 : Int32) <<< (((f (k * 28 + 4 + j * 4 + 1)) - 1000) &&& 31)))), (5, .int (nI (j + 1)))]) [0, 1, 2, 3, 4, 5] rfl ?_
            exact ih_1 (j + 1, (acc ||| ((1 : Int32) <<< (((f (k * 28 + 4 + j * 4 + 3)) - (f (k * 28 + 4 + j * 4 + 3)) / 4 * 4) &&& 31))) ||| ((16 : Int32) <<< (((f (k * 28 + 4 + j * 4 + 1)) - 1000) &&& 31))) ⟨(by omega), (by omega), (by first | contradiction | (rw [← hI2, show e0 - j = (e0 - (j + 1)) + 1 by omega, jEf_s]; simp only [jE1, jE2, jE3, jBit]; repeat (first | rw [if_pos (by assumption)] | rw [if_neg (by assumption)])))⟩ (show e0 - (j + 1) < e0 - j from by omega)
      · skip
        refine j_iload 6 C dX5_effects_55 rfl ?_
        refine j_iconst (v := 4) C dX5_effects_57 rfl ?_
        refine j_icmp_ge (tgt := 71) C dX5_effects_58 (by decide) (fun c_16 => ?_) (fun c_16 => ?_)
        · skip
          refine j_aload_n 0 C dX5_effects_71 rfl rfl ?_
          refine j_iload_n 1 C dX5_effects_72 rfl rfl ?_
          refine j_iload 5 C dX5_effects_73 rfl ?_
          refine j_iconst (v := 0) C dX5_effects_75 rfl ?_
          refine j_callRi (v := f (k * 28 + 4 + j * 4 + 0)) (j_runS (As := [.ref a0, .int (nI k), .int (nI j), .int 0]) (rest := []) [0] C (c_X5_get l g a0 n f k j 0 (by omega)) gX5_effects_X5_get rfl rfl rfl hd_X5_get ⟨Nat.le_of_ble_eq_true rfl, Nat.le_of_ble_eq_true rfl⟩ rfl rfl dX5_effects_76 rfl (Nat.le_of_ble_eq_true rfl) ⟨Nat.le_of_ble_eq_true rfl, Nat.le_of_ble_eq_true rfl⟩) ?_
          refine j_if_eq (tgt := 116) C dX5_effects_79 (by decide) (fun c_17 => ?_) (fun c_17 => ?_)
          · skip
            refine j_iinc (v := nI (j + 1)) (L' := [(0, .ref a0), (1, .int (nI k)), (2, .int (nI i)), (3, .int (nI e0)), (4, .int (acc ||| ((1 : Int32) <<< (((f (k * 28 + 4 + j * 4 + 3)) - (f (k * 28 + 4 + j * 4 + 3)) / 4 * 4) &&& 31)))), (5, .int (nI (j + 1))), (6, .int (f (k * 28 + 4 + j * 4 + 2))), (7, .int ((1 : Int32) <<< (((f (k * 28 + 4 + j * 4 + 3)) - (f (k * 28 + 4 + j * 4 + 3)) / 4 * 4) &&& 31)))]) 5 C dX5_effects_116 rfl (nI_add j 1) (Nat.le_of_ble_eq_true rfl) rfl rfl ?_
            refine j_goto (tgt := 6) C dX5_effects_119 (by decide) ?_
            refine j_pick (L' := [(0, .ref a0), (1, .int (nI k)), (2, .int (nI i)), (3, .int (nI e0)), (4, .int (acc ||| ((1 : Int32) <<< (((f (k * 28 + 4 + j * 4 + 3)) - (f (k * 28 + 4 + j * 4 + 3)) / 4 * 4) &&& 31)))), (5, .int (nI (j + 1)))]) [0, 1, 2, 3, 4, 5] rfl ?_
            exact ih_1 (j + 1, acc ||| ((1 : Int32) <<< (((f (k * 28 + 4 + j * 4 + 3)) - (f (k * 28 + 4 + j * 4 + 3)) / 4 * 4) &&& 31))) ⟨(by omega), (by omega), (by first | contradiction | (rw [← hI2, show e0 - j = (e0 - (j + 1)) + 1 by omega, jEf_s]; simp only [jE1, jE2, jE3, jBit]; repeat (first | rw [if_pos (by assumption)] | rw [if_neg (by assumption)])))⟩ (show e0 - (j + 1) < e0 - j from by omega)
          · skip
            refine j_aload_n 0 C dX5_effects_82 rfl rfl ?_
            refine j_iload_n 1 C dX5_effects_83 rfl rfl ?_
            refine j_iload 5 C dX5_effects_84 rfl ?_
            refine j_iconst (v := 1) C dX5_effects_86 rfl ?_
            refine j_callRi (v := f (k * 28 + 4 + j * 4 + 1)) (j_runS (As := [.ref a0, .int (nI k), .int (nI j), .int 1]) (rest := []) [0] C (c_X5_get l g a0 n f k j 1 (by omega)) gX5_effects_X5_get rfl rfl rfl hd_X5_get ⟨Nat.le_of_ble_eq_true rfl, Nat.le_of_ble_eq_true rfl⟩ rfl rfl dX5_effects_87 rfl (Nat.le_of_ble_eq_true rfl) ⟨Nat.le_of_ble_eq_true rfl, Nat.le_of_ble_eq_true rfl⟩) ?_
            refine j_sipush (v := 1000) C dX5_effects_90 rfl ?_
            refine j_icmp_lt (tgt := 116) C dX5_effects_93 (by decide) (fun c_18 => ?_) (fun c_18 => ?_)
            · skip
              refine j_iinc (v := nI (j + 1)) (L' := [(0, .ref a0), (1, .int (nI k)), (2, .int (nI i)), (3, .int (nI e0)), (4, .int (acc ||| ((1 : Int32) <<< (((f (k * 28 + 4 + j * 4 + 3)) - (f (k * 28 + 4 + j * 4 + 3)) / 4 * 4) &&& 31)))), (5, .int (nI (j + 1))), (6, .int (f (k * 28 + 4 + j * 4 + 2))), (7, .int ((1 : Int32) <<< (((f (k * 28 + 4 + j * 4 + 3)) - (f (k * 28 + 4 + j * 4 + 3)) / 4 * 4) &&& 31)))]) 5 C dX5_effects_116 rfl (nI_add j 1) (Nat.le_of_ble_eq_true rfl) rfl rfl ?_
              refine j_goto (tgt := 6) C dX5_effects_119 (by decide) ?_
              refine j_pick (L' := [(0, .ref a0), (1, .int (nI k)), (2, .int (nI i)), (3, .int (nI e0)), (4, .int (acc ||| ((1 : Int32) <<< (((f (k * 28 + 4 + j * 4 + 3)) - (f (k * 28 + 4 + j * 4 + 3)) / 4 * 4) &&& 31)))), (5, .int (nI (j + 1)))]) [0, 1, 2, 3, 4, 5] rfl ?_
              exact ih_1 (j + 1, acc ||| ((1 : Int32) <<< (((f (k * 28 + 4 + j * 4 + 3)) - (f (k * 28 + 4 + j * 4 + 3)) / 4 * 4) &&& 31))) ⟨(by omega), (by omega), (by first | contradiction | (rw [← hI2, show e0 - j = (e0 - (j + 1)) + 1 by omega, jEf_s]; simp only [jE1, jE2, jE3, jBit]; repeat (first | rw [if_pos (by assumption)] | rw [if_neg (by assumption)])))⟩ (show e0 - (j + 1) < e0 - j from by omega)
            · skip
              refine j_iload 4 C dX5_effects_96 rfl ?_
              refine j_bipush (v := 16) C dX5_effects_98 rfl ?_
              refine j_aload_n 0 C dX5_effects_100 rfl rfl ?_
              refine j_iload_n 1 C dX5_effects_101 rfl rfl ?_
              refine j_iload 5 C dX5_effects_102 rfl ?_
              refine j_iconst (v := 1) C dX5_effects_104 rfl ?_
              refine j_callRi (v := f (k * 28 + 4 + j * 4 + 1)) (j_runS (As := [.ref a0, .int (nI k), .int (nI j), .int 1]) (rest := [.int 16, .int (acc ||| ((1 : Int32) <<< (((f (k * 28 + 4 + j * 4 + 3)) - (f (k * 28 + 4 + j * 4 + 3)) / 4 * 4) &&& 31)))]) [0] C (c_X5_get l g a0 n f k j 1 (by omega)) gX5_effects_X5_get rfl rfl rfl hd_X5_get ⟨Nat.le_of_ble_eq_true rfl, Nat.le_of_ble_eq_true rfl⟩ rfl rfl dX5_effects_105 rfl (Nat.le_of_ble_eq_true rfl) ⟨Nat.le_of_ble_eq_true rfl, Nat.le_of_ble_eq_true rfl⟩) ?_
              refine j_sipush (v := 1000) C dX5_effects_108 rfl ?_
              refine j_isub (x := f (k * 28 + 4 + j * 4 + 1)) (y := 1000) (v := (f (k * 28 + 4 + j * 4 + 1)) - 1000) C dX5_effects_111 rfl ?_
              refine j_ishl (x := 16) (y := (f (k * 28 + 4 + j * 4 + 1)) - 1000) (v := (16 : Int32) <<< (((f (k * 28 + 4 + j * 4 + 1)) - 1000) &&& 31)) C dX5_effects_112 rfl ?_
              refine j_ior (x := acc ||| ((1 : Int32) <<< (((f (k * 28 + 4 + j * 4 + 3)) - (f (k * 28 + 4 + j * 4 + 3)) / 4 * 4) &&& 31))) (y := (16 : Int32) <<< (((f (k * 28 + 4 + j * 4 + 1)) - 1000) &&& 31)) (v := (acc ||| ((1 : Int32) <<< (((f (k * 28 + 4 + j * 4 + 3)) - (f (k * 28 + 4 + j * 4 + 3)) / 4 * 4) &&& 31))) ||| ((16 : Int32) <<< (((f (k * 28 + 4 + j * 4 + 1)) - 1000) &&& 31))) C dX5_effects_113 rfl ?_
              refine j_istore (L' := [(0, .ref a0), (1, .int (nI k)), (2, .int (nI i)), (3, .int (nI e0)), (4, .int ((acc ||| ((1 : Int32) <<< (((f (k * 28 + 4 + j * 4 + 3)) - (f (k * 28 + 4 + j * 4 + 3)) / 4 * 4) &&& 31))) ||| ((16 : Int32) <<< (((f (k * 28 + 4 + j * 4 + 1)) - 1000) &&& 31)))), (5, .int (nI j)), (6, .int (f (k * 28 + 4 + j * 4 + 2))), (7, .int ((1 : Int32) <<< (((f (k * 28 + 4 + j * 4 + 3)) - (f (k * 28 + 4 + j * 4 + 3)) / 4 * 4) &&& 31)))]) C dX5_effects_114 (Nat.le_of_ble_eq_true rfl) rfl rfl ?_
              refine j_iinc (v := nI (j + 1)) (L' := [(0, .ref a0), (1, .int (nI k)), (2, .int (nI i)), (3, .int (nI e0)), (4, .int ((acc ||| ((1 : Int32) <<< (((f (k * 28 + 4 + j * 4 + 3)) - (f (k * 28 + 4 + j * 4 + 3)) / 4 * 4) &&& 31))) ||| ((16 : Int32) <<< (((f (k * 28 + 4 + j * 4 + 1)) - 1000) &&& 31)))), (5, .int (nI (j + 1))), (6, .int (f (k * 28 + 4 + j * 4 + 2))), (7, .int ((1 : Int32) <<< (((f (k * 28 + 4 + j * 4 + 3)) - (f (k * 28 + 4 + j * 4 + 3)) / 4 * 4) &&& 31)))]) 5 C dX5_effects_116 rfl (nI_add j 1) (Nat.le_of_ble_eq_true rfl) rfl rfl ?_
              refine j_goto (tgt := 6) C dX5_effects_119 (by decide) ?_
              refine j_pick (L' := [(0, .ref a0), (1, .int (nI k)), (2, .int (nI i)), (3, .int (nI e0)), (4, .int ((acc ||| ((1 : Int32) <<< (((f (k * 28 + 4 + j * 4 + 3)) - (f (k * 28 + 4 + j * 4 + 3)) / 4 * 4) &&& 31))) ||| ((16 : Int32) <<< (((f (k * 28 + 4 + j * 4 + 1)) - 1000) &&& 31)))), (5, .int (nI (j + 1)))]) [0, 1, 2, 3, 4, 5] rfl ?_
              exact ih_1 (j + 1, (acc ||| ((1 : Int32) <<< (((f (k * 28 + 4 + j * 4 + 3)) - (f (k * 28 + 4 + j * 4 + 3)) / 4 * 4) &&& 31))) ||| ((16 : Int32) <<< (((f (k * 28 + 4 + j * 4 + 1)) - 1000) &&& 31))) ⟨(by omega), (by omega), (by first | contradiction | (rw [← hI2, show e0 - j = (e0 - (j + 1)) + 1 by omega, jEf_s]; simp only [jE1, jE2, jE3, jBit]; repeat (first | rw [if_pos (by assumption)] | rw [if_neg (by assumption)])))⟩ (show e0 - (j + 1) < e0 - j from by omega)
        · skip
          refine j_iload 4 C dX5_effects_61 rfl ?_
          refine j_bipush (v := 16) C dX5_effects_63 rfl ?_
          refine j_iload 7 C dX5_effects_65 rfl ?_
          refine j_imul (x := 16) (y := (1 : Int32) <<< (((f (k * 28 + 4 + j * 4 + 3)) - (f (k * 28 + 4 + j * 4 + 3)) / 4 * 4) &&& 31)) (v := (16 : Int32) * ((1 : Int32) <<< (((f (k * 28 + 4 + j * 4 + 3)) - (f (k * 28 + 4 + j * 4 + 3)) / 4 * 4) &&& 31))) C dX5_effects_67 rfl ?_
          refine j_ior (x := acc ||| ((1 : Int32) <<< (((f (k * 28 + 4 + j * 4 + 3)) - (f (k * 28 + 4 + j * 4 + 3)) / 4 * 4) &&& 31))) (y := (16 : Int32) * ((1 : Int32) <<< (((f (k * 28 + 4 + j * 4 + 3)) - (f (k * 28 + 4 + j * 4 + 3)) / 4 * 4) &&& 31))) (v := (acc ||| ((1 : Int32) <<< (((f (k * 28 + 4 + j * 4 + 3)) - (f (k * 28 + 4 + j * 4 + 3)) / 4 * 4) &&& 31))) ||| ((16 : Int32) * ((1 : Int32) <<< (((f (k * 28 + 4 + j * 4 + 3)) - (f (k * 28 + 4 + j * 4 + 3)) / 4 * 4) &&& 31)))) C dX5_effects_68 rfl ?_
          refine j_istore (L' := [(0, .ref a0), (1, .int (nI k)), (2, .int (nI i)), (3, .int (nI e0)), (4, .int ((acc ||| ((1 : Int32) <<< (((f (k * 28 + 4 + j * 4 + 3)) - (f (k * 28 + 4 + j * 4 + 3)) / 4 * 4) &&& 31))) ||| ((16 : Int32) * ((1 : Int32) <<< (((f (k * 28 + 4 + j * 4 + 3)) - (f (k * 28 + 4 + j * 4 + 3)) / 4 * 4) &&& 31))))), (5, .int (nI j)), (6, .int (f (k * 28 + 4 + j * 4 + 2))), (7, .int ((1 : Int32) <<< (((f (k * 28 + 4 + j * 4 + 3)) - (f (k * 28 + 4 + j * 4 + 3)) / 4 * 4) &&& 31)))]) C dX5_effects_69 (Nat.le_of_ble_eq_true rfl) rfl rfl ?_
          refine j_aload_n 0 C dX5_effects_71 rfl rfl ?_
          refine j_iload_n 1 C dX5_effects_72 rfl rfl ?_
          refine j_iload 5 C dX5_effects_73 rfl ?_
          refine j_iconst (v := 0) C dX5_effects_75 rfl ?_
          refine j_callRi (v := f (k * 28 + 4 + j * 4 + 0)) (j_runS (As := [.ref a0, .int (nI k), .int (nI j), .int 0]) (rest := []) [0] C (c_X5_get l g a0 n f k j 0 (by omega)) gX5_effects_X5_get rfl rfl rfl hd_X5_get ⟨Nat.le_of_ble_eq_true rfl, Nat.le_of_ble_eq_true rfl⟩ rfl rfl dX5_effects_76 rfl (Nat.le_of_ble_eq_true rfl) ⟨Nat.le_of_ble_eq_true rfl, Nat.le_of_ble_eq_true rfl⟩) ?_
          refine j_if_eq (tgt := 116) C dX5_effects_79 (by decide) (fun c_19 => ?_) (fun c_19 => ?_)
          · skip
            refine j_iinc (v := nI (j + 1)) (L' := [(0, .ref a0), (1, .int (nI k)), (2, .int (nI i)), (3, .int (nI e0)), (4, .int ((acc ||| ((1 : Int32) <<< (((f (k * 28 + 4 + j * 4 + 3)) - (f (k * 28 + 4 + j * 4 + 3)) / 4 * 4) &&& 31))) ||| ((16 : Int32) * ((1 : Int32) <<< (((f (k * 28 + 4 + j * 4 + 3)) - (f (k * 28 + 4 + j * 4 + 3)) / 4 * 4) &&& 31))))), (5, .int (nI (j + 1))), (6, .int (f (k * 28 + 4 + j * 4 + 2))), (7, .int ((1 : Int32) <<< (((f (k * 28 + 4 + j * 4 + 3)) - (f (k * 28 + 4 + j * 4 + 3)) / 4 * 4) &&& 31)))]) 5 C dX5_effects_116 rfl (nI_add j 1) (Nat.le_of_ble_eq_true rfl) rfl rfl ?_
            refine j_goto (tgt := 6) C dX5_effects_119 (by decide) ?_
            refine j_pick (L' := [(0, .ref a0), (1, .int (nI k)), (2, .int (nI i)), (3, .int (nI e0)), (4, .int ((acc ||| ((1 : Int32) <<< (((f (k * 28 + 4 + j * 4 + 3)) - (f (k * 28 + 4 + j * 4 + 3)) / 4 * 4) &&& 31))) ||| ((16 : Int32) * ((1 : Int32) <<< (((f (k * 28 + 4 + j * 4 + 3)) - (f (k * 28 + 4 + j * 4 + 3)) / 4 * 4) &&& 31))))), (5, .int (nI (j + 1)))]) [0, 1, 2, 3, 4, 5] rfl ?_
            exact ih_1 (j + 1, (acc ||| ((1 : Int32) <<< (((f (k * 28 + 4 + j * 4 + 3)) - (f (k * 28 + 4 + j * 4 + 3)) / 4 * 4) &&& 31))) ||| ((16 : Int32) * ((1 : Int32) <<< (((f (k * 28 + 4 + j * 4 + 3)) - (f (k * 28 + 4 + j * 4 + 3)) / 4 * 4) &&& 31)))) ⟨(by omega), (by omega), (by first | contradiction | (rw [← hI2, show e0 - j = (e0 - (j + 1)) + 1 by omega, jEf_s]; simp only [jE1, jE2, jE3, jBit]; repeat (first | rw [if_pos (by assumption)] | rw [if_neg (by assumption)])))⟩ (show e0 - (j + 1) < e0 - j from by omega)
          · skip
            refine j_aload_n 0 C dX5_effects_82 rfl rfl ?_
            refine j_iload_n 1 C dX5_effects_83 rfl rfl ?_
            refine j_iload 5 C dX5_effects_84 rfl ?_
            refine j_iconst (v := 1) C dX5_effects_86 rfl ?_
            refine j_callRi (v := f (k * 28 + 4 + j * 4 + 1)) (j_runS (As := [.ref a0, .int (nI k), .int (nI j), .int 1]) (rest := []) [0] C (c_X5_get l g a0 n f k j 1 (by omega)) gX5_effects_X5_get rfl rfl rfl hd_X5_get ⟨Nat.le_of_ble_eq_true rfl, Nat.le_of_ble_eq_true rfl⟩ rfl rfl dX5_effects_87 rfl (Nat.le_of_ble_eq_true rfl) ⟨Nat.le_of_ble_eq_true rfl, Nat.le_of_ble_eq_true rfl⟩) ?_
            refine j_sipush (v := 1000) C dX5_effects_90 rfl ?_
            refine j_icmp_lt (tgt := 116) C dX5_effects_93 (by decide) (fun c_20 => ?_) (fun c_20 => ?_)
            · skip
              refine j_iinc (v := nI (j + 1)) (L' := [(0, .ref a0), (1, .int (nI k)), (2, .int (nI i)), (3, .int (nI e0)), (4, .int ((acc ||| ((1 : Int32) <<< (((f (k * 28 + 4 + j * 4 + 3)) - (f (k * 28 + 4 + j * 4 + 3)) / 4 * 4) &&& 31))) ||| ((16 : Int32) * ((1 : Int32) <<< (((f (k * 28 + 4 + j * 4 + 3)) - (f (k * 28 + 4 + j * 4 + 3)) / 4 * 4) &&& 31))))), (5, .int (nI (j + 1))), (6, .int (f (k * 28 + 4 + j * 4 + 2))), (7, .int ((1 : Int32) <<< (((f (k * 28 + 4 + j * 4 + 3)) - (f (k * 28 + 4 + j * 4 + 3)) / 4 * 4) &&& 31)))]) 5 C dX5_effects_116 rfl (nI_add j 1) (Nat.le_of_ble_eq_true rfl) rfl rfl ?_
              refine j_goto (tgt := 6) C dX5_effects_119 (by decide) ?_
              refine j_pick (L' := [(0, .ref a0), (1, .int (nI k)), (2, .int (nI i)), (3, .int (nI e0)), (4, .int ((acc ||| ((1 : Int32) <<< (((f (k * 28 + 4 + j * 4 + 3)) - (f (k * 28 + 4 + j * 4 + 3)) / 4 * 4) &&& 31))) ||| ((16 : Int32) * ((1 : Int32) <<< (((f (k * 28 + 4 + j * 4 + 3)) - (f (k * 28 + 4 + j * 4 + 3)) / 4 * 4) &&& 31))))), (5, .int (nI (j + 1)))]) [0, 1, 2, 3, 4, 5] rfl ?_
              exact ih_1 (j + 1, (acc ||| ((1 : Int32) <<< (((f (k * 28 + 4 + j * 4 + 3)) - (f (k * 28 + 4 + j * 4 + 3)) / 4 * 4) &&& 31))) ||| ((16 : Int32) * ((1 : Int32) <<< (((f (k * 28 + 4 + j * 4 + 3)) - (f (k * 28 + 4 + j * 4 + 3)) / 4 * 4) &&& 31)))) ⟨(by omega), (by omega), (by first | contradiction | (rw [← hI2, show e0 - j = (e0 - (j + 1)) + 1 by omega, jEf_s]; simp only [jE1, jE2, jE3, jBit]; repeat (first | rw [if_pos (by assumption)] | rw [if_neg (by assumption)])))⟩ (show e0 - (j + 1) < e0 - j from by omega)
            · skip
              refine j_iload 4 C dX5_effects_96 rfl ?_
              refine j_bipush (v := 16) C dX5_effects_98 rfl ?_
              refine j_aload_n 0 C dX5_effects_100 rfl rfl ?_
              refine j_iload_n 1 C dX5_effects_101 rfl rfl ?_
              refine j_iload 5 C dX5_effects_102 rfl ?_
              refine j_iconst (v := 1) C dX5_effects_104 rfl ?_
              refine j_callRi (v := f (k * 28 + 4 + j * 4 + 1)) (j_runS (As := [.ref a0, .int (nI k), .int (nI j), .int 1]) (rest := [.int 16, .int ((acc ||| ((1 : Int32) <<< (((f (k * 28 + 4 + j * 4 + 3)) - (f (k * 28 + 4 + j * 4 + 3)) / 4 * 4) &&& 31))) ||| ((16 : Int32) * ((1 : Int32) <<< (((f (k * 28 + 4 + j * 4 + 3)) - (f (k * 28 + 4 + j * 4 + 3)) / 4 * 4) &&& 31))))]) [0] C (c_X5_get l g a0 n f k j 1 (by omega)) gX5_effects_X5_get rfl rfl rfl hd_X5_get ⟨Nat.le_of_ble_eq_true rfl, Nat.le_of_ble_eq_true rfl⟩ rfl rfl dX5_effects_105 rfl (Nat.le_of_ble_eq_true rfl) ⟨Nat.le_of_ble_eq_true rfl, Nat.le_of_ble_eq_true rfl⟩) ?_
              refine j_sipush (v := 1000) C dX5_effects_108 rfl ?_
              refine j_isub (x := f (k * 28 + 4 + j * 4 + 1)) (y := 1000) (v := (f (k * 28 + 4 + j * 4 + 1)) - 1000) C dX5_effects_111 rfl ?_
              refine j_ishl (x := 16) (y := (f (k * 28 + 4 + j * 4 + 1)) - 1000) (v := (16 : Int32) <<< (((f (k * 28 + 4 + j * 4 + 1)) - 1000) &&& 31)) C dX5_effects_112 rfl ?_
              refine j_ior (x := (acc ||| ((1 : Int32) <<< (((f (k * 28 + 4 + j * 4 + 3)) - (f (k * 28 + 4 + j * 4 + 3)) / 4 * 4) &&& 31))) ||| ((16 : Int32) * ((1 : Int32) <<< (((f (k * 28 + 4 + j * 4 + 3)) - (f (k * 28 + 4 + j * 4 + 3)) / 4 * 4) &&& 31)))) (y := (16 : Int32) <<< (((f (k * 28 + 4 + j * 4 + 1)) - 1000) &&& 31)) (v := ((acc ||| ((1 : Int32) <<< (((f (k * 28 + 4 + j * 4 + 3)) - (f (k * 28 + 4 + j * 4 + 3)) / 4 * 4) &&& 31))) ||| ((16 : Int32) * ((1 : Int32) <<< (((f (k * 28 + 4 + j * 4 + 3)) - (f (k * 28 + 4 + j * 4 + 3)) / 4 * 4) &&& 31)))) ||| ((16 : Int32) <<< (((f (k * 28 + 4 + j * 4 + 1)) - 1000) &&& 31))) C dX5_effects_113 rfl ?_
              refine j_istore (L' := [(0, .ref a0), (1, .int (nI k)), (2, .int (nI i)), (3, .int (nI e0)), (4, .int (((acc ||| ((1 : Int32) <<< (((f (k * 28 + 4 + j * 4 + 3)) - (f (k * 28 + 4 + j * 4 + 3)) / 4 * 4) &&& 31))) ||| ((16 : Int32) * ((1 : Int32) <<< (((f (k * 28 + 4 + j * 4 + 3)) - (f (k * 28 + 4 + j * 4 + 3)) / 4 * 4) &&& 31)))) ||| ((16 : Int32) <<< (((f (k * 28 + 4 + j * 4 + 1)) - 1000) &&& 31)))), (5, .int (nI j)), (6, .int (f (k * 28 + 4 + j * 4 + 2))), (7, .int ((1 : Int32) <<< (((f (k * 28 + 4 + j * 4 + 3)) - (f (k * 28 + 4 + j * 4 + 3)) / 4 * 4) &&& 31)))]) C dX5_effects_114 (Nat.le_of_ble_eq_true rfl) rfl rfl ?_
              refine j_iinc (v := nI (j + 1)) (L' := [(0, .ref a0), (1, .int (nI k)), (2, .int (nI i)), (3, .int (nI e0)), (4, .int (((acc ||| ((1 : Int32) <<< (((f (k * 28 + 4 + j * 4 + 3)) - (f (k * 28 + 4 + j * 4 + 3)) / 4 * 4) &&& 31))) ||| ((16 : Int32) * ((1 : Int32) <<< (((f (k * 28 + 4 + j * 4 + 3)) - (f (k * 28 + 4 + j * 4 + 3)) / 4 * 4) &&& 31)))) ||| ((16 : Int32) <<< (((f (k * 28 + 4 + j * 4 + 1)) - 1000) &&& 31)))), (5, .int (nI (j + 1))), (6, .int (f (k * 28 + 4 + j * 4 + 2))), (7, .int ((1 : Int32) <<< (((f (k * 28 + 4 + j * 4 + 3)) - (f (k * 28 + 4 + j * 4 + 3)) / 4 * 4) &&& 31)))]) 5 C dX5_effects_116 rfl (nI_add j 1) (Nat.le_of_ble_eq_true rfl) rfl rfl ?_
              refine j_goto (tgt := 6) C dX5_effects_119 (by decide) ?_
              refine j_pick (L' := [(0, .ref a0), (1, .int (nI k)), (2, .int (nI i)), (3, .int (nI e0)), (4, .int (((acc ||| ((1 : Int32) <<< (((f (k * 28 + 4 + j * 4 + 3)) - (f (k * 28 + 4 + j * 4 + 3)) / 4 * 4) &&& 31))) ||| ((16 : Int32) * ((1 : Int32) <<< (((f (k * 28 + 4 + j * 4 + 3)) - (f (k * 28 + 4 + j * 4 + 3)) / 4 * 4) &&& 31)))) ||| ((16 : Int32) <<< (((f (k * 28 + 4 + j * 4 + 1)) - 1000) &&& 31)))), (5, .int (nI (j + 1)))]) [0, 1, 2, 3, 4, 5] rfl ?_
              exact ih_1 (j + 1, ((acc ||| ((1 : Int32) <<< (((f (k * 28 + 4 + j * 4 + 3)) - (f (k * 28 + 4 + j * 4 + 3)) / 4 * 4) &&& 31))) ||| ((16 : Int32) * ((1 : Int32) <<< (((f (k * 28 + 4 + j * 4 + 3)) - (f (k * 28 + 4 + j * 4 + 3)) / 4 * 4) &&& 31)))) ||| ((16 : Int32) <<< (((f (k * 28 + 4 + j * 4 + 1)) - 1000) &&& 31))) ⟨(by omega), (by omega), (by first | contradiction | (rw [← hI2, show e0 - j = (e0 - (j + 1)) + 1 by omega, jEf_s]; simp only [jE1, jE2, jE3, jBit]; repeat (first | rw [if_pos (by assumption)] | rw [if_neg (by assumption)])))⟩ (show e0 - (j + 1) < e0 - j from by omega)
set_option maxHeartbeats 4000000 in
set_option maxRecDepth 100000 in
theorem c_X5_areApart (l : Launch) (g : jG) (x y : Int32)  : jRi l yX5_areApart wsX5_areApart ({ frames := 0, cells := 0, slots := 0, locals := 0 }) g [.int x, .int y] [] (jb (jApt x y)) := by
  refine j_enterR (cc := cX5_areApart) (maxL := 2) (ret := (some .boolean)) (own := RX5) (L := [(0, .int x), (1, .int y)]) (by decide) rfl rfl (Nat.le_of_ble_eq_true rfl) rfl (fun p e s m args below meth c C hr => ?_)
  refine j_iload_n 0 C dX5_areApart_0 rfl rfl ?_
  refine j_bipush (v := 15) C dX5_areApart_1 rfl ?_
  refine j_iand (x := x) (y := 15) (v := x &&& 15) C dX5_areApart_3 rfl ?_
  refine j_iload_n 1 C dX5_areApart_4 rfl rfl ?_
  refine j_iload_n 1 C dX5_areApart_5 rfl rfl ?_
  refine j_iconst (v := 4) C dX5_areApart_6 rfl ?_
  refine j_ishr (x := y) (y := 4) (v := y >>> ((4 : Int32) &&& 31)) C dX5_areApart_7 rfl ?_
  refine j_ior (x := y) (y := y >>> ((4 : Int32) &&& 31)) (v := y ||| (y >>> ((4 : Int32) &&& 31))) C dX5_areApart_8 rfl ?_
  refine j_iand (x := x &&& 15) (y := y ||| (y >>> ((4 : Int32) &&& 31))) (v := (x &&& 15) &&& (y ||| (y >>> ((4 : Int32) &&& 31)))) C dX5_areApart_9 rfl ?_
  refine j_if_ne (tgt := 30) C dX5_areApart_10 (by decide) (fun c_1 => ?_) (fun c_1 => ?_)
  · skip
    refine j_iconst (v := 0) C dX5_areApart_30 rfl ?_
    exact j_zretR (v := 0) C hr dX5_areApart_31 rfl (by first | (rw [jApt, decide_eq_false (by assumption)]; rfl) | (rw [jApt, decide_eq_true (by assumption), decide_eq_false (by assumption)]; rfl) | (rw [jApt, decide_eq_true (by assumption), decide_eq_true (by assumption)]; rfl))
  · skip
    refine j_iload_n 1 C dX5_areApart_13 rfl rfl ?_
    refine j_bipush (v := 15) C dX5_areApart_14 rfl ?_
    refine j_iand (x := y) (y := 15) (v := y &&& 15) C dX5_areApart_16 rfl ?_
    refine j_iload_n 0 C dX5_areApart_17 rfl rfl ?_
    refine j_iload_n 0 C dX5_areApart_18 rfl rfl ?_
    refine j_iconst (v := 4) C dX5_areApart_19 rfl ?_
    refine j_ishr (x := x) (y := 4) (v := x >>> ((4 : Int32) &&& 31)) C dX5_areApart_20 rfl ?_
    refine j_ior (x := x) (y := x >>> ((4 : Int32) &&& 31)) (v := x ||| (x >>> ((4 : Int32) &&& 31))) C dX5_areApart_21 rfl ?_
    refine j_iand (x := y &&& 15) (y := x ||| (x >>> ((4 : Int32) &&& 31))) (v := (y &&& 15) &&& (x ||| (x >>> ((4 : Int32) &&& 31)))) C dX5_areApart_22 rfl ?_
    refine j_if_ne (tgt := 30) C dX5_areApart_23 (by decide) (fun c_2 => ?_) (fun c_2 => ?_)
    · skip
      refine j_iconst (v := 0) C dX5_areApart_30 rfl ?_
      exact j_zretR (v := 0) C hr dX5_areApart_31 rfl (by first | (rw [jApt, decide_eq_false (by assumption)]; rfl) | (rw [jApt, decide_eq_true (by assumption), decide_eq_false (by assumption)]; rfl) | (rw [jApt, decide_eq_true (by assumption), decide_eq_true (by assumption)]; rfl))
    · skip
      refine j_iconst (v := 1) C dX5_areApart_26 rfl ?_
      refine j_goto (tgt := 31) C dX5_areApart_27 (by decide) ?_
      exact j_zretR (v := 1) C hr dX5_areApart_31 rfl (by first | (rw [jApt, decide_eq_false (by assumption)]; rfl) | (rw [jApt, decide_eq_true (by assumption), decide_eq_false (by assumption)]; rfl) | (rw [jApt, decide_eq_true (by assumption), decide_eq_true (by assumption)]; rfl))
set_option maxHeartbeats 4000000 in
set_option maxRecDepth 100000 in
theorem c_X5_areApart_ (l : Launch) (g : jG) (a0 n : Nat) (f : Nat → Int32) (k o0 a b : Nat) (hk : k < 8) (ho : o0 < 8) (ha : f (k * 28 + 3) = nI a) (ha6 : a ≤ 6) (hb : f (o0 * 28 + 3) = nI b) (hb6 : b ≤ 6) : jRi l yX5_areApart_ wsX5_areApart_ ({ frames := 4, cells := 0, slots := 0, locals := 91 }) g [.ref a0, .int (nI k), .int (nI o0)] [(a0, jaI g 253 (jrw n f))] (jb (jApt (jEf f k (a - 0) 0 0) (jEf f o0 (b - 0) 0 0))) := by
  refine j_enterR (cc := cX5_areApart_) (maxL := 3) (ret := (some .boolean)) (own := RX5) (L := [(0, .ref a0), (1, .int (nI k)), (2, .int (nI o0))]) (by decide) rfl rfl (Nat.le_of_ble_eq_true rfl) rfl (fun p e s m args below meth c C hr => ?_)
  refine j_aload_n 0 C dX5_areApart__0 rfl rfl ?_
  refine j_iload_n 1 C dX5_areApart__1 rfl rfl ?_
  refine j_iconst (v := 0) C dX5_areApart__2 rfl ?_
  refine j_aload_n 0 C dX5_areApart__3 rfl rfl ?_
  refine j_iload_n 1 C dX5_areApart__4 rfl rfl ?_
  refine j_callRi (v := f (k * 28 + 3)) (j_runS (As := [.ref a0, .int (nI k)]) (rest := [.int 0, .int (nI k), .ref a0]) [0] C (c_X5_steps l g a0 n f k (by omega)) gX5_areApart__X5_steps rfl rfl rfl hd_X5_steps ⟨Nat.le_of_ble_eq_true rfl, Nat.le_of_ble_eq_true rfl⟩ rfl rfl dX5_areApart__5 rfl (Nat.le_of_ble_eq_true rfl) ⟨Nat.le_of_ble_eq_true rfl, Nat.le_of_ble_eq_true rfl⟩) ?_
  refine j_eq (pc' := 8) (L' := [(0, .ref a0), (1, .int (nI k)), (2, .int (nI o0))]) (st' := [.int (nI a), .int 0, .int (nI k), .ref a0]) (ws' := [(a0, jaI g 253 (jrw n f))]) ?_ rfl rfl (by rw [ha]) rfl
  refine j_callRi (v := jEf f k (a - 0) 0 0) (j_runS (As := [.ref a0, .int (nI k), .int 0, .int (nI a)]) (rest := []) [0] C (c_X5_effects l g a0 n f k 0 a (by omega) (by omega) (by omega)) gX5_areApart__X5_effects rfl rfl rfl hd_X5_effects ⟨Nat.le_of_ble_eq_true rfl, Nat.le_of_ble_eq_true rfl⟩ rfl rfl dX5_areApart__8 rfl (Nat.le_of_ble_eq_true rfl) ⟨Nat.le_of_ble_eq_true rfl, Nat.le_of_ble_eq_true rfl⟩) ?_
  refine j_aload_n 0 C dX5_areApart__11 rfl rfl ?_
  refine j_iload_n 2 C dX5_areApart__12 rfl rfl ?_
  refine j_iconst (v := 0) C dX5_areApart__13 rfl ?_
  refine j_aload_n 0 C dX5_areApart__14 rfl rfl ?_
  refine j_iload_n 2 C dX5_areApart__15 rfl rfl ?_
  refine j_callRi (v := f (o0 * 28 + 3)) (j_runS (As := [.ref a0, .int (nI o0)]) (rest := [.int 0, .int (nI o0), .ref a0, .int (jEf f k (a - 0) 0 0)]) [0] C (c_X5_steps l g a0 n f o0 (by omega)) gX5_areApart__X5_steps rfl rfl rfl hd_X5_steps ⟨Nat.le_of_ble_eq_true rfl, Nat.le_of_ble_eq_true rfl⟩ rfl rfl dX5_areApart__16 rfl (Nat.le_of_ble_eq_true rfl) ⟨Nat.le_of_ble_eq_true rfl, Nat.le_of_ble_eq_true rfl⟩) ?_
  refine j_eq (pc' := 19) (L' := [(0, .ref a0), (1, .int (nI k)), (2, .int (nI o0))]) (st' := [.int (nI b), .int 0, .int (nI o0), .ref a0, .int (jEf f k (a - 0) 0 0)]) (ws' := [(a0, jaI g 253 (jrw n f))]) ?_ rfl rfl (by rw [hb]) rfl
  refine j_callRi (v := jEf f o0 (b - 0) 0 0) (j_runS (As := [.ref a0, .int (nI o0), .int 0, .int (nI b)]) (rest := [.int (jEf f k (a - 0) 0 0)]) [0] C (c_X5_effects l g a0 n f o0 0 b (by omega) (by omega) (by omega)) gX5_areApart__X5_effects rfl rfl rfl hd_X5_effects ⟨Nat.le_of_ble_eq_true rfl, Nat.le_of_ble_eq_true rfl⟩ rfl rfl dX5_areApart__19 rfl (Nat.le_of_ble_eq_true rfl) ⟨Nat.le_of_ble_eq_true rfl, Nat.le_of_ble_eq_true rfl⟩) ?_
  refine j_callRi (v := jb (jApt (jEf f k (a - 0) 0 0) (jEf f o0 (b - 0) 0 0))) (j_runS (As := [.int (jEf f k (a - 0) 0 0), .int (jEf f o0 (b - 0) 0 0)]) (rest := []) [] C (c_X5_areApart l g (jEf f k (a - 0) 0 0) (jEf f o0 (b - 0) 0 0)) gX5_areApart__X5_areApart rfl rfl rfl hd_X5_areApart ⟨Nat.le_of_ble_eq_true rfl, Nat.le_of_ble_eq_true rfl⟩ rfl rfl dX5_areApart__22 rfl (Nat.le_of_ble_eq_true rfl) ⟨Nat.le_of_ble_eq_true rfl, Nat.le_of_ble_eq_true rfl⟩) ?_
  exact j_zretR (v := jb (jApt (jEf f k (a - 0) 0 0) (jEf f o0 (b - 0) 0 0))) C hr dX5_areApart__25 (jb_n (jApt (jEf f k (a - 0) 0 0) (jEf f o0 (b - 0) 0 0))) rfl
