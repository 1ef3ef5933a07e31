theorem hd_X4_firstToJoin : yX4_firstToJoin.cls = RX4 ∧ yX4_firstToJoin.cls ≠ "java/lang/invoke/MethodHandle" ∧ yX4_firstToJoin.cls ≠ "java/lang/invoke/VarHandle" ∧ (parseMethodDescriptor yX4_firstToJoin.desc).map (fun d => d.parameters.length) = some 1 := by decide +kernel
set_option maxHeartbeats 4000000 in
set_option maxRecDepth 100000 in
theorem c_X4_firstToJoin_t (l : Launch) (g : jG) (q ca n : Nat) (f : Nat → Int32) (hEq : jEqJ) (hok : jOk n f) (hF : jFj f (n - 1) 0 + 1 < n) : jRi l yX4_firstToJoin wsX4_firstToJoin ({ frames := 6, cells := 0, slots := 0, locals := 250 }) g [.ref q] [(q, .inr (1, [.ref ca, .int (nI n)])), (ca, jaI g 224 f)] (nI (jFj f (n - 1) 0)) := by
  refine j_enterR (cc := cX4_firstToJoin) (maxL := 2) (ret := (some .int)) (own := RX4) (L := [(0, .ref q)]) (by decide) rfl rfl (Nat.le_of_ble_eq_true rfl) rfl (fun p e s m args below meth c C hr => ?_)
  have hn8 := hok.1
  refine j_iconst (v := 0) C dX4_firstToJoin_0 rfl ?_
  refine j_istore_n (L' := [(0, .ref q), (1, .int 0)]) C dX4_firstToJoin_1 rfl (Nat.le_of_ble_eq_true rfl) rfl rfl ?_
  refine j_loop (σ := Nat) (fun (k : Nat) => [(0, .ref q), (1, .int (nI k))]) (fun (k : Nat) => [(q, .inr (1, [.ref ca, .int (nI n)])), (ca, jaI g 224 f)]) (fun (k : Nat) => (k ≤ 8) ∧ (jFj f (n - 1 - k) k = jFj f (n - 1) 0)) (fun (k : Nat) => 8 - k) (fun x_ hi_2 ih_1 => ?_) 0 ⟨(by omega), rfl⟩ rfl rfl
  obtain ⟨k, hx_⟩ : ∃ z, z = x_ := ⟨_, rfl⟩
  subst hx_
  obtain ⟨hI0, hI1⟩ := (show (k ≤ 8) ∧ (jFj f (n - 1 - k) k = jFj f (n - 1) 0) from hi_2)
  refine j_eq (pc' := 2) (L' := [(0, .ref q), (1, .int (nI k))]) (st' := []) (ws' := [(q, .inr (1, [.ref ca, .int (nI n)])), (ca, jaI g 224 f)]) ?_ rfl rfl rfl rfl
  refine j_iload_n 1 C dX4_firstToJoin_2 rfl rfl ?_
  refine j_aload_n 0 C dX4_firstToJoin_3 rfl rfl ?_
  refine j_callRi (v := nI n) (j_runV (ci := 0) (As := []) (rest := [.int (nI k)]) [0, 1] C (c_X1_countLoops l g q ca (nI n) f) gX4_firstToJoin_X1_countLoops rfl rfl rfl hd_X1_countLoops ⟨Nat.le_of_ble_eq_true rfl, Nat.le_of_ble_eq_true rfl⟩ rfl rfl rfl rfl dX4_firstToJoin_4 rfl (Nat.le_of_ble_eq_true rfl) ⟨Nat.le_of_ble_eq_true rfl, Nat.le_of_ble_eq_true rfl⟩) ?_
  refine j_iconst (v := 1) C dX4_firstToJoin_7 rfl ?_
  refine j_isub (x := nI n) (y := 1) (v := nI n - 1) C dX4_firstToJoin_8 rfl ?_
  refine j_icmp_ge (tgt := 28) C dX4_firstToJoin_9 (by decide) (fun c_3 => ?_) (fun c_3 => ?_)
  · skip
    have c_3 : n ≤ k + 1 := (jm_le (by omega) (by omega)).mp c_3
    refine j_iconst (v := -1) C dX4_firstToJoin_28 rfl ?_
    exact j_iretR (v := -1) C hr dX4_firstToJoin_29 (by have hk1 : n ≤ jFj f (n - 1) 0 + 1 := (by rw [← hI1, show n - 1 - k = 0 by omega]; show n ≤ k + 1; omega); omega)
  · skip
    have c_3 : ¬ n ≤ k + 1 := fun z => c_3 ((jm_le (by omega) (by omega)).mpr z)
    obtain ⟨-, -, a, -, -, ha6, -, -, -, ha, -⟩ := hok.2 k (by omega)
    obtain ⟨-, -, b, -, -, hb6, -, -, -, hb, -⟩ := hok.2 (k + 1) (by omega)
    have hW := jWy_of ha ha6 hb hb6
    have hE := hEq n f hok k a b (by omega) ha ha6 hb hb6
    have hFs : jFj f (n - 1 - k) k = if jWy f k = 0 then k else jFj f (n - 1 - (k + 1)) (k + 1) := by rw [show n - 1 - k = (n - 1 - (k + 1)) + 1 by omega, jFj_s]
    refine j_aload_n 0 C dX4_firstToJoin_12 rfl rfl ?_
    refine j_iload_n 1 C dX4_firstToJoin_13 rfl rfl ?_
    refine j_callRi (v := jAJ f k a b) (j_runSC (As := [.ref q, .int (nI k)]) (rest := []) [0, 1] C (c_X2_againstJoin l g q ca (nI n) f k a b (by omega) ha (by omega) hb (by omega)) gX4_firstToJoin_X2_againstJoin rfl rfl rfl hd_X2_againstJoin.2 ⟨Nat.le_of_ble_eq_true rfl, Nat.le_of_ble_eq_true rfl⟩ rfl rfl dX4_firstToJoin_14 rfl (Nat.le_of_ble_eq_true rfl) ⟨Nat.le_of_ble_eq_true rfl, Nat.le_of_ble_eq_true rfl⟩) ?_
    refine j_if_ne (tgt := 22) C dX4_firstToJoin_17 (by decide) (fun c_4 => ?_) (fun c_4 => ?_)
    · skip
      refine j_iinc (v := nI (k + 1)) (L' := [(0, .ref q), (1, .int (nI (k + 1)))]) 1 C dX4_firstToJoin_22 rfl (nI_add k 1) (Nat.le_of_ble_eq_true rfl) rfl rfl ?_
      refine j_goto (tgt := 2) C dX4_firstToJoin_25 (by decide) ?_
      exact ih_1 (k + 1) ⟨(by omega), (by rw [← hI1, hFs, hW, ← hE, if_neg (by assumption)])⟩ (show 8 - (k + 1) < 8 - k from by omega)
    · skip
      refine j_iload_n 1 C dX4_firstToJoin_20 rfl rfl ?_
      exact j_iretR (v := nI k) C hr dX4_firstToJoin_21 (by have hk0 : jFj f (n - 1) 0 = k := (by rw [← hI1, hFs, hW, ← hE, if_pos (by assumption)]); rw [hk0])
set_option maxHeartbeats 4000000 in
set_option maxRecDepth 100000 in
theorem c_X4_firstToJoin_f (l : Launch) (g : jG) (q ca n : Nat) (f : Nat → Int32) (hEq : jEqJ) (hok : jOk n f) (hF : n ≤ jFj f (n - 1) 0 + 1) : jRi l yX4_firstToJoin wsX4_firstToJoin ({ frames := 6, cells := 0, slots := 0, locals := 250 }) g [.ref q] [(q, .inr (1, [.ref ca, .int (nI n)])), (ca, jaI g 224 f)] (-1) := by
  refine j_enterR (cc := cX4_firstToJoin) (maxL := 2) (ret := (some .int)) (own := RX4) (L := [(0, .ref q)]) (by decide) rfl rfl (Nat.le_of_ble_eq_true rfl) rfl (fun p e s m args below meth c C hr => ?_)
  have hn8 := hok.1
  refine j_iconst (v := 0) C dX4_firstToJoin_0 rfl ?_
  refine j_istore_n (L' := [(0, .ref q), (1, .int 0)]) C dX4_firstToJoin_1 rfl (Nat.le_of_ble_eq_true rfl) rfl rfl ?_
  refine j_loop (σ := Nat) (fun (k : Nat) => [(0, .ref q), (1, .int (nI k))]) (fun (k : Nat) => [(q, .inr (1, [.ref ca, .int (nI n)])), (ca, jaI g 224 f)]) (fun (k : Nat) => (k ≤ 8) ∧ (jFj f (n - 1 - k) k = jFj f (n - 1) 0)) (fun (k : Nat) => 8 - k) (fun x_ hi_2 ih_1 => ?_) 0 ⟨(by omega), rfl⟩ rfl rfl
  obtain ⟨k, hx_⟩ : ∃ z, z = x_ := ⟨_, rfl⟩
  subst hx_
  obtain ⟨hI0, hI1⟩ := (show (k ≤ 8) ∧ (jFj f (n - 1 - k) k = jFj f (n - 1) 0) from hi_2)
  refine j_eq (pc' := 2) (L' := [(0, .ref q), (1, .int (nI k))]) (st' := []) (ws' := [(q, .inr (1, [.ref ca, .int (nI n)])), (ca, jaI g 224 f)]) ?_ rfl rfl rfl rfl
  refine j_iload_n 1 C dX4_firstToJoin_2 rfl rfl ?_
  refine j_aload_n 0 C dX4_firstToJoin_3 rfl rfl ?_
  refine j_callRi (v := nI n) (j_runV (ci := 0) (As := []) (rest := [.int (nI k)]) [0, 1] C (c_X1_countLoops l g q ca (nI n) f) gX4_firstToJoin_X1_countLoops rfl rfl rfl hd_X1_countLoops ⟨Nat.le_of_ble_eq_true rfl, Nat.le_of_ble_eq_true rfl⟩ rfl rfl rfl rfl dX4_firstToJoin_4 rfl (Nat.le_of_ble_eq_true rfl) ⟨Nat.le_of_ble_eq_true rfl, Nat.le_of_ble_eq_true rfl⟩) ?_
  refine j_iconst (v := 1) C dX4_firstToJoin_7 rfl ?_
  refine j_isub (x := nI n) (y := 1) (v := nI n - 1) C dX4_firstToJoin_8 rfl ?_
  refine j_icmp_ge (tgt := 28) C dX4_firstToJoin_9 (by decide) (fun c_3 => ?_) (fun c_3 => ?_)
  · skip
    have c_3 : n ≤ k + 1 := (jm_le (by omega) (by omega)).mp c_3
    refine j_iconst (v := -1) C dX4_firstToJoin_28 rfl ?_
    exact j_iretR (v := -1) C hr dX4_firstToJoin_29 rfl
  · skip
    have c_3 : ¬ n ≤ k + 1 := fun z => c_3 ((jm_le (by omega) (by omega)).mpr z)
    obtain ⟨-, -, a, -, -, ha6, -, -, -, ha, -⟩ := hok.2 k (by omega)
    obtain ⟨-, -, b, -, -, hb6, -, -, -, hb, -⟩ := hok.2 (k + 1) (by omega)
    have hW := jWy_of ha ha6 hb hb6
    have hE := hEq n f hok k a b (by omega) ha ha6 hb hb6
    have hFs : jFj f (n - 1 - k) k = if jWy f k = 0 then k else jFj f (n - 1 - (k + 1)) (k + 1) := by rw [show n - 1 - k = (n - 1 - (k + 1)) + 1 by omega, jFj_s]
    refine j_aload_n 0 C dX4_firstToJoin_12 rfl rfl ?_
    refine j_iload_n 1 C dX4_firstToJoin_13 rfl rfl ?_
    refine j_callRi (v := jAJ f k a b) (j_runSC (As := [.ref q, .int (nI k)]) (rest := []) [0, 1] C (c_X2_againstJoin l g q ca (nI n) f k a b (by omega) ha (by omega) hb (by omega)) gX4_firstToJoin_X2_againstJoin rfl rfl rfl hd_X2_againstJoin.2 ⟨Nat.le_of_ble_eq_true rfl, Nat.le_of_ble_eq_true rfl⟩ rfl rfl dX4_firstToJoin_14 rfl (Nat.le_of_ble_eq_true rfl) ⟨Nat.le_of_ble_eq_true rfl, Nat.le_of_ble_eq_true rfl⟩) ?_
    refine j_if_ne (tgt := 22) C dX4_firstToJoin_17 (by decide) (fun c_4 => ?_) (fun c_4 => ?_)
    · skip
      refine j_iinc (v := nI (k + 1)) (L' := [(0, .ref q), (1, .int (nI (k + 1)))]) 1 C dX4_firstToJoin_22 rfl (nI_add k 1) (Nat.le_of_ble_eq_true rfl) rfl rfl ?_
      refine j_goto (tgt := 2) C dX4_firstToJoin_25 (by decide) ?_
      exact ih_1 (k + 1) ⟨(by omega), (by rw [← hI1, hFs, hW, ← hE, if_neg (by assumption)])⟩ (show 8 - (k + 1) < 8 - k from by omega)
    · skip
      refine j_iload_n 1 C dX4_firstToJoin_20 rfl rfl ?_
      exact j_iretR (v := nI k) C hr dX4_firstToJoin_21 (by have hk0 : jFj f (n - 1) 0 = k := (by rw [← hI1, hFs, hW, ← hE, if_pos (by assumption)]); omega)
set_option maxHeartbeats 4000000 in
set_option maxRecDepth 100000 in
theorem c_X4_joinAll_p (l : Launch) (g : jG) (hst9 : l.stackTraces = false) (x0 mp N rp : Nat) (rl : Int32) (lt p1 p2 cz : Nat) (T : Nat → Option Nat) (x : Int32) (hx : jBt x 0 (nI N - 1) = false) (hN : N ≤ 10) (hT : ∀ i, N ≤ i → T i = none) : jXt l yX4_joinAll wsX4_joinAll ({ frames := 8, cells := 1, slots := 6, locals := 142 }) g [.ref x0, .int x] [(x0, .inr (3, [.ref mp, .int (nI N), .ref rp, .int rl, .ref lt, .ref p1, .ref p2, .ref cz])), (mp, jaP g 10 T)] "java/lang/IndexOutOfBoundsException" := by
  refine j_enterX (XC := fun sz_ => jXC g [(x0, .inr (3, [.ref mp, .int (nI N), .ref rp, .int rl, .ref lt, .ref p1, .ref p2, .ref cz])), (mp, jaP g 10 T)] "java/lang/IndexOutOfBoundsException" (va_A [(x0, .inr (3, [.ref mp, .int (nI N), .ref rp, .int rl, .ref lt, .ref p1, .ref p2, .ref cz])), (mp, jaP g 10 T)] sz_)) (mc := 1) (ms := 6) (cc := cX4_joinAll) (maxL := 5) (ret := (some .int)) (own := RX4) (L := [(0, .ref x0), (1, .int x)]) (by decide) rfl rfl (Nat.le_of_ble_eq_true rfl) rfl (fun p e s m args below meth c C ht9 hX hZ => ?_)
  refine j_aload_n 0 C dX4_joinAll_0 rfl rfl ?_
  refine j_iload_n 1 C dX4_joinAll_1 rfl rfl ?_
  exact j_xV (ci := 0) (As := [.int x]) (rest := []) [0, 1] C hX hZ ht9 (c_X4_programAt_x l g hst9 x0 mp N rp rl lt p1 p2 cz T x (by omega) (by omega) hT) gX4_joinAll_X4_programAt rfl rfl rfl hd_X4_programAt ⟨Nat.le_of_ble_eq_true rfl, Nat.le_of_ble_eq_true rfl⟩ rfl rfl rfl rfl rfl dX4_joinAll_2 rfl (Nat.le_of_ble_eq_true rfl) ⟨Nat.le_of_ble_eq_true rfl, Nat.le_of_ble_eq_true rfl⟩
set_option maxHeartbeats 4000000 in
set_option maxRecDepth 100000 in
theorem c_X4_joinAll (l : Launch) (g : jG) (x0 mp N rp : Nat) (rl : Int32) (lt p1 p2 cz : Nat) (T : Nat → Option Nat) (k : Nat) (q ca n : Nat) (f : Nat → Int32) (hk : k < N) (hN : N ≤ 10) (hq : T k = some q) (hEq : jEqJ) (hok : jOk n f) : jWi l yX4_joinAll wsX4_joinAll ({ frames := 7, cells := 0, slots := 0, locals := 271 }) g [.ref x0, .int (nI k)] [(x0, .inr (3, [.ref mp, .int (nI N), .ref rp, .int rl, .ref lt, .ref p1, .ref p2, .ref cz])), (mp, jaP g 10 T), (q, .inr (1, [.ref ca, .int (nI n)])), (ca, jaI g 224 f)] [(x0, .inr (3, [.ref mp, .int (nI N), .ref rp, .int rl, .ref lt, .ref p1, .ref p2, .ref cz])), (mp, jaP g 10 T), (q, .inr (1, [.ref ca, .int (nI ((jJA 8 0 (n, f)).2.1))])), (ca, jaI g 224 ((jJA 8 0 (n, f)).2.2))] (nI ((jJA 8 0 (n, f)).1)) := by
  refine j_enterW (Qc := fun sz_ => va_Qi (fun r (_ : Unit) => r = nI ((jJA 8 0 (n, f)).1)) (fun _ t => va_P g.1 vwCl [(x0, .inr (3, [.ref mp, .int (nI N), .ref rp, .int rl, .ref lt, .ref p1, .ref p2, .ref cz])), (mp, jaP g 10 T), (q, .inr (1, [.ref ca, .int (nI ((jJA 8 0 (n, f)).2.1))])), (ca, jaI g 224 ((jJA 8 0 (n, f)).2.2))] t.heap) (va_A [(x0, .inr (3, [.ref mp, .int (nI N), .ref rp, .int rl, .ref lt, .ref p1, .ref p2, .ref cz])), (mp, jaP g 10 T), (q, .inr (1, [.ref ca, .int (nI n)])), (ca, jaI g 224 f)] sz_)) (cc := cX4_joinAll) (maxL := 5) (ret := (some .int)) (own := RX4) (L := [(0, .ref x0), (1, .int (nI k))]) (by decide) rfl rfl (Nat.le_of_ble_eq_true rfl) rfl (fun p e s m args below meth c C hr => ?_)
  refine j_aload_n 0 C dX4_joinAll_0 rfl rfl ?_
  refine j_iload_n 1 C dX4_joinAll_1 rfl rfl ?_
  refine j_callRr (v := q) (j_runV (ci := 0) (As := [.int (nI k)]) (rest := []) [0, 1] C (c_X4_programAt l g x0 mp N rp rl lt p1 p2 cz T k q (by omega) (by omega) hq) gX4_joinAll_X4_programAt rfl rfl rfl hd_X4_programAt ⟨Nat.le_of_ble_eq_true rfl, Nat.le_of_ble_eq_true rfl⟩ rfl rfl rfl rfl dX4_joinAll_2 rfl (Nat.le_of_ble_eq_true rfl) ⟨Nat.le_of_ble_eq_true rfl, Nat.le_of_ble_eq_true rfl⟩) ?_
  refine j_astore_n (L' := [(0, .ref x0), (1, .int (nI k)), (2, .ref q)]) C dX4_joinAll_5 rfl (Nat.le_of_ble_eq_true rfl) rfl rfl ?_
  refine j_iconst (v := 0) C dX4_joinAll_6 rfl ?_
  refine j_istore_n (L' := [(0, .ref x0), (1, .int (nI k)), (2, .ref q), (3, .int 0)]) C dX4_joinAll_7 rfl (Nat.le_of_ble_eq_true rfl) rfl rfl ?_
  refine j_pick (L' := [(0, .ref x0), (1, .int (nI k)), (2, .ref q), (3, .int 0)]) [0, 1, 2, 3] rfl ?_
  refine j_loop (σ := Nat × Nat × (Nat → Int32)) (fun (x9_ : Nat × Nat × (Nat → Int32)) => match x9_ with | (p0, n1, f1) => [(0, .ref x0), (1, .int (nI k)), (2, .ref q), (3, .int (nI p0))]) (fun (x9_ : Nat × Nat × (Nat → Int32)) => match x9_ with | (p0, n1, f1) => [(x0, .inr (3, [.ref mp, .int (nI N), .ref rp, .int rl, .ref lt, .ref p1, .ref p2, .ref cz])), (mp, jaP g 10 T), (q, .inr (1, [.ref ca, .int (nI n1)])), (ca, jaI g 224 f1)]) (fun (x9_ : Nat × Nat × (Nat → Int32)) => match x9_ with | (p0, n1, f1) => (jOk n1 f1) ∧ (n1 + p0 = n ∧ n ≤ 8 ∧ (p0 = 0 ∨ 1 ≤ n1)) ∧ (jJA (8 - p0) p0 (n1, f1) = jJA 8 0 (n, f))) (fun (x9_ : Nat × Nat × (Nat → Int32)) => match x9_ with | (p0, n1, f1) => n1) (fun x_ hi_2 ih_1 => ?_) (0, n, f) ⟨hok, (⟨rfl, hok.1, Or.inl rfl⟩), rfl⟩ rfl rfl
  obtain ⟨p0, n1, f1⟩ := x_
  obtain ⟨hJ0, hJ1, hJ2⟩ := (show (jOk n1 f1) ∧ (n1 + p0 = n ∧ n ≤ 8 ∧ (p0 = 0 ∨ 1 ≤ n1)) ∧ (jJA (8 - p0) p0 (n1, f1) = jJA 8 0 (n, f)) from hi_2)
  refine j_eq (pc' := 8) (L' := [(0, .ref x0), (1, .int (nI k)), (2, .ref q), (3, .int (nI p0))]) (st' := []) (ws' := [(x0, .inr (3, [.ref mp, .int (nI N), .ref rp, .int rl, .ref lt, .ref p1, .ref p2, .ref cz])), (mp, jaP g 10 T), (q, .inr (1, [.ref ca, .int (nI n1)])), (ca, jaI g 224 f1)]) ?_ rfl rfl rfl rfl
  refine j_iload_n 3 C dX4_joinAll_8 rfl rfl ?_
  refine j_bipush (v := 8) C dX4_joinAll_9 rfl ?_
  refine j_icmp_ge (tgt := 39) C dX4_joinAll_11 (by decide) (fun c_3 => ?_) (fun c_3 => ?_)
  · skip
    have c_3 : 8 ≤ p0 := (nI_leI (a := 8) (b := p0) (by omega) (by omega)).mp c_3
    exact absurd c_3 (by omega)
  · skip
    have c_3 : ¬ 8 ≤ p0 := fun z => c_3 ((nI_leI (a := 8) (b := p0) (by omega) (by omega)).mpr z)
    by_cases hF : jFj f1 (n1 - 1) 0 + 1 < n1
    · skip
      refine j_aload_n 2 C dX4_joinAll_14 rfl rfl ?_
      refine j_callRi (v := nI (jFj f1 (n1 - 1) 0)) (j_runS (As := [.ref q]) (rest := []) [2, 3] C (c_X4_firstToJoin_t l g q ca n1 f1 (by omega) (by omega) (by omega)) gX4_joinAll_X4_firstToJoin rfl rfl rfl hd_X4_firstToJoin ⟨Nat.le_of_ble_eq_true rfl, Nat.le_of_ble_eq_true rfl⟩ rfl rfl dX4_joinAll_15 rfl (Nat.le_of_ble_eq_true rfl) ⟨Nat.le_of_ble_eq_true rfl, Nat.le_of_ble_eq_true rfl⟩) ?_
      refine j_istore (L' := [(0, .ref x0), (1, .int (nI k)), (2, .ref q), (3, .int (nI p0)), (4, .int (nI (jFj f1 (n1 - 1) 0)))]) C dX4_joinAll_18 (Nat.le_of_ble_eq_true rfl) rfl rfl ?_
      obtain ⟨x, hx⟩ : ∃ x, x = jFj f1 (n1 - 1) 0 := ⟨_, rfl⟩
      refine j_eq (pc' := 20) (L' := [(0, .ref x0), (1, .int (nI k)), (2, .ref q), (3, .int (nI p0)), (4, .int (nI x))]) (st' := []) (ws' := [(x0, .inr (3, [.ref mp, .int (nI N), .ref rp, .int rl, .ref lt, .ref p1, .ref p2, .ref cz])), (mp, jaP g 10 T), (q, .inr (1, [.ref ca, .int (nI n1)])), (ca, jaI g 224 f1)]) ?_ rfl (by rw [hx]) rfl rfl
      rw [← hx] at hF
      obtain ⟨-, -, a, -, -, ha6, -, -, -, ha, -⟩ := hJ0.2 x (by omega)
      obtain ⟨-, -, b, -, -, hb6, -, -, -, hb, -⟩ := hJ0.2 (x + 1) (by omega)
      refine j_iload 4 C dX4_joinAll_20 rfl ?_
      refine j_if_ge (tgt := 27) C dX4_joinAll_22 (by decide) (fun c_4 => ?_) (fun c_4 => ?_)
      · skip
        have c_4 : 0 ≤ x := (nI_leI (a := 0) (b := x) (by omega) (by omega)).mp c_4
        have hp0 : p0 < 8 := by omega
        have hz : jRJ f1 x a b = 0 := jFj_z hJ0 hx hF ha ha6 hb hb6
        have hab := jRJ_ab hz
        have hA : jJA (8 - (p0 + 1)) (p0 + 1) (n1 - 1, jJn n1 f1 x a b) = jJA 8 0 (n, f) := by rw [← hJ2, show 8 - p0 = (8 - (p0 + 1)) + 1 by omega]; exact (jJA_in (by omega) hx.symm ha ha6 hb hb6).symm
        refine j_aload_n 2 C dX4_joinAll_27 rfl rfl ?_
        refine j_iload 4 C dX4_joinAll_28 rfl ?_
        refine j_callWv [2, 3] (fun _ => [(x0, .inr (3, [.ref mp, .int (nI N), .ref rp, .int rl, .ref lt, .ref p1, .ref p2, .ref cz])), (mp, jaP g 10 T), (q, .inr (1, [.ref ca, .int (nI (n1 - 1))])), (ca, jaI g 224 (jRm (upd (va_cpy f1 f1 ((x + 1) * 28 + 4) (x * 28 + 4 + a * 4) (b * 4)) (x * 28 + 3) (nI (a + b))) ((x + 1) * 28) ((n1 - 1) * 28)))]) C (j_runV (ci := 2) (As := [.int (nI x)]) (rest := []) [2, 3] C (c_X1_joinWithNext l g q ca n1 f1 x a b (by omega) (by omega) ha hb (by omega)) gX4_joinAll_X1_joinWithNext rfl rfl rfl hd_X1_joinWithNext ⟨Nat.le_of_ble_eq_true rfl, Nat.le_of_ble_eq_true rfl⟩ rfl rfl rfl rfl dX4_joinAll_30 rfl (Nat.le_of_ble_eq_true rfl) ⟨Nat.le_of_ble_eq_true rfl, Nat.le_of_ble_eq_true rfl⟩) rfl (fun _ => rfl) (fun _ => rfl) (fun _ _ => ?_)
        refine j_iinc (v := nI (p0 + 1)) (L' := [(0, .ref x0), (1, .int (nI k)), (2, .ref q), (3, .int (nI (p0 + 1))), (4, .int (nI x))]) 3 C dX4_joinAll_33 rfl (nI_add p0 1) (Nat.le_of_ble_eq_true rfl) rfl rfl ?_
        refine j_goto (tgt := 8) C dX4_joinAll_36 (by decide) ?_
        refine j_pick (L' := [(0, .ref x0), (1, .int (nI k)), (2, .ref q), (3, .int (nI (p0 + 1)))]) [0, 1, 2, 3] rfl ?_
        exact ih_1 (p0 + 1, n1 - 1, jRm (upd (va_cpy f1 f1 ((x + 1) * 28 + 4) (x * 28 + 4 + a * 4) (b * 4)) (x * 28 + 3) (nI (a + b))) ((x + 1) * 28) ((n1 - 1) * 28)) ⟨(jJn_ok hJ0 (by omega) ha hb hab), (by omega), hA⟩ (show (n1 - 1) < n1 from by omega)
      · skip
        have c_4 : ¬ 0 ≤ x := fun z => c_4 ((nI_leI (a := 0) (b := x) (by omega) (by omega)).mpr z)
        exact absurd c_4 (by omega)
    · skip
      have hA := jJA_out (m := 8 - p0) (q := p0) (show n1 ≤ jFj f1 (n1 - 1) 0 + 1 by omega)
      refine j_aload_n 2 C dX4_joinAll_14 rfl rfl ?_
      refine j_callRi (v := -1) (j_runS (As := [.ref q]) (rest := []) [2, 3] C (c_X4_firstToJoin_f l g q ca n1 f1 (by omega) (by omega) (by omega)) gX4_joinAll_X4_firstToJoin rfl rfl rfl hd_X4_firstToJoin ⟨Nat.le_of_ble_eq_true rfl, Nat.le_of_ble_eq_true rfl⟩ rfl rfl dX4_joinAll_15 rfl (Nat.le_of_ble_eq_true rfl) ⟨Nat.le_of_ble_eq_true rfl, Nat.le_of_ble_eq_true rfl⟩) ?_
      refine j_istore (L' := [(0, .ref x0), (1, .int (nI k)), (2, .ref q), (3, .int (nI p0)), (4, .int (-1))]) C dX4_joinAll_18 (Nat.le_of_ble_eq_true rfl) rfl rfl ?_
      refine j_iload 4 C dX4_joinAll_20 rfl ?_
      refine j_if_ge (tgt := 27) C dX4_joinAll_22 (by decide) (fun c_5 => ?_) (fun c_5 => ?_)
      · skip
        (first | exact absurd c_5 (by decide) | exact absurd c_5 (by omega) | simp_all)
      · skip
        refine j_iload_n 3 C dX4_joinAll_25 rfl rfl ?_
        exact j_iretW (v := nI p0) C hr dX4_joinAll_26 () (by rw [← hJ2, hA]) (by rw [← hJ2, hA])
