set_option maxRecDepth 100000 in
theorem hin_X1_stripAll_X1 : ∀ w ∈ u_ws RX1 TX1 2, w ∈ wsX1_stripAll := fun w h => List.mem_cons_of_mem _ (by exact List.mem_append_right _ h)
theorem hd_X1_countReachedSteps : yX1_countReachedSteps.cls = RX1 ∧ yX1_countReachedSteps.cls ≠ "java/lang/invoke/MethodHandle" ∧ yX1_countReachedSteps.cls ≠ "java/lang/invoke/VarHandle" ∧ (parseMethodDescriptor yX1_countReachedSteps.desc).map (fun d => d.parameters.length) = some 1 := by decide +kernel
theorem hd_X1_joinWithNext : yX1_joinWithNext.cls = RX1 ∧ yX1_joinWithNext.cls ≠ "java/lang/invoke/MethodHandle" ∧ yX1_joinWithNext.cls ≠ "java/lang/invoke/VarHandle" ∧ (parseMethodDescriptor yX1_joinWithNext.desc).map (fun d => d.parameters.length) = some 1 := by decide +kernel
theorem hd_X1_divideAt : yX1_divideAt.cls = RX1 ∧ yX1_divideAt.cls ≠ "java/lang/invoke/MethodHandle" ∧ yX1_divideAt.cls ≠ "java/lang/invoke/VarHandle" ∧ (parseMethodDescriptor yX1_divideAt.desc).map (fun d => d.parameters.length) = some 2 := by decide +kernel
theorem hd_X1_peelFirstPlace : yX1_peelFirstPlace.cls = RX1 ∧ yX1_peelFirstPlace.cls ≠ "java/lang/invoke/MethodHandle" ∧ yX1_peelFirstPlace.cls ≠ "java/lang/invoke/VarHandle" ∧ (parseMethodDescriptor yX1_peelFirstPlace.desc).map (fun d => d.parameters.length) = some 2 := by decide +kernel
theorem hd_X1_swapWithNext : yX1_swapWithNext.cls = RX1 ∧ yX1_swapWithNext.cls ≠ "java/lang/invoke/MethodHandle" ∧ yX1_swapWithNext.cls ≠ "java/lang/invoke/VarHandle" ∧ (parseMethodDescriptor yX1_swapWithNext.desc).map (fun d => d.parameters.length) = some 1 := by decide +kernel
theorem hd_X1_stripAll : yX1_stripAll.cls = RX1 ∧ yX1_stripAll.cls ≠ "java/lang/invoke/MethodHandle" ∧ yX1_stripAll.cls ≠ "java/lang/invoke/VarHandle" ∧ (parseMethodDescriptor yX1_stripAll.desc).map (fun d => d.parameters.length) = some 0 := by decide +kernel
set_option maxHeartbeats 4000000 in
set_option maxRecDepth 100000 in
theorem c_X1_stripAll (l : Launch) (g : jG) (q ca n : Nat) (f : Nat → Int32) (hn : n ≤ 8) (hs : ∀ k, k < n → ∃ a, a ≤ 6 ∧ f (k * 28 + 3) = nI a) : jWv l yX1_stripAll wsX1_stripAll ({ frames := 4, cells := 0, slots := 0, locals := 88 }) g [.ref q] [(q, .inr (1, [.ref ca, .int (nI n)])), (ca, jaI g 224 f)] [(q, .inr (1, [.ref ca, .int (nI ((jStrip n (n, f)).1))])), (ca, jaI g 224 ((jStrip n (n, f)).2))] := by
  refine j_enterW (Qc := fun sz_ => va_Qv (fun (_ : Unit) => True) (fun _ t => va_P g.1 vwCl [(q, .inr (1, [.ref ca, .int (nI ((jStrip n (n, f)).1))])), (ca, jaI g 224 ((jStrip n (n, f)).2))] t.heap) (va_A [(q, .inr (1, [.ref ca, .int (nI n)])), (ca, jaI g 224 f)] sz_)) (cc := cX1_stripAll) (maxL := 2) (ret := none) (own := RX1) (L := [(0, .ref q)]) (by decide) rfl rfl (Nat.le_of_ble_eq_true rfl) rfl (fun p e s m args below meth c C hr => ?_)
  refine j_aload_n 0 C dX1_stripAll_0 rfl rfl ?_
  refine j_get (Cn := RX1) (T := TX1) (N := 2) 0 1 C dX1_stripAll_1 hin_X1_stripAll_X1 rfl rfl (by decide) (List.mem_of_getElem? (i := 1) rfl) rfl ?_
  refine j_iconst (v := 1) C dX1_stripAll_4 rfl ?_
  refine j_isub (x := nI n) (y := 1) (v := nI n - 1) C dX1_stripAll_5 rfl ?_
  refine j_istore_n (L' := [(0, .ref q), (1, .int (nI n - 1))]) C dX1_stripAll_6 rfl (Nat.le_of_ble_eq_true rfl) rfl rfl ?_
  refine j_loop (σ := Nat × Nat × (Nat → Int32)) (fun (x9_ : Nat × Nat × (Nat → Int32)) => match x9_ with | (x, z1, h) => [(0, .ref q), (1, .int (nI x - 1))]) (fun (x9_ : Nat × Nat × (Nat → Int32)) => match x9_ with | (x, z1, h) => [(q, .inr (1, [.ref ca, .int (nI z1)])), (ca, jaI g 224 h)]) (fun (x9_ : Nat × Nat × (Nat → Int32)) => match x9_ with | (x, z1, h) => (x ≤ z1) ∧ (z1 ≤ 8) ∧ (∀ k, k < x → ∃ a, a ≤ 6 ∧ h (k * 28 + 3) = nI a) ∧ (jStrip x (z1, h) = jStrip n (n, f))) (fun (x9_ : Nat × Nat × (Nat → Int32)) => match x9_ with | (x, z1, h) => x) (fun x_ hi_2 ih_1 => ?_) (n, n, f) ⟨(by omega), hn, hs, rfl⟩ rfl rfl
  obtain ⟨x, z1, h⟩ := x_
  obtain ⟨hI0, hI1, hI2, hI3⟩ := (show (x ≤ z1) ∧ (z1 ≤ 8) ∧ (∀ k, k < x → ∃ a, a ≤ 6 ∧ h (k * 28 + 3) = nI a) ∧ (jStrip x (z1, h) = jStrip n (n, f)) from hi_2)
  refine j_eq (pc' := 7) (L' := [(0, .ref q), (1, .int (nI x - 1))]) (st' := []) (ws' := [(q, .inr (1, [.ref ca, .int (nI z1)])), (ca, jaI g 224 h)]) ?_ rfl rfl rfl rfl
  refine j_iload_n 1 C dX1_stripAll_7 rfl rfl ?_
  refine j_if_lt (tgt := 41) C dX1_stripAll_8 (by decide) (fun c_3 => ?_) (fun c_3 => ?_)
  · skip
    obtain rfl : x = 0 := (jm_lt0 (by omega)).mp c_3
    exact j_vretW C hr dX1_stripAll_41 () trivial (by rw [← hI3]; rfl)
  · skip
    have c_3 : ¬ x = 0 := fun z => c_3 ((jm_lt0 (by omega)).mpr z)
    obtain ⟨y, rfl⟩ : ∃ y, x = y + 1 := ⟨x - 1, by omega⟩
    refine j_eq (pc' := 11) (L' := [(0, .ref q), (1, .int (nI y))]) (st' := []) (ws' := [(q, .inr (1, [.ref ca, .int (nI z1)])), (ca, jaI g 224 h)]) ?_ rfl (by rw [jm_s]) rfl rfl
    obtain ⟨a, ha6, ha⟩ := hI2 y (by omega)
    have hR := jReach_le h y a 0
    refine j_aload_n 0 C dX1_stripAll_11 rfl rfl ?_
    refine j_iload_n 1 C dX1_stripAll_12 rfl rfl ?_
    refine j_iconst (v := 3) C dX1_stripAll_13 rfl ?_
    refine j_aload_n 0 C dX1_stripAll_14 rfl rfl ?_
    refine j_iload_n 1 C dX1_stripAll_15 rfl rfl ?_
    refine j_callRi (v := nI (jReach h y a 0)) (j_runV (ci := 0) (As := [.int (nI y)]) (rest := [.int 3, .int (nI y), .ref q]) [0, 1] C (c_X1_countReachedSteps l g q ca (nI z1) h y a (by omega) (by omega) (by omega)) gX1_stripAll_X1_countReachedSteps rfl rfl rfl hd_X1_countReachedSteps ⟨Nat.le_of_ble_eq_true rfl, Nat.le_of_ble_eq_true rfl⟩ rfl rfl rfl rfl dX1_stripAll_16 rfl (Nat.le_of_ble_eq_true rfl) ⟨Nat.le_of_ble_eq_true rfl, Nat.le_of_ble_eq_true rfl⟩) ?_
    refine j_callWv [0, 1] (fun _ => [(q, .inr (1, [.ref ca, .int (nI z1)])), (ca, jaI g 224 (upd h (y * 28 + 3) (nI (jReach h y a 0))))]) C (j_runV (ci := 0) (As := [.int (nI y), .int 3, .int (nI (jReach h y a 0))]) (rest := []) [0, 1] C (c_X1_setLoopFact l g q ca (nI z1) h y 3 (nI (jReach h y a 0)) (by omega)) gX1_stripAll_X1_setLoopFact rfl rfl rfl hd_X1_setLoopFact ⟨Nat.le_of_ble_eq_true rfl, Nat.le_of_ble_eq_true rfl⟩ rfl rfl rfl rfl dX1_stripAll_19 rfl (Nat.le_of_ble_eq_true rfl) ⟨Nat.le_of_ble_eq_true rfl, Nat.le_of_ble_eq_true rfl⟩) rfl (fun _ => rfl) (fun _ => rfl) (fun _ _ => ?_)
    refine j_aload_n 0 C dX1_stripAll_22 rfl rfl ?_
    refine j_iload_n 1 C dX1_stripAll_23 rfl rfl ?_
    refine j_callRi (v := (upd h (y * 28 + 3) (nI (jReach h y a 0))) (y * 28 + 3)) (j_runV (ci := 0) (As := [.int (nI y)]) (rest := []) [0, 1] C (c_X1_countSteps l g q ca (nI z1) (upd h (y * 28 + 3) (nI (jReach h y a 0))) y (by omega)) gX1_stripAll_X1_countSteps rfl rfl rfl hd_X1_countSteps ⟨Nat.le_of_ble_eq_true rfl, Nat.le_of_ble_eq_true rfl⟩ rfl rfl rfl rfl dX1_stripAll_24 rfl (Nat.le_of_ble_eq_true rfl) ⟨Nat.le_of_ble_eq_true rfl, Nat.le_of_ble_eq_true rfl⟩) ?_
    refine j_eq (pc' := 27) (L' := [(0, .ref q), (1, .int (nI y))]) (st' := [.int (nI (jReach h y a 0))]) (ws' := [(q, .inr (1, [.ref ca, .int (nI z1)])), (ca, jaI g 224 (upd h (y * 28 + 3) (nI (jReach h y a 0))))]) ?_ rfl rfl (by rw [pk_us]) rfl
    refine j_if_ne (tgt := 35) C dX1_stripAll_27 (by decide) (fun c_4 => ?_) (fun c_4 => ?_)
    · skip
      have c_4 : ¬ (jReach h y a 0) = 0 := fun z => c_4 ((nI_eq (a := jReach h y a 0) (b := 0) (by omega) (by omega)).mpr z)
      refine j_iinc (v := nI y - 1) (L' := [(0, .ref q), (1, .int (nI y - 1))]) 1 C dX1_stripAll_35 rfl (jm_m1 y) (Nat.le_of_ble_eq_true rfl) rfl rfl ?_
      refine j_goto (tgt := 7) C dX1_stripAll_38 (by decide) ?_
      exact ih_1 (y, z1, upd h (y * 28 + 3) (nI (jReach h y a 0))) ⟨(by omega), (by omega), (fun k hk => by obtain ⟨b, hb6, hb⟩ := hI2 k (by omega); refine ⟨b, hb6, ?_⟩; rw [← hb]; first | exact pk_un (by omega) | (unfold jRm; rw [if_neg (by omega)]; exact pk_un (by omega))), (by rw [← hI3, jStrip_s, show nn (h (y * 28 + 3)) = a by rw [ha]; exact nI_clamp (by omega)]; first | rw [if_pos (by assumption)] | rw [if_neg (by assumption)])⟩ (show y < y + 1 from by omega)
    · skip
      have c_4 : (jReach h y a 0) = 0 := (nI_eq (a := jReach h y a 0) (b := 0) (by omega) (by omega)).mp c_4
      refine j_aload_n 0 C dX1_stripAll_30 rfl rfl ?_
      refine j_iload_n 1 C dX1_stripAll_31 rfl rfl ?_
      refine j_callWv [0, 1] (fun _ => [(q, .inr (1, [.ref ca, .int (nI (z1 - 1))])), (ca, jaI g 224 (jRm (upd h (y * 28 + 3) (nI (jReach h y a 0))) (y * 28) ((z1 - 1) * 28)))]) C (j_runV (ci := 0) (As := [.int (nI y)]) (rest := []) [0, 1] C (c_X1_removeLoop l g q ca z1 (upd h (y * 28 + 3) (nI (jReach h y a 0))) y (by omega) (by omega)) gX1_stripAll_X1_removeLoop rfl rfl rfl hd_X1_removeLoop ⟨Nat.le_of_ble_eq_true rfl, Nat.le_of_ble_eq_true rfl⟩ rfl rfl rfl rfl dX1_stripAll_32 rfl (Nat.le_of_ble_eq_true rfl) ⟨Nat.le_of_ble_eq_true rfl, Nat.le_of_ble_eq_true rfl⟩) rfl (fun _ => rfl) (fun _ => rfl) (fun _ _ => ?_)
      refine j_iinc (v := nI y - 1) (L' := [(0, .ref q), (1, .int (nI y - 1))]) 1 C dX1_stripAll_35 rfl (jm_m1 y) (Nat.le_of_ble_eq_true rfl) rfl rfl ?_
      refine j_goto (tgt := 7) C dX1_stripAll_38 (by decide) ?_
      exact ih_1 (y, z1 - 1, jRm (upd h (y * 28 + 3) (nI (jReach h y a 0))) (y * 28) ((z1 - 1) * 28)) ⟨(by omega), (by omega), (fun k hk => by obtain ⟨b, hb6, hb⟩ := hI2 k (by omega); refine ⟨b, hb6, ?_⟩; rw [← hb]; first | exact pk_un (by omega) | (unfold jRm; rw [if_neg (by omega)]; exact pk_un (by omega))), (by rw [← hI3, jStrip_s, show nn (h (y * 28 + 3)) = a by rw [ha]; exact nI_clamp (by omega)]; first | rw [if_pos (by assumption)] | rw [if_neg (by assumption)])⟩ (show y < y + 1 from by omega)
set_option maxHeartbeats 4000000 in
set_option maxRecDepth 100000 in
theorem c_X1_makeChange_0 (l : Launch) (g : jG) (q ca n : Nat) (f : Nat → Int32) (k a b : Nat) (w : Int32) (hk : k + 1 < n) (hn : n ≤ 8) (ha : f (k * 28 + 3) = nI a) (hb : f ((k + 1) * 28 + 3) = nI b) (hab : a + b ≤ 6) : jWv l yX1_makeChange wsX1_makeChange ({ frames := 4, cells := 0, slots := 0, locals := 88 }) g [.ref q, .int 0, .int (nI k), .int w] [(q, .inr (1, [.ref ca, .int (nI n)])), (ca, jaI g 224 f)] [(q, .inr (1, [.ref ca, .int (nI (n - 1))])), (ca, jaI g 224 (jRm (upd (va_cpy f f ((k + 1) * 28 + 4) (k * 28 + 4 + a * 4) (b * 4)) (k * 28 + 3) (nI (a + b))) ((k + 1) * 28) ((n - 1) * 28)))] := by
  refine j_enterW (Qc := fun sz_ => va_Qv (fun (_ : Unit) => True) (fun _ t => va_P g.1 vwCl [(q, .inr (1, [.ref ca, .int (nI (n - 1))])), (ca, jaI g 224 (jRm (upd (va_cpy f f ((k + 1) * 28 + 4) (k * 28 + 4 + a * 4) (b * 4)) (k * 28 + 3) (nI (a + b))) ((k + 1) * 28) ((n - 1) * 28)))] t.heap) (va_A [(q, .inr (1, [.ref ca, .int (nI n)])), (ca, jaI g 224 f)] sz_)) (cc := cX1_makeChange) (maxL := 4) (ret := none) (own := RX1) (L := [(0, .ref q), (1, .int 0), (2, .int (nI k)), (3, .int w)]) (by decide) rfl rfl (Nat.le_of_ble_eq_true rfl) rfl (fun p e s m args below meth c C hr => ?_)
  refine j_iload_n 1 C dX1_makeChange_0 rfl rfl ?_
  refine j_tabIn (tgt := 36) C dX1_makeChange_1 (by decide) (by decide) rfl (by decide) ?_
  refine j_aload_n 0 C dX1_makeChange_36 rfl rfl ?_
  refine j_iload_n 2 C dX1_makeChange_37 rfl rfl ?_
  refine j_callWv [0, 1] (fun _ => [(q, .inr (1, [.ref ca, .int (nI (n - 1))])), (ca, jaI g 224 (jRm (upd (va_cpy f f ((k + 1) * 28 + 4) (k * 28 + 4 + a * 4) (b * 4)) (k * 28 + 3) (nI (a + b))) ((k + 1) * 28) ((n - 1) * 28)))]) C (j_runV (ci := 0) (As := [.int (nI k)]) (rest := []) [0, 1] C (c_X1_joinWithNext l g q ca n f k a b (by omega) (by omega) (by omega) (by omega) (by omega)) gX1_makeChange_X1_joinWithNext rfl rfl rfl hd_X1_joinWithNext ⟨Nat.le_of_ble_eq_true rfl, Nat.le_of_ble_eq_true rfl⟩ rfl rfl rfl rfl dX1_makeChange_38 rfl (Nat.le_of_ble_eq_true rfl) ⟨Nat.le_of_ble_eq_true rfl, Nat.le_of_ble_eq_true rfl⟩) rfl (fun _ => rfl) (fun _ => rfl) (fun _ _ => ?_)
  refine j_goto (tgt := 91) C dX1_makeChange_41 (by decide) ?_
  exact j_vretW C hr dX1_makeChange_91 () trivial rfl
set_option maxHeartbeats 4000000 in
set_option maxRecDepth 100000 in
theorem c_X1_makeChange_1 (l : Launch) (g : jG) (q ca n : Nat) (f : Nat → Int32) (k i a : Nat) (hk : k < n) (hn : n < 8) (ha : f (k * 28 + 3) = nI a) (hi : i ≤ a) (ha6 : a ≤ 6) : jWv l yX1_makeChange wsX1_makeChange ({ frames := 4, cells := 0, slots := 0, locals := 88 }) g [.ref q, .int 1, .int (nI k), .int (nI i)] [(q, .inr (1, [.ref ca, .int (nI n)])), (ca, jaI g 224 f)] [(q, .inr (1, [.ref ca, .int (nI (n + 1))])), (ca, jaI g 224 (upd (va_cpy (upd (jRp f (n * 28) (k * 28)) (k * 28 + 3) (nI i)) (upd (jRp f (n * 28) (k * 28)) (k * 28 + 3) (nI i)) ((k + 1) * 28 + 4 + i * 4) ((k + 1) * 28 + 4) ((a - i) * 4)) ((k + 1) * 28 + 3) (nI (a - i))))] := by
  refine j_enterW (Qc := fun sz_ => va_Qv (fun (_ : Unit) => True) (fun _ t => va_P g.1 vwCl [(q, .inr (1, [.ref ca, .int (nI (n + 1))])), (ca, jaI g 224 (upd (va_cpy (upd (jRp f (n * 28) (k * 28)) (k * 28 + 3) (nI i)) (upd (jRp f (n * 28) (k * 28)) (k * 28 + 3) (nI i)) ((k + 1) * 28 + 4 + i * 4) ((k + 1) * 28 + 4) ((a - i) * 4)) ((k + 1) * 28 + 3) (nI (a - i))))] t.heap) (va_A [(q, .inr (1, [.ref ca, .int (nI n)])), (ca, jaI g 224 f)] sz_)) (cc := cX1_makeChange) (maxL := 4) (ret := none) (own := RX1) (L := [(0, .ref q), (1, .int 1), (2, .int (nI k)), (3, .int (nI i))]) (by decide) rfl rfl (Nat.le_of_ble_eq_true rfl) rfl (fun p e s m args below meth c C hr => ?_)
  refine j_iload_n 1 C dX1_makeChange_0 rfl rfl ?_
  refine j_tabIn (tgt := 44) C dX1_makeChange_1 (by decide) (by decide) rfl (by decide) ?_
  refine j_aload_n 0 C dX1_makeChange_44 rfl rfl ?_
  refine j_iload_n 2 C dX1_makeChange_45 rfl rfl ?_
  refine j_iload_n 3 C dX1_makeChange_46 rfl rfl ?_
  refine j_callWv [0, 1] (fun _ => [(q, .inr (1, [.ref ca, .int (nI (n + 1))])), (ca, jaI g 224 (upd (va_cpy (upd (jRp f (n * 28) (k * 28)) (k * 28 + 3) (nI i)) (upd (jRp f (n * 28) (k * 28)) (k * 28 + 3) (nI i)) ((k + 1) * 28 + 4 + i * 4) ((k + 1) * 28 + 4) ((a - i) * 4)) ((k + 1) * 28 + 3) (nI (a - i))))]) C (j_runV (ci := 0) (As := [.int (nI k), .int (nI i)]) (rest := []) [0, 1] C (c_X1_divideAt l g q ca n f k i a (by omega) (by omega) (by omega) (by omega) (by omega)) gX1_makeChange_X1_divideAt rfl rfl rfl hd_X1_divideAt ⟨Nat.le_of_ble_eq_true rfl, Nat.le_of_ble_eq_true rfl⟩ rfl rfl rfl rfl dX1_makeChange_47 rfl (Nat.le_of_ble_eq_true rfl) ⟨Nat.le_of_ble_eq_true rfl, Nat.le_of_ble_eq_true rfl⟩) rfl (fun _ => rfl) (fun _ => rfl) (fun _ _ => ?_)
  refine j_goto (tgt := 91) C dX1_makeChange_50 (by decide) ?_
  exact j_vretW C hr dX1_makeChange_91 () trivial rfl
set_option maxHeartbeats 4000000 in
set_option maxRecDepth 100000 in
theorem c_X1_makeChange_2 (l : Launch) (g : jG) (q ca n : Nat) (f : Nat → Int32) (k w v : Nat) (hk : k < n) (hn : n < 8) (hv : f (k * 28 + 0) = nI v) (hv9 : v + 1 ≤ w) : jWv l yX1_makeChange wsX1_makeChange ({ frames := 3, cells := 0, slots := 0, locals := 68 }) g [.ref q, .int 2, .int (nI k), .int (nI w)] [(q, .inr (1, [.ref ca, .int (nI n)])), (ca, jaI g 224 f)] [(q, .inr (1, [.ref ca, .int (nI (n + 1))])), (ca, jaI g 224 (upd (upd (jRp f (n * 28) (k * 28)) (k * 28 + 1) (nI (w - 1 - v))) ((k + 1) * 28 + 0) (nI (v + 1))))] := by
  refine j_enterW (Qc := fun sz_ => va_Qv (fun (_ : Unit) => True) (fun _ t => va_P g.1 vwCl [(q, .inr (1, [.ref ca, .int (nI (n + 1))])), (ca, jaI g 224 (upd (upd (jRp f (n * 28) (k * 28)) (k * 28 + 1) (nI (w - 1 - v))) ((k + 1) * 28 + 0) (nI (v + 1))))] t.heap) (va_A [(q, .inr (1, [.ref ca, .int (nI n)])), (ca, jaI g 224 f)] sz_)) (cc := cX1_makeChange) (maxL := 4) (ret := none) (own := RX1) (L := [(0, .ref q), (1, .int 2), (2, .int (nI k)), (3, .int (nI w))]) (by decide) rfl rfl (Nat.le_of_ble_eq_true rfl) rfl (fun p e s m args below meth c C hr => ?_)
  refine j_iload_n 1 C dX1_makeChange_0 rfl rfl ?_
  refine j_tabIn (tgt := 53) C dX1_makeChange_1 (by decide) (by decide) rfl (by decide) ?_
  refine j_aload_n 0 C dX1_makeChange_53 rfl rfl ?_
  refine j_iload_n 2 C dX1_makeChange_54 rfl rfl ?_
  refine j_iload_n 3 C dX1_makeChange_55 rfl rfl ?_
  refine j_callWv [0, 1] (fun _ => [(q, .inr (1, [.ref ca, .int (nI (n + 1))])), (ca, jaI g 224 (upd (upd (jRp f (n * 28) (k * 28)) (k * 28 + 1) (nI (w - 1 - v))) ((k + 1) * 28 + 0) (nI (v + 1))))]) C (j_runV (ci := 0) (As := [.int (nI k), .int (nI w)]) (rest := []) [0, 1] C (c_X1_peelFirstPlace l g q ca n f k w v (by omega) (by omega) (by omega) (by omega)) gX1_makeChange_X1_peelFirstPlace rfl rfl rfl hd_X1_peelFirstPlace ⟨Nat.le_of_ble_eq_true rfl, Nat.le_of_ble_eq_true rfl⟩ rfl rfl rfl rfl dX1_makeChange_56 rfl (Nat.le_of_ble_eq_true rfl) ⟨Nat.le_of_ble_eq_true rfl, Nat.le_of_ble_eq_true rfl⟩) rfl (fun _ => rfl) (fun _ => rfl) (fun _ _ => ?_)
  refine j_goto (tgt := 91) C dX1_makeChange_59 (by decide) ?_
  exact j_vretW C hr dX1_makeChange_91 () trivial rfl
set_option maxHeartbeats 4000000 in
set_option maxRecDepth 100000 in
theorem c_X1_makeChange_3 (l : Launch) (g : jG) (q ca : Nat) (n : Int32) (f : Nat → Int32) (k : Nat) (w : Int32) (hk : k < 8) : jWv l yX1_makeChange wsX1_makeChange ({ frames := 2, cells := 0, slots := 0, locals := 45 }) g [.ref q, .int 3, .int (nI k), .int w] [(q, .inr (1, [.ref ca, .int n])), (ca, jaI g 224 f)] [(q, .inr (1, [.ref ca, .int n])), (ca, jaI g 224 (upd f (k * 28 + 2) (1 - f (k * 28 + 2))))] := by
  refine j_enterW (Qc := fun sz_ => va_Qv (fun (_ : Unit) => True) (fun _ t => va_P g.1 vwCl [(q, .inr (1, [.ref ca, .int n])), (ca, jaI g 224 (upd f (k * 28 + 2) (1 - f (k * 28 + 2))))] t.heap) (va_A [(q, .inr (1, [.ref ca, .int n])), (ca, jaI g 224 f)] sz_)) (cc := cX1_makeChange) (maxL := 4) (ret := none) (own := RX1) (L := [(0, .ref q), (1, .int 3), (2, .int (nI k)), (3, .int w)]) (by decide) rfl rfl (Nat.le_of_ble_eq_true rfl) rfl (fun p e s m args below meth c C hr => ?_)
  refine j_iload_n 1 C dX1_makeChange_0 rfl rfl ?_
  refine j_tabIn (tgt := 62) C dX1_makeChange_1 (by decide) (by decide) rfl (by decide) ?_
  refine j_aload_n 0 C dX1_makeChange_62 rfl rfl ?_
  refine j_iload_n 2 C dX1_makeChange_63 rfl rfl ?_
  refine j_iconst (v := 2) C dX1_makeChange_64 rfl ?_
  refine j_iconst (v := 1) C dX1_makeChange_65 rfl ?_
  refine j_aload_n 0 C dX1_makeChange_66 rfl rfl ?_
  refine j_iload_n 2 C dX1_makeChange_67 rfl rfl ?_
  refine j_iconst (v := 2) C dX1_makeChange_68 rfl ?_
  refine j_callRi (v := f (k * 28 + 2)) (j_runV (ci := 0) (As := [.int (nI k), .int 2]) (rest := [.int 1, .int 2, .int (nI k), .ref q]) [0, 1] C (c_X1_loopFact l g q ca n f k 2 (by omega)) gX1_makeChange_X1_loopFact rfl rfl rfl hd_X1_loopFact ⟨Nat.le_of_ble_eq_true rfl, Nat.le_of_ble_eq_true rfl⟩ rfl rfl rfl rfl dX1_makeChange_69 rfl (Nat.le_of_ble_eq_true rfl) ⟨Nat.le_of_ble_eq_true rfl, Nat.le_of_ble_eq_true rfl⟩) ?_
  refine j_isub (x := 1) (y := f (k * 28 + 2)) (v := (1 : Int32) - (f (k * 28 + 2))) C dX1_makeChange_72 rfl ?_
  refine j_callWv [0, 1] (fun _ => [(q, .inr (1, [.ref ca, .int n])), (ca, jaI g 224 (upd f (k * 28 + 2) ((1 : Int32) - (f (k * 28 + 2)))))]) C (j_runV (ci := 0) (As := [.int (nI k), .int 2, .int ((1 : Int32) - (f (k * 28 + 2)))]) (rest := []) [0, 1] C (c_X1_setLoopFact l g q ca n f k 2 ((1 : Int32) - (f (k * 28 + 2))) (by omega)) gX1_makeChange_X1_setLoopFact rfl rfl rfl hd_X1_setLoopFact ⟨Nat.le_of_ble_eq_true rfl, Nat.le_of_ble_eq_true rfl⟩ rfl rfl rfl rfl dX1_makeChange_73 rfl (Nat.le_of_ble_eq_true rfl) ⟨Nat.le_of_ble_eq_true rfl, Nat.le_of_ble_eq_true rfl⟩) rfl (fun _ => rfl) (fun _ => rfl) (fun _ _ => ?_)
  refine j_goto (tgt := 91) C dX1_makeChange_76 (by decide) ?_
  exact j_vretW C hr dX1_makeChange_91 () trivial rfl
set_option maxHeartbeats 4000000 in
set_option maxRecDepth 100000 in
theorem c_X1_makeChange_4 (l : Launch) (g : jG) (q ca : Nat) (n : Int32) (f : Nat → Int32) (k : Nat) (w : Int32) (hk : k < 7) : jWv l yX1_makeChange wsX1_makeChange ({ frames := 2, cells := 0, slots := 0, locals := 46 }) g [.ref q, .int 4, .int (nI k), .int w] [(q, .inr (1, [.ref ca, .int n])), (ca, jaI g 224 f)] [(q, .inr (1, [.ref ca, .int n])), (ca, jaI g 224 (jSw f (k * 28) (k * 28 + 28)))] := by
  refine j_enterW (Qc := fun sz_ => va_Qv (fun (_ : Unit) => True) (fun _ t => va_P g.1 vwCl [(q, .inr (1, [.ref ca, .int n])), (ca, jaI g 224 (jSw f (k * 28) (k * 28 + 28)))] t.heap) (va_A [(q, .inr (1, [.ref ca, .int n])), (ca, jaI g 224 f)] sz_)) (cc := cX1_makeChange) (maxL := 4) (ret := none) (own := RX1) (L := [(0, .ref q), (1, .int 4), (2, .int (nI k)), (3, .int w)]) (by decide) rfl rfl (Nat.le_of_ble_eq_true rfl) rfl (fun p e s m args below meth c C hr => ?_)
  refine j_iload_n 1 C dX1_makeChange_0 rfl rfl ?_
  refine j_tabIn (tgt := 79) C dX1_makeChange_1 (by decide) (by decide) rfl (by decide) ?_
  refine j_aload_n 0 C dX1_makeChange_79 rfl rfl ?_
  refine j_iload_n 2 C dX1_makeChange_80 rfl rfl ?_
  refine j_callWv [0, 1] (fun _ => [(q, .inr (1, [.ref ca, .int n])), (ca, jaI g 224 (jSw f (k * 28) (k * 28 + 28)))]) C (j_runV (ci := 0) (As := [.int (nI k)]) (rest := []) [0, 1] C (c_X1_swapWithNext l g q ca n f k (by omega)) gX1_makeChange_X1_swapWithNext rfl rfl rfl hd_X1_swapWithNext ⟨Nat.le_of_ble_eq_true rfl, Nat.le_of_ble_eq_true rfl⟩ rfl rfl rfl rfl dX1_makeChange_81 rfl (Nat.le_of_ble_eq_true rfl) ⟨Nat.le_of_ble_eq_true rfl, Nat.le_of_ble_eq_true rfl⟩) rfl (fun _ => rfl) (fun _ => rfl) (fun _ _ => ?_)
  refine j_goto (tgt := 91) C dX1_makeChange_84 (by decide) ?_
  exact j_vretW C hr dX1_makeChange_91 () trivial rfl
set_option maxHeartbeats 4000000 in
set_option maxRecDepth 100000 in
theorem c_X1_makeChange_5 (l : Launch) (g : jG) (q ca n : Nat) (f : Nat → Int32) (k w : Int32) (hn : n ≤ 8) (hs : ∀ k, k < n → ∃ a, a ≤ 6 ∧ f (k * 28 + 3) = nI a) : jWv l yX1_makeChange wsX1_makeChange ({ frames := 5, cells := 0, slots := 0, locals := 109 }) g [.ref q, .int 5, .int k, .int w] [(q, .inr (1, [.ref ca, .int (nI n)])), (ca, jaI g 224 f)] [(q, .inr (1, [.ref ca, .int (nI ((jStrip n (n, f)).1))])), (ca, jaI g 224 ((jStrip n (n, f)).2))] := by
  refine j_enterW (Qc := fun sz_ => va_Qv (fun (_ : Unit) => True) (fun _ t => va_P g.1 vwCl [(q, .inr (1, [.ref ca, .int (nI ((jStrip n (n, f)).1))])), (ca, jaI g 224 ((jStrip n (n, f)).2))] t.heap) (va_A [(q, .inr (1, [.ref ca, .int (nI n)])), (ca, jaI g 224 f)] sz_)) (cc := cX1_makeChange) (maxL := 4) (ret := none) (own := RX1) (L := [(0, .ref q), (1, .int 5), (2, .int k), (3, .int w)]) (by decide) rfl rfl (Nat.le_of_ble_eq_true rfl) rfl (fun p e s m args below meth c C hr => ?_)
  refine j_iload_n 1 C dX1_makeChange_0 rfl rfl ?_
  refine j_tabOut (tgt := 87) C dX1_makeChange_1 (by decide) (by decide) ?_
  refine j_aload_n 0 C dX1_makeChange_87 rfl rfl ?_
  refine j_callWv [0, 1] (fun _ => [(q, .inr (1, [.ref ca, .int (nI ((jStrip n (n, f)).1))])), (ca, jaI g 224 ((jStrip n (n, f)).2))]) C (j_runV (ci := 0) (As := []) (rest := []) [0, 1] C (c_X1_stripAll l g q ca n f (by omega) (by omega)) gX1_makeChange_X1_stripAll rfl rfl rfl hd_X1_stripAll ⟨Nat.le_of_ble_eq_true rfl, Nat.le_of_ble_eq_true rfl⟩ rfl rfl rfl rfl dX1_makeChange_88 rfl (Nat.le_of_ble_eq_true rfl) ⟨Nat.le_of_ble_eq_true rfl, Nat.le_of_ble_eq_true rfl⟩) rfl (fun _ => rfl) (fun _ => rfl) (fun _ _ => ?_)
  exact j_vretW C hr dX1_makeChange_91 () trivial rfl
