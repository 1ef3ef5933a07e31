theorem hd_X5_has_ : yX5_has_.cls = RX5 ∧ yX5_has_.cls ≠ "java/lang/invoke/MethodHandle" ∧ yX5_has_.cls ≠ "java/lang/invoke/VarHandle" ∧ (parseMethodDescriptor yX5_has_.desc).map (fun d => d.parameters.length) = some 3 := by decide +kernel
theorem hd_X5_areApart_ : yX5_areApart_.cls = RX5 ∧ yX5_areApart_.cls ≠ "java/lang/invoke/MethodHandle" ∧ yX5_areApart_.cls ≠ "java/lang/invoke/VarHandle" ∧ (parseMethodDescriptor yX5_areApart_.desc).map (fun d => d.parameters.length) = some 3 := by decide +kernel
theorem hd_X5_whyJoin : yX5_whyJoin.cls = RX5 ∧ yX5_whyJoin.cls ≠ "java/lang/invoke/MethodHandle" ∧ yX5_whyJoin.cls ≠ "java/lang/invoke/VarHandle" ∧ (parseMethodDescriptor yX5_whyJoin.desc).map (fun d => d.parameters.length) = some 2 := by decide +kernel
theorem hd_X5_whyDivide : yX5_whyDivide.cls = RX5 ∧ yX5_whyDivide.cls ≠ "java/lang/invoke/MethodHandle" ∧ yX5_whyDivide.cls ≠ "java/lang/invoke/VarHandle" ∧ (parseMethodDescriptor yX5_whyDivide.desc).map (fun d => d.parameters.length) = some 3 := by decide +kernel
theorem hd_X5_whyPeel : yX5_whyPeel.cls = RX5 ∧ yX5_whyPeel.cls ≠ "java/lang/invoke/MethodHandle" ∧ yX5_whyPeel.cls ≠ "java/lang/invoke/VarHandle" ∧ (parseMethodDescriptor yX5_whyPeel.desc).map (fun d => d.parameters.length) = some 3 := by decide +kernel
theorem hd_X5_whyTurn : yX5_whyTurn.cls = RX5 ∧ yX5_whyTurn.cls ≠ "java/lang/invoke/MethodHandle" ∧ yX5_whyTurn.cls ≠ "java/lang/invoke/VarHandle" ∧ (parseMethodDescriptor yX5_whyTurn.desc).map (fun d => d.parameters.length) = some 2 := by decide +kernel
theorem hd_X5_whySwap : yX5_whySwap.cls = RX5 ∧ yX5_whySwap.cls ≠ "java/lang/invoke/MethodHandle" ∧ yX5_whySwap.cls ≠ "java/lang/invoke/VarHandle" ∧ (parseMethodDescriptor yX5_whySwap.desc).map (fun d => d.parameters.length) = some 2 := by decide +kernel
set_option maxHeartbeats 4000000 in
set_option maxRecDepth 100000 in
theorem c_X5_whyJoin (l : Launch) (g : jG) (a0 n : Nat) (f : Nat → Int32) (k a b : Nat) (hk : k < 7) (ha : f (k * 28 + 3) = nI a) (ha6 : a ≤ 6) (hb : f ((k + 1) * 28 + 3) = nI b) (hb6 : b ≤ 6) : jRi l yX5_whyJoin wsX5_whyJoin ({ frames := 5, cells := 0, slots := 0, locals := 113 }) g [.ref a0, .int (nI k)] [(a0, jaI g 253 (jrw n f))] (jRJ f k a b) := by
  refine j_enterR (cc := cX5_whyJoin) (maxL := 3) (ret := (some .int)) (own := RX5) (L := [(0, .ref a0), (1, .int (nI k))]) (by decide) rfl rfl (Nat.le_of_ble_eq_true rfl) rfl (fun p e s m args below meth c C hr => ?_)
  refine j_iconst (v := 0) C dX5_whyJoin_0 rfl ?_
  refine j_istore_n (L' := [(0, .ref a0), (1, .int (nI k)), (2, .int 0)]) C dX5_whyJoin_1 rfl (Nat.le_of_ble_eq_true rfl) rfl rfl ?_
  refine j_loop (σ := Nat) (fun (w : Nat) => [(0, .ref a0), (1, .int (nI k)), (2, .int (nI w))]) (fun (w : Nat) => [(a0, jaI g 253 (jrw n f))]) (fun (w : Nat) => (w ≤ 3) ∧ (∀ z, z < w → f (k * 28 + z) = f ((k + 1) * 28 + z))) (fun (w : Nat) => 3 - w) (fun x_ hi_2 ih_1 => ?_) 0 ⟨(by omega), (fun z hz => absurd hz (Nat.not_lt_zero _))⟩ rfl rfl
  obtain ⟨w, hx_⟩ : ∃ z, z = x_ := ⟨_, rfl⟩
  subst hx_
  obtain ⟨hI0, hI1⟩ := (show (w ≤ 3) ∧ (∀ z, z < w → f (k * 28 + z) = f ((k + 1) * 28 + z)) from hi_2)
  refine j_eq (pc' := 2) (L' := [(0, .ref a0), (1, .int (nI k)), (2, .int (nI w))]) (st' := []) (ws' := [(a0, jaI g 253 (jrw n f))]) ?_ rfl rfl rfl rfl
  refine j_iload_n 2 C dX5_whyJoin_2 rfl rfl ?_
  refine j_iconst (v := 3) C dX5_whyJoin_3 rfl ?_
  refine j_icmp_ge (tgt := 36) C dX5_whyJoin_4 (by decide) (fun c_3 => ?_) (fun c_3 => ?_)
  · skip
    have c_3 : 3 ≤ w := (nI_leI (a := 3) (b := w) (by omega) (by omega)).mp c_3
    have hsm : jSame f k = true := by have h0 := hI1 0 (by omega); have h1 := hI1 1 (by omega); have h2 := hI1 2 (by omega); simp [jSame] at *; simp [h0, h1, h2]
    refine j_aload_n 0 C dX5_whyJoin_36 rfl rfl ?_
    refine j_iload_n 1 C dX5_whyJoin_37 rfl rfl ?_
    refine j_iconst (v := 4) C dX5_whyJoin_38 rfl ?_
    refine j_callRi (v := jb (jHas f k 4 a 0)) (j_runS (As := [.ref a0, .int (nI k), .int 4]) (rest := []) [0] C (c_X5_has_ l g a0 n f k a 4 (by omega) ha (by omega)) gX5_whyJoin_X5_has_ rfl rfl rfl hd_X5_has_ ⟨Nat.le_of_ble_eq_true rfl, Nat.le_of_ble_eq_true rfl⟩ rfl rfl dX5_whyJoin_39 rfl (Nat.le_of_ble_eq_true rfl) ⟨Nat.le_of_ble_eq_true rfl, Nat.le_of_ble_eq_true rfl⟩) ?_
    refine j_if_ne (tgt := 56) C dX5_whyJoin_42 (by decide) (fun c_4 => ?_) (fun c_4 => ?_)
    · skip
      have c_4 : (jHas f k 4 a 0) = true := jb_1 c_4
      refine j_iconst (v := 2) C dX5_whyJoin_56 rfl ?_
      exact j_iretR (v := 2) C hr dX5_whyJoin_57 (by rw [jRJ, if_neg (by rw [hsm]; decide)]; simp_all)
    · skip
      have c_4 : (jHas f k 4 a 0) = false := jb_0 c_4
      refine j_aload_n 0 C dX5_whyJoin_45 rfl rfl ?_
      refine j_iload_n 1 C dX5_whyJoin_46 rfl rfl ?_
      refine j_iconst (v := 1) C dX5_whyJoin_47 rfl ?_
      refine j_iadd (x := nI k) (y := 1) (v := nI (k + 1)) C dX5_whyJoin_48 (nI_add k 1) ?_
      refine j_iconst (v := 4) C dX5_whyJoin_49 rfl ?_
      refine j_callRi (v := jb (jHas f (k + 1) 4 b 0)) (j_runS (As := [.ref a0, .int (nI (k + 1)), .int 4]) (rest := []) [0] C (c_X5_has_ l g a0 n f (k + 1) b 4 (by omega) hb (by omega)) gX5_whyJoin_X5_has_ rfl rfl rfl hd_X5_has_ ⟨Nat.le_of_ble_eq_true rfl, Nat.le_of_ble_eq_true rfl⟩ rfl rfl dX5_whyJoin_50 rfl (Nat.le_of_ble_eq_true rfl) ⟨Nat.le_of_ble_eq_true rfl, Nat.le_of_ble_eq_true rfl⟩) ?_
      refine j_if_eq (tgt := 58) C dX5_whyJoin_53 (by decide) (fun c_5 => ?_) (fun c_5 => ?_)
      · skip
        have c_5 : (jHas f (k + 1) 4 b 0) = false := jb_0 c_5
        refine j_aload_n 0 C dX5_whyJoin_58 rfl rfl ?_
        refine j_iload_n 1 C dX5_whyJoin_59 rfl rfl ?_
        refine j_iconst (v := 5) C dX5_whyJoin_60 rfl ?_
        refine j_callRi (v := jb (jHas f k 5 a 0)) (j_runS (As := [.ref a0, .int (nI k), .int 5]) (rest := []) [0] C (c_X5_has_ l g a0 n f k a 5 (by omega) ha (by omega)) gX5_whyJoin_X5_has_ rfl rfl rfl hd_X5_has_ ⟨Nat.le_of_ble_eq_true rfl, Nat.le_of_ble_eq_true rfl⟩ rfl rfl dX5_whyJoin_61 rfl (Nat.le_of_ble_eq_true rfl) ⟨Nat.le_of_ble_eq_true rfl, Nat.le_of_ble_eq_true rfl⟩) ?_
        refine j_if_eq (tgt := 80) C dX5_whyJoin_64 (by decide) (fun c_6 => ?_) (fun c_6 => ?_)
        · skip
          have c_6 : (jHas f k 5 a 0) = false := jb_0 c_6
          refine j_aload_n 0 C dX5_whyJoin_80 rfl rfl ?_
          refine j_iload_n 1 C dX5_whyJoin_81 rfl rfl ?_
          refine j_iload_n 1 C dX5_whyJoin_82 rfl rfl ?_
          refine j_iconst (v := 1) C dX5_whyJoin_83 rfl ?_
          refine j_iadd (x := nI k) (y := 1) (v := nI (k + 1)) C dX5_whyJoin_84 (nI_add k 1) ?_
          refine j_callRi (v := jb (jApt (jEf f k (a - 0) 0 0) (jEf f (k + 1) (b - 0) 0 0))) (j_runS (As := [.ref a0, .int (nI k), .int (nI (k + 1))]) (rest := []) [0] C (c_X5_areApart_ l g a0 n f k (k + 1) a b (by omega) (by omega) ha (by omega) hb (by omega)) gX5_whyJoin_X5_areApart_ rfl rfl rfl hd_X5_areApart_ ⟨Nat.le_of_ble_eq_true rfl, Nat.le_of_ble_eq_true rfl⟩ rfl rfl dX5_whyJoin_85 rfl (Nat.le_of_ble_eq_true rfl) ⟨Nat.le_of_ble_eq_true rfl, Nat.le_of_ble_eq_true rfl⟩) ?_
          refine j_if_ne (tgt := 93) C dX5_whyJoin_88 (by decide) (fun c_7 => ?_) (fun c_7 => ?_)
          · skip
            have c_7 : (jApt (jEf f k (a - 0) 0 0) (jEf f (k + 1) (b - 0) 0 0)) = true := jb_1 c_7
            refine j_aload_n 0 C dX5_whyJoin_93 rfl rfl ?_
            refine j_iload_n 1 C dX5_whyJoin_94 rfl rfl ?_
            refine j_callRi (v := f (k * 28 + 3)) (j_runS (As := [.ref a0, .int (nI k)]) (rest := []) [0] C (c_X5_steps l g a0 n f k (by omega)) gX5_whyJoin_X5_steps rfl rfl rfl hd_X5_steps ⟨Nat.le_of_ble_eq_true rfl, Nat.le_of_ble_eq_true rfl⟩ rfl rfl dX5_whyJoin_95 rfl (Nat.le_of_ble_eq_true rfl) ⟨Nat.le_of_ble_eq_true rfl, Nat.le_of_ble_eq_true rfl⟩) ?_
            refine j_eq (pc' := 98) (L' := [(0, .ref a0), (1, .int (nI k)), (2, .int (nI w))]) (st' := [.int (nI a)]) (ws' := [(a0, jaI g 253 (jrw n f))]) ?_ rfl rfl (by rw [ha]) rfl
            refine j_aload_n 0 C dX5_whyJoin_98 rfl rfl ?_
            refine j_iload_n 1 C dX5_whyJoin_99 rfl rfl ?_
            refine j_iconst (v := 1) C dX5_whyJoin_100 rfl ?_
            refine j_iadd (x := nI k) (y := 1) (v := nI (k + 1)) C dX5_whyJoin_101 (nI_add k 1) ?_
            refine j_callRi (v := f ((k + 1) * 28 + 3)) (j_runS (As := [.ref a0, .int (nI (k + 1))]) (rest := [.int (nI a)]) [0] C (c_X5_steps l g a0 n f (k + 1) (by omega)) gX5_whyJoin_X5_steps rfl rfl rfl hd_X5_steps ⟨Nat.le_of_ble_eq_true rfl, Nat.le_of_ble_eq_true rfl⟩ rfl rfl dX5_whyJoin_102 rfl (Nat.le_of_ble_eq_true rfl) ⟨Nat.le_of_ble_eq_true rfl, Nat.le_of_ble_eq_true rfl⟩) ?_
            refine j_eq (pc' := 105) (L' := [(0, .ref a0), (1, .int (nI k)), (2, .int (nI w))]) (st' := [.int (nI b), .int (nI a)]) (ws' := [(a0, jaI g 253 (jrw n f))]) ?_ rfl rfl (by rw [hb]) rfl
            refine j_iadd (x := nI a) (y := nI b) (v := nI (a + b)) C dX5_whyJoin_105 (nI_add a b) ?_
            refine j_bipush (v := 6) C dX5_whyJoin_106 rfl ?_
            refine j_icmp_le (tgt := 115) C dX5_whyJoin_108 (by decide) (fun c_8 => ?_) (fun c_8 => ?_)
            · skip
              have c_8 : (a + b) ≤ 6 := (nI_leI (a := a + b) (b := 6) (by omega) (by omega)).mp c_8
              refine j_iconst (v := 0) C dX5_whyJoin_115 rfl ?_
              exact j_iretR (v := 0) C hr dX5_whyJoin_116 (by rw [jRJ, if_neg (by rw [hsm]; decide)]; simp_all)
            · skip
              have c_8 : ¬ (a + b) ≤ 6 := fun z => c_8 ((nI_leI (a := a + b) (b := 6) (by omega) (by omega)).mpr z)
              refine j_iconst (v := 5) C dX5_whyJoin_111 rfl ?_
              refine j_goto (tgt := 116) C dX5_whyJoin_112 (by decide) ?_
              exact j_iretR (v := 5) C hr dX5_whyJoin_116 (by rw [jRJ, if_neg (by rw [hsm]; decide)]; simp_all)
          · skip
            have c_7 : (jApt (jEf f k (a - 0) 0 0) (jEf f (k + 1) (b - 0) 0 0)) = false := jb_0 c_7
            refine j_iconst (v := 4) C dX5_whyJoin_91 rfl ?_
            exact j_iretR (v := 4) C hr dX5_whyJoin_92 (by rw [jRJ, if_neg (by rw [hsm]; decide)]; simp_all)
        · skip
          have c_6 : (jHas f k 5 a 0) = true := jb_1 c_6
          refine j_aload_n 0 C dX5_whyJoin_67 rfl rfl ?_
          refine j_iload_n 1 C dX5_whyJoin_68 rfl rfl ?_
          refine j_iconst (v := 1) C dX5_whyJoin_69 rfl ?_
          refine j_iadd (x := nI k) (y := 1) (v := nI (k + 1)) C dX5_whyJoin_70 (nI_add k 1) ?_
          refine j_iconst (v := 5) C dX5_whyJoin_71 rfl ?_
          refine j_callRi (v := jb (jHas f (k + 1) 5 b 0)) (j_runS (As := [.ref a0, .int (nI (k + 1)), .int 5]) (rest := []) [0] C (c_X5_has_ l g a0 n f (k + 1) b 5 (by omega) hb (by omega)) gX5_whyJoin_X5_has_ rfl rfl rfl hd_X5_has_ ⟨Nat.le_of_ble_eq_true rfl, Nat.le_of_ble_eq_true rfl⟩ rfl rfl dX5_whyJoin_72 rfl (Nat.le_of_ble_eq_true rfl) ⟨Nat.le_of_ble_eq_true rfl, Nat.le_of_ble_eq_true rfl⟩) ?_
          refine j_if_eq (tgt := 80) C dX5_whyJoin_75 (by decide) (fun c_9 => ?_) (fun c_9 => ?_)
          · skip
            have c_9 : (jHas f (k + 1) 5 b 0) = false := jb_0 c_9
            refine j_aload_n 0 C dX5_whyJoin_80 rfl rfl ?_
            refine j_iload_n 1 C dX5_whyJoin_81 rfl rfl ?_
            refine j_iload_n 1 C dX5_whyJoin_82 rfl rfl ?_
            refine j_iconst (v := 1) C dX5_whyJoin_83 rfl ?_
            refine j_iadd (x := nI k) (y := 1) (v := nI (k + 1)) C dX5_whyJoin_84 (nI_add k 1) ?_
            refine j_callRi (v := jb (jApt (jEf f k (a - 0) 0 0) (jEf f (k + 1) (b - 0) 0 0))) (j_runS (As := [.ref a0, .int (nI k), .int (nI (k + 1))]) (rest := []) [0] C (c_X5_areApart_ l g a0 n f k (k + 1) a b (by omega) (by omega) ha (by omega) hb (by omega)) gX5_whyJoin_X5_areApart_ rfl rfl rfl hd_X5_areApart_ ⟨Nat.le_of_ble_eq_true rfl, Nat.le_of_ble_eq_true rfl⟩ rfl rfl dX5_whyJoin_85 rfl (Nat.le_of_ble_eq_true rfl) ⟨Nat.le_of_ble_eq_true rfl, Nat.le_of_ble_eq_true rfl⟩) ?_
            refine j_if_ne (tgt := 93) C dX5_whyJoin_88 (by decide) (fun c_10 => ?_) (fun c_10 => ?_)
            · skip
              have c_10 : (jApt (jEf f k (a - 0) 0 0) (jEf f (k + 1) (b - 0) 0 0)) = true := jb_1 c_10
              refine j_aload_n 0 C dX5_whyJoin_93 rfl rfl ?_
              refine j_iload_n 1 C dX5_whyJoin_94 rfl rfl ?_
              refine j_callRi (v := f (k * 28 + 3)) (j_runS (As := [.ref a0, .int (nI k)]) (rest := []) [0] C (c_X5_steps l g a0 n f k (by omega)) gX5_whyJoin_X5_steps rfl rfl rfl hd_X5_steps ⟨Nat.le_of_ble_eq_true rfl, Nat.le_of_ble_eq_true rfl⟩ rfl rfl dX5_whyJoin_95 rfl (Nat.le_of_ble_eq_true rfl) ⟨Nat.le_of_ble_eq_true rfl, Nat.le_of_ble_eq_true rfl⟩) ?_
              refine j_eq (pc' := 98) (L' := [(0, .ref a0), (1, .int (nI k)), (2, .int (nI w))]) (st' := [.int (nI a)]) (ws' := [(a0, jaI g 253 (jrw n f))]) ?_ rfl rfl (by rw [ha]) rfl
              refine j_aload_n 0 C dX5_whyJoin_98 rfl rfl ?_
              refine j_iload_n 1 C dX5_whyJoin_99 rfl rfl ?_
              refine j_iconst (v := 1) C dX5_whyJoin_100 rfl ?_
              refine j_iadd (x := nI k) (y := 1) (v := nI (k + 1)) C dX5_whyJoin_101 (nI_add k 1) ?_
              refine j_callRi (v := f ((k + 1) * 28 + 3)) (j_runS (As := [.ref a0, .int (nI (k + 1))]) (rest := [.int (nI a)]) [0] C (c_X5_steps l g a0 n f (k + 1) (by omega)) gX5_whyJoin_X5_steps rfl rfl rfl hd_X5_steps ⟨Nat.le_of_ble_eq_true rfl, Nat.le_of_ble_eq_true rfl⟩ rfl rfl dX5_whyJoin_102 rfl (Nat.le_of_ble_eq_true rfl) ⟨Nat.le_of_ble_eq_true rfl, Nat.le_of_ble_eq_true rfl⟩) ?_
              refine j_eq (pc' := 105) (L' := [(0, .ref a0), (1, .int (nI k)), (2, .int (nI w))]) (st' := [.int (nI b), .int (nI a)]) (ws' := [(a0, jaI g 253 (jrw n f))]) ?_ rfl rfl (by rw [hb]) rfl
              refine j_iadd (x := nI a) (y := nI b) (v := nI (a + b)) C dX5_whyJoin_105 (nI_add a b) ?_
              refine j_bipush (v := 6) C dX5_whyJoin_106 rfl ?_
              refine j_icmp_le (tgt := 115) C dX5_whyJoin_108 (by decide) (fun c_11 => ?_) (fun c_11 => ?_)
              · skip
                have c_11 : (a + b) ≤ 6 := (nI_leI (a := a + b) (b := 6) (by omega) (by omega)).mp c_11
                refine j_iconst (v := 0) C dX5_whyJoin_115 rfl ?_
                exact j_iretR (v := 0) C hr dX5_whyJoin_116 (by rw [jRJ, if_neg (by rw [hsm]; decide)]; simp_all)
              · skip
                have c_11 : ¬ (a + b) ≤ 6 := fun z => c_11 ((nI_leI (a := a + b) (b := 6) (by omega) (by omega)).mpr z)
                refine j_iconst (v := 5) C dX5_whyJoin_111 rfl ?_
                refine j_goto (tgt := 116) C dX5_whyJoin_112 (by decide) ?_
                exact j_iretR (v := 5) C hr dX5_whyJoin_116 (by rw [jRJ, if_neg (by rw [hsm]; decide)]; simp_all)
            · skip
              have c_10 : (jApt (jEf f k (a - 0) 0 0) (jEf f (k + 1) (b - 0) 0 0)) = false := jb_0 c_10
              refine j_iconst (v := 4) C dX5_whyJoin_91 rfl ?_
              exact j_iretR (v := 4) C hr dX5_whyJoin_92 (by rw [jRJ, if_neg (by rw [hsm]; decide)]; simp_all)
          · skip
            have c_9 : (jHas f (k + 1) 5 b 0) = true := jb_1 c_9
            refine j_iconst (v := 3) C dX5_whyJoin_78 rfl ?_
            exact j_iretR (v := 3) C hr dX5_whyJoin_79 (by rw [jRJ, if_neg (by rw [hsm]; decide)]; simp_all)
      · skip
        have c_5 : (jHas f (k + 1) 4 b 0) = true := jb_1 c_5
        refine j_iconst (v := 2) C dX5_whyJoin_56 rfl ?_
        exact j_iretR (v := 2) C hr dX5_whyJoin_57 (by rw [jRJ, if_neg (by rw [hsm]; decide)]; simp_all)
  · skip
    have c_3 : ¬ 3 ≤ w := fun z => c_3 ((nI_leI (a := 3) (b := w) (by omega) (by omega)).mpr z)
    refine j_aload_n 0 C dX5_whyJoin_7 rfl rfl ?_
    refine j_iload_n 1 C dX5_whyJoin_8 rfl rfl ?_
    refine j_callRi (v := nI (1 + 28 * k)) (j_runS (As := [.int (nI k)]) (rest := [.ref a0]) [] C (c_X5_loopAt l g k) gX5_whyJoin_X5_loopAt rfl rfl rfl hd_X5_loopAt ⟨Nat.le_of_ble_eq_true rfl, Nat.le_of_ble_eq_true rfl⟩ rfl rfl dX5_whyJoin_9 rfl (Nat.le_of_ble_eq_true rfl) ⟨Nat.le_of_ble_eq_true rfl, Nat.le_of_ble_eq_true rfl⟩) ?_
    refine j_iload_n 2 C dX5_whyJoin_12 rfl rfl ?_
    refine j_iadd (x := nI (1 + 28 * k)) (y := nI w) (v := nI (1 + 28 * k + w)) C dX5_whyJoin_13 (nI_add (1 + 28 * k) w) ?_
    refine j_ialdR (x := 1 + 28 * k + w) (y := k * 28 + w) 0 C dX5_whyJoin_14 rfl rfl (by omega) (by omega) ?_
    refine j_aload_n 0 C dX5_whyJoin_15 rfl rfl ?_
    refine j_iload_n 1 C dX5_whyJoin_16 rfl rfl ?_
    refine j_iconst (v := 1) C dX5_whyJoin_17 rfl ?_
    refine j_iadd (x := nI k) (y := 1) (v := nI (k + 1)) C dX5_whyJoin_18 (nI_add k 1) ?_
    refine j_callRi (v := nI (1 + 28 * (k + 1))) (j_runS (As := [.int (nI (k + 1))]) (rest := [.ref a0, .int (f (k * 28 + w))]) [] C (c_X5_loopAt l g (k + 1)) gX5_whyJoin_X5_loopAt rfl rfl rfl hd_X5_loopAt ⟨Nat.le_of_ble_eq_true rfl, Nat.le_of_ble_eq_true rfl⟩ rfl rfl dX5_whyJoin_19 rfl (Nat.le_of_ble_eq_true rfl) ⟨Nat.le_of_ble_eq_true rfl, Nat.le_of_ble_eq_true rfl⟩) ?_
    refine j_iload_n 2 C dX5_whyJoin_22 rfl rfl ?_
    refine j_iadd (x := nI (1 + 28 * (k + 1))) (y := nI w) (v := nI (1 + 28 * (k + 1) + w)) C dX5_whyJoin_23 (nI_add (1 + 28 * (k + 1)) w) ?_
    refine j_ialdR (x := 1 + 28 * (k + 1) + w) (y := (k + 1) * 28 + w) 0 C dX5_whyJoin_24 rfl rfl (by omega) (by omega) ?_
    refine j_icmp_eq (tgt := 30) C dX5_whyJoin_25 (by decide) (fun c_12 => ?_) (fun c_12 => ?_)
    · skip
      refine j_iinc (v := nI (w + 1)) (L' := [(0, .ref a0), (1, .int (nI k)), (2, .int (nI (w + 1)))]) 2 C dX5_whyJoin_30 rfl (nI_add w 1) (Nat.le_of_ble_eq_true rfl) rfl rfl ?_
      refine j_goto (tgt := 2) C dX5_whyJoin_33 (by decide) ?_
      exact ih_1 (w + 1) ⟨(by omega), (fun z hz => by rcases Nat.lt_or_eq_of_le (Nat.le_of_lt_succ hz) with h | h; exact hI1 z h; rw [h]; assumption)⟩ (show 3 - (w + 1) < 3 - w from by omega)
    · skip
      refine j_iconst (v := 1) C dX5_whyJoin_28 rfl ?_
      exact j_iretR (v := 1) C hr dX5_whyJoin_29 (by rw [jRJ, if_pos]; have hne := ‹¬ f (k * 28 + w) = f ((k + 1) * 28 + w)›; cases hsm : jSame f k with | false => rfl | true => exfalso; simp only [jSame, Bool.and_eq_true, decide_eq_true_eq] at hsm; apply hne; rcases (show w = 0 ∨ w = 1 ∨ w = 2 by omega) with h | h | h <;> subst h; exact hsm.1; exact hsm.2.1; exact hsm.2.2)
set_option maxHeartbeats 4000000 in
set_option maxRecDepth 100000 in
theorem c_X5_whyDivide (l : Launch) (g : jG) (a0 n : Nat) (f : Nat → Int32) (k i a : Nat) (hk : k < 8) (ha : f (k * 28 + 3) = nI a) (ha6 : a ≤ 6) (hi : i ≤ 6) (hn : n ≤ 8) : jRi l yX5_whyDivide wsX5_whyDivide ({ frames := 5, cells := 0, slots := 0, locals := 112 }) g [.ref a0, .int (nI k), .int (nI i)] [(a0, jaI g 253 (jrw n f))] (jRD f n k i a) := by
  refine j_enterR (cc := cX5_whyDivide) (maxL := 4) (ret := (some .int)) (own := RX5) (L := [(0, .ref a0), (1, .int (nI k)), (2, .int (nI i))]) (by decide) rfl rfl (Nat.le_of_ble_eq_true rfl) rfl (fun p e s m args below meth c C hr => ?_)
  refine j_aload_n 0 C dX5_whyDivide_0 rfl rfl ?_
  refine j_iload_n 1 C dX5_whyDivide_1 rfl rfl ?_
  refine j_callRi (v := f (k * 28 + 3)) (j_runS (As := [.ref a0, .int (nI k)]) (rest := []) [0] C (c_X5_steps l g a0 n f k (by omega)) gX5_whyDivide_X5_steps rfl rfl rfl hd_X5_steps ⟨Nat.le_of_ble_eq_true rfl, Nat.le_of_ble_eq_true rfl⟩ rfl rfl dX5_whyDivide_2 rfl (Nat.le_of_ble_eq_true rfl) ⟨Nat.le_of_ble_eq_true rfl, Nat.le_of_ble_eq_true rfl⟩) ?_
  refine j_eq (pc' := 5) (L' := [(0, .ref a0), (1, .int (nI k)), (2, .int (nI i))]) (st' := [.int (nI a)]) (ws' := [(a0, jaI g 253 (jrw n f))]) ?_ rfl rfl (by rw [ha]) rfl
  refine j_istore_n (L' := [(0, .ref a0), (1, .int (nI k)), (2, .int (nI i)), (3, .int (nI a))]) C dX5_whyDivide_5 rfl (Nat.le_of_ble_eq_true rfl) rfl rfl ?_
  refine j_aload_n 0 C dX5_whyDivide_6 rfl rfl ?_
  refine j_iload_n 1 C dX5_whyDivide_7 rfl rfl ?_
  refine j_iconst (v := 4) C dX5_whyDivide_8 rfl ?_
  refine j_callRi (v := jb (jHas f k 4 a 0)) (j_runS (As := [.ref a0, .int (nI k), .int 4]) (rest := []) [0] C (c_X5_has_ l g a0 n f k a 4 (by omega) ha (by omega)) gX5_whyDivide_X5_has_ rfl rfl rfl hd_X5_has_ ⟨Nat.le_of_ble_eq_true rfl, Nat.le_of_ble_eq_true rfl⟩ rfl rfl dX5_whyDivide_9 rfl (Nat.le_of_ble_eq_true rfl) ⟨Nat.le_of_ble_eq_true rfl, Nat.le_of_ble_eq_true rfl⟩) ?_
  refine j_if_eq (tgt := 17) C dX5_whyDivide_12 (by decide) (fun c_1 => ?_) (fun c_1 => ?_)
  · skip
    have c_1 : (jHas f k 4 a 0) = false := jb_0 c_1
    refine j_aload_n 0 C dX5_whyDivide_17 rfl rfl ?_
    refine j_iload_n 1 C dX5_whyDivide_18 rfl rfl ?_
    refine j_iconst (v := 0) C dX5_whyDivide_19 rfl ?_
    refine j_iload_n 2 C dX5_whyDivide_20 rfl rfl ?_
    refine j_iconst (v := 5) C dX5_whyDivide_21 rfl ?_
    refine j_callRi (v := jb (jHas f k 5 (i - 0) 0)) (j_runS (As := [.ref a0, .int (nI k), .int 0, .int (nI i), .int 5]) (rest := []) [0] C (c_X5_has l g a0 n f k 0 i 5 (by omega) (by omega) (by omega)) gX5_whyDivide_X5_has rfl rfl rfl hd_X5_has ⟨Nat.le_of_ble_eq_true rfl, Nat.le_of_ble_eq_true rfl⟩ rfl rfl dX5_whyDivide_22 rfl (Nat.le_of_ble_eq_true rfl) ⟨Nat.le_of_ble_eq_true rfl, Nat.le_of_ble_eq_true rfl⟩) ?_
    refine j_if_eq (tgt := 41) C dX5_whyDivide_25 (by decide) (fun c_2 => ?_) (fun c_2 => ?_)
    · skip
      have c_2 : (jHas f k 5 (i - 0) 0) = false := jb_0 c_2
      refine j_aload_n 0 C dX5_whyDivide_41 rfl rfl ?_
      refine j_iload_n 1 C dX5_whyDivide_42 rfl rfl ?_
      refine j_iconst (v := 0) C dX5_whyDivide_43 rfl ?_
      refine j_iload_n 2 C dX5_whyDivide_44 rfl rfl ?_
      refine j_callRi (v := jEf f k (i - 0) 0 0) (j_runS (As := [.ref a0, .int (nI k), .int 0, .int (nI i)]) (rest := []) [0] C (c_X5_effects l g a0 n f k 0 i (by omega) (by omega) (by omega)) gX5_whyDivide_X5_effects rfl rfl rfl hd_X5_effects ⟨Nat.le_of_ble_eq_true rfl, Nat.le_of_ble_eq_true rfl⟩ rfl rfl dX5_whyDivide_45 rfl (Nat.le_of_ble_eq_true rfl) ⟨Nat.le_of_ble_eq_true rfl, Nat.le_of_ble_eq_true rfl⟩) ?_
      refine j_aload_n 0 C dX5_whyDivide_48 rfl rfl ?_
      refine j_iload_n 1 C dX5_whyDivide_49 rfl rfl ?_
      refine j_iload_n 2 C dX5_whyDivide_50 rfl rfl ?_
      refine j_iload_n 3 C dX5_whyDivide_51 rfl rfl ?_
      refine j_callRi (v := jEf f k (a - i) i 0) (j_runS (As := [.ref a0, .int (nI k), .int (nI i), .int (nI a)]) (rest := [.int (jEf f k (i - 0) 0 0)]) [0] C (c_X5_effects l g a0 n f k i a (by omega) (by omega) (by omega)) gX5_whyDivide_X5_effects rfl rfl rfl hd_X5_effects ⟨Nat.le_of_ble_eq_true rfl, Nat.le_of_ble_eq_true rfl⟩ rfl rfl dX5_whyDivide_52 rfl (Nat.le_of_ble_eq_true rfl) ⟨Nat.le_of_ble_eq_true rfl, Nat.le_of_ble_eq_true rfl⟩) ?_
      refine j_callRi (v := jb (jApt (jEf f k (i - 0) 0 0) (jEf f k (a - i) i 0))) (j_runS (As := [.int (jEf f k (i - 0) 0 0), .int (jEf f k (a - i) i 0)]) (rest := []) [] C (c_X5_areApart l g (jEf f k (i - 0) 0 0) (jEf f k (a - i) i 0)) gX5_whyDivide_X5_areApart rfl rfl rfl hd_X5_areApart ⟨Nat.le_of_ble_eq_true rfl, Nat.le_of_ble_eq_true rfl⟩ rfl rfl dX5_whyDivide_55 rfl (Nat.le_of_ble_eq_true rfl) ⟨Nat.le_of_ble_eq_true rfl, Nat.le_of_ble_eq_true rfl⟩) ?_
      refine j_if_ne (tgt := 63) C dX5_whyDivide_58 (by decide) (fun c_3 => ?_) (fun c_3 => ?_)
      · skip
        have c_3 : (jApt (jEf f k (i - 0) 0 0) (jEf f k (a - i) i 0)) = true := jb_1 c_3
        refine j_aload_n 0 C dX5_whyDivide_63 rfl rfl ?_
        refine j_iconst (v := 0) C dX5_whyDivide_64 rfl ?_
        refine j_ialdR0 0 C dX5_whyDivide_65 rfl rfl ?_
        refine j_bipush (v := 8) C dX5_whyDivide_66 rfl ?_
        refine j_icmp_ne (tgt := 76) C dX5_whyDivide_68 (by decide) (fun c_4 => ?_) (fun c_4 => ?_)
        · skip
          have c_4 : ¬ n = 8 := fun z => c_4 ((nI_eq (a := n) (b := 8) (by omega) (by omega)).mpr z)
          refine j_iconst (v := 0) C dX5_whyDivide_76 rfl ?_
          exact j_iretR (v := 0) C hr dX5_whyDivide_77 (by simp_all [jRD])
        · skip
          have c_4 : n = 8 := (nI_eq (a := n) (b := 8) (by omega) (by omega)).mp c_4
          refine j_bipush (v := 6) C dX5_whyDivide_71 rfl ?_
          refine j_goto (tgt := 77) C dX5_whyDivide_73 (by decide) ?_
          exact j_iretR (v := 6) C hr dX5_whyDivide_77 (by simp_all [jRD])
      · skip
        have c_3 : (jApt (jEf f k (i - 0) 0 0) (jEf f k (a - i) i 0)) = false := jb_0 c_3
        refine j_iconst (v := 4) C dX5_whyDivide_61 rfl ?_
        exact j_iretR (v := 4) C hr dX5_whyDivide_62 (by simp_all [jRD])
    · skip
      have c_2 : (jHas f k 5 (i - 0) 0) = true := jb_1 c_2
      refine j_aload_n 0 C dX5_whyDivide_28 rfl rfl ?_
      refine j_iload_n 1 C dX5_whyDivide_29 rfl rfl ?_
      refine j_iload_n 2 C dX5_whyDivide_30 rfl rfl ?_
      refine j_iload_n 3 C dX5_whyDivide_31 rfl rfl ?_
      refine j_iconst (v := 5) C dX5_whyDivide_32 rfl ?_
      refine j_callRi (v := jb (jHas f k 5 (a - i) i)) (j_runS (As := [.ref a0, .int (nI k), .int (nI i), .int (nI a), .int 5]) (rest := []) [0] C (c_X5_has l g a0 n f k i a 5 (by omega) (by omega) (by omega)) gX5_whyDivide_X5_has rfl rfl rfl hd_X5_has ⟨Nat.le_of_ble_eq_true rfl, Nat.le_of_ble_eq_true rfl⟩ rfl rfl dX5_whyDivide_33 rfl (Nat.le_of_ble_eq_true rfl) ⟨Nat.le_of_ble_eq_true rfl, Nat.le_of_ble_eq_true rfl⟩) ?_
      refine j_if_eq (tgt := 41) C dX5_whyDivide_36 (by decide) (fun c_5 => ?_) (fun c_5 => ?_)
      · skip
        have c_5 : (jHas f k 5 (a - i) i) = false := jb_0 c_5
        refine j_aload_n 0 C dX5_whyDivide_41 rfl rfl ?_
        refine j_iload_n 1 C dX5_whyDivide_42 rfl rfl ?_
        refine j_iconst (v := 0) C dX5_whyDivide_43 rfl ?_
        refine j_iload_n 2 C dX5_whyDivide_44 rfl rfl ?_
        refine j_callRi (v := jEf f k (i - 0) 0 0) (j_runS (As := [.ref a0, .int (nI k), .int 0, .int (nI i)]) (rest := []) [0] C (c_X5_effects l g a0 n f k 0 i (by omega) (by omega) (by omega)) gX5_whyDivide_X5_effects rfl rfl rfl hd_X5_effects ⟨Nat.le_of_ble_eq_true rfl, Nat.le_of_ble_eq_true rfl⟩ rfl rfl dX5_whyDivide_45 rfl (Nat.le_of_ble_eq_true rfl) ⟨Nat.le_of_ble_eq_true rfl, Nat.le_of_ble_eq_true rfl⟩) ?_
        refine j_aload_n 0 C dX5_whyDivide_48 rfl rfl ?_
        refine j_iload_n 1 C dX5_whyDivide_49 rfl rfl ?_
        refine j_iload_n 2 C dX5_whyDivide_50 rfl rfl ?_
        refine j_iload_n 3 C dX5_whyDivide_51 rfl rfl ?_
        refine j_callRi (v := jEf f k (a - i) i 0) (j_runS (As := [.ref a0, .int (nI k), .int (nI i), .int (nI a)]) (rest := [.int (jEf f k (i - 0) 0 0)]) [0] C (c_X5_effects l g a0 n f k i a (by omega) (by omega) (by omega)) gX5_whyDivide_X5_effects rfl rfl rfl hd_X5_effects ⟨Nat.le_of_ble_eq_true rfl, Nat.le_of_ble_eq_true rfl⟩ rfl rfl dX5_whyDivide_52 rfl (Nat.le_of_ble_eq_true rfl) ⟨Nat.le_of_ble_eq_true rfl, Nat.le_of_ble_eq_true rfl⟩) ?_
        refine j_callRi (v := jb (jApt (jEf f k (i - 0) 0 0) (jEf f k (a - i) i 0))) (j_runS (As := [.int (jEf f k (i - 0) 0 0), .int (jEf f k (a - i) i 0)]) (rest := []) [] C (c_X5_areApart l g (jEf f k (i - 0) 0 0) (jEf f k (a - i) i 0)) gX5_whyDivide_X5_areApart rfl rfl rfl hd_X5_areApart ⟨Nat.le_of_ble_eq_true rfl, Nat.le_of_ble_eq_true rfl⟩ rfl rfl dX5_whyDivide_55 rfl (Nat.le_of_ble_eq_true rfl) ⟨Nat.le_of_ble_eq_true rfl, Nat.le_of_ble_eq_true rfl⟩) ?_
        refine j_if_ne (tgt := 63) C dX5_whyDivide_58 (by decide) (fun c_6 => ?_) (fun c_6 => ?_)
        · skip
          have c_6 : (jApt (jEf f k (i - 0) 0 0) (jEf f k (a - i) i 0)) = true := jb_1 c_6
          refine j_aload_n 0 C dX5_whyDivide_63 rfl rfl ?_
          refine j_iconst (v := 0) C dX5_whyDivide_64 rfl ?_
          refine j_ialdR0 0 C dX5_whyDivide_65 rfl rfl ?_
          refine j_bipush (v := 8) C dX5_whyDivide_66 rfl ?_
          refine j_icmp_ne (tgt := 76) C dX5_whyDivide_68 (by decide) (fun c_7 => ?_) (fun c_7 => ?_)
          · skip
            have c_7 : ¬ n = 8 := fun z => c_7 ((nI_eq (a := n) (b := 8) (by omega) (by omega)).mpr z)
            refine j_iconst (v := 0) C dX5_whyDivide_76 rfl ?_
            exact j_iretR (v := 0) C hr dX5_whyDivide_77 (by simp_all [jRD])
          · skip
            have c_7 : n = 8 := (nI_eq (a := n) (b := 8) (by omega) (by omega)).mp c_7
            refine j_bipush (v := 6) C dX5_whyDivide_71 rfl ?_
            refine j_goto (tgt := 77) C dX5_whyDivide_73 (by decide) ?_
            exact j_iretR (v := 6) C hr dX5_whyDivide_77 (by simp_all [jRD])
        · skip
          have c_6 : (jApt (jEf f k (i - 0) 0 0) (jEf f k (a - i) i 0)) = false := jb_0 c_6
          refine j_iconst (v := 4) C dX5_whyDivide_61 rfl ?_
          exact j_iretR (v := 4) C hr dX5_whyDivide_62 (by simp_all [jRD])
      · skip
        have c_5 : (jHas f k 5 (a - i) i) = true := jb_1 c_5
        refine j_iconst (v := 3) C dX5_whyDivide_39 rfl ?_
        exact j_iretR (v := 3) C hr dX5_whyDivide_40 (by simp_all [jRD])
  · skip
    have c_1 : (jHas f k 4 a 0) = true := jb_1 c_1
    refine j_iconst (v := 2) C dX5_whyDivide_15 rfl ?_
    exact j_iretR (v := 2) C hr dX5_whyDivide_16 (by simp_all [jRD])
set_option maxHeartbeats 4000000 in
set_option maxRecDepth 100000 in
theorem c_X5_whyPeel (l : Launch) (g : jG) (a0 n : Nat) (f : Nat → Int32) (k w a v u : Nat) (hk : k < 8) (ha : f (k * 28 + 3) = nI a) (ha6 : a ≤ 6) (hn : n ≤ 8) (hw1 : 1 ≤ w) (hw2 : w ≤ 10) (hv : f (k * 28 + 0) = nI v) (hv5 : v ≤ 5) (hu : f (k * 28 + 1) = nI u) (hu5 : u ≤ 5) : jRi l yX5_whyPeel wsX5_whyPeel ({ frames := 5, cells := 0, slots := 0, locals := 112 }) g [.ref a0, .int (nI k), .int (nI w)] [(a0, jaI g 253 (jrw n f))] (jRP f n k w a v u) := by
  refine j_enterR (cc := cX5_whyPeel) (maxL := 5) (ret := (some .int)) (own := RX5) (L := [(0, .ref a0), (1, .int (nI k)), (2, .int (nI w))]) (by decide) rfl rfl (Nat.le_of_ble_eq_true rfl) rfl (fun p e s m args below meth c C hr => ?_)
  refine j_aload_n 0 C dX5_whyPeel_0 rfl rfl ?_
  refine j_iload_n 1 C dX5_whyPeel_1 rfl rfl ?_
  refine j_callRi (v := nI (1 + 28 * k)) (j_runS (As := [.int (nI k)]) (rest := [.ref a0]) [] C (c_X5_loopAt l g k) gX5_whyPeel_X5_loopAt rfl rfl rfl hd_X5_loopAt ⟨Nat.le_of_ble_eq_true rfl, Nat.le_of_ble_eq_true rfl⟩ rfl rfl dX5_whyPeel_2 rfl (Nat.le_of_ble_eq_true rfl) ⟨Nat.le_of_ble_eq_true rfl, Nat.le_of_ble_eq_true rfl⟩) ?_
  refine j_ialdR (x := 1 + 28 * k) (y := k * 28 + 0) 0 C dX5_whyPeel_5 rfl rfl (by omega) (by omega) ?_
  refine j_eq (pc' := 6) (L' := [(0, .ref a0), (1, .int (nI k)), (2, .int (nI w))]) (st' := [.int (nI v)]) (ws' := [(a0, jaI g 253 (jrw n f))]) ?_ rfl rfl (by rw [hv]) rfl
  refine j_istore_n (L' := [(0, .ref a0), (1, .int (nI k)), (2, .int (nI w)), (3, .int (nI v))]) C dX5_whyPeel_6 rfl (Nat.le_of_ble_eq_true rfl) rfl rfl ?_
  refine j_aload_n 0 C dX5_whyPeel_7 rfl rfl ?_
  refine j_iload_n 1 C dX5_whyPeel_8 rfl rfl ?_
  refine j_callRi (v := nI (1 + 28 * k)) (j_runS (As := [.int (nI k)]) (rest := [.ref a0]) [] C (c_X5_loopAt l g k) gX5_whyPeel_X5_loopAt rfl rfl rfl hd_X5_loopAt ⟨Nat.le_of_ble_eq_true rfl, Nat.le_of_ble_eq_true rfl⟩ rfl rfl dX5_whyPeel_9 rfl (Nat.le_of_ble_eq_true rfl) ⟨Nat.le_of_ble_eq_true rfl, Nat.le_of_ble_eq_true rfl⟩) ?_
  refine j_iconst (v := 1) C dX5_whyPeel_12 rfl ?_
  refine j_iadd (x := nI (1 + 28 * k)) (y := 1) (v := nI (1 + 28 * k + 1)) C dX5_whyPeel_13 (nI_add (1 + 28 * k) 1) ?_
  refine j_ialdR (x := 1 + 28 * k + 1) (y := k * 28 + 1) 0 C dX5_whyPeel_14 rfl rfl (by omega) (by omega) ?_
  refine j_eq (pc' := 15) (L' := [(0, .ref a0), (1, .int (nI k)), (2, .int (nI w)), (3, .int (nI v))]) (st' := [.int (nI u)]) (ws' := [(a0, jaI g 253 (jrw n f))]) ?_ rfl rfl (by rw [hu]) rfl
  refine j_istore (L' := [(0, .ref a0), (1, .int (nI k)), (2, .int (nI w)), (3, .int (nI v)), (4, .int (nI u))]) C dX5_whyPeel_15 (Nat.le_of_ble_eq_true rfl) rfl rfl ?_
  refine j_aload_n 0 C dX5_whyPeel_17 rfl rfl ?_
  refine j_iload_n 1 C dX5_whyPeel_18 rfl rfl ?_
  refine j_callRi (v := nI (1 + 28 * k)) (j_runS (As := [.int (nI k)]) (rest := [.ref a0]) [] C (c_X5_loopAt l g k) gX5_whyPeel_X5_loopAt rfl rfl rfl hd_X5_loopAt ⟨Nat.le_of_ble_eq_true rfl, Nat.le_of_ble_eq_true rfl⟩ rfl rfl dX5_whyPeel_19 rfl (Nat.le_of_ble_eq_true rfl) ⟨Nat.le_of_ble_eq_true rfl, Nat.le_of_ble_eq_true rfl⟩) ?_
  refine j_iconst (v := 2) C dX5_whyPeel_22 rfl ?_
  refine j_iadd (x := nI (1 + 28 * k)) (y := 2) (v := nI (1 + 28 * k + 2)) C dX5_whyPeel_23 (nI_add (1 + 28 * k) 2) ?_
  refine j_ialdR (x := 1 + 28 * k + 2) (y := k * 28 + 2) 0 C dX5_whyPeel_24 rfl rfl (by omega) (by omega) ?_
  refine j_if_ne (tgt := 31) C dX5_whyPeel_25 (by decide) (fun c_1 => ?_) (fun c_1 => ?_)
  · skip
    refine j_iload_n 3 C dX5_whyPeel_31 rfl rfl ?_
    refine j_iload 4 C dX5_whyPeel_32 rfl ?_
    refine j_iadd (x := nI v) (y := nI u) (v := nI (v + u)) C dX5_whyPeel_34 (nI_add v u) ?_
    refine j_iload_n 2 C dX5_whyPeel_35 rfl rfl ?_
    refine j_iconst (v := 1) C dX5_whyPeel_36 rfl ?_
    refine j_isub (x := nI w) (y := 1) (v := nI (w - 1)) C dX5_whyPeel_37 (pk_sub (a := w) (b := 1) (by omega)) ?_
    refine j_icmp_gt (tgt := 55) C dX5_whyPeel_38 (by decide) (fun c_2 => ?_) (fun c_2 => ?_)
    · skip
      have c_2 : (w - 1) < (v + u) := (nI_ltI (a := w - 1) (b := v + u) (by omega) (by omega)).mp c_2
      refine j_bipush (v := 8) C dX5_whyPeel_55 rfl ?_
      exact j_iretR (v := 8) C hr dX5_whyPeel_57 (by rw [jRP, if_neg (by assumption), if_pos (by omega)])
    · skip
      have c_2 : ¬ (w - 1) < (v + u) := fun z => c_2 ((nI_ltI (a := w - 1) (b := v + u) (by omega) (by omega)).mpr z)
      refine j_iload_n 2 C dX5_whyPeel_41 rfl rfl ?_
      refine j_iconst (v := 1) C dX5_whyPeel_42 rfl ?_
      refine j_isub (x := nI w) (y := 1) (v := nI (w - 1)) C dX5_whyPeel_43 (pk_sub (a := w) (b := 1) (by omega)) ?_
      refine j_iload_n 3 C dX5_whyPeel_44 rfl rfl ?_
      refine j_isub (x := nI (w - 1)) (y := nI v) (v := nI ((w - 1) - v)) C dX5_whyPeel_45 (pk_sub (a := w - 1) (b := v) (by omega)) ?_
      refine j_iconst (v := 5) C dX5_whyPeel_46 rfl ?_
      refine j_icmp_gt (tgt := 55) C dX5_whyPeel_47 (by decide) (fun c_3 => ?_) (fun c_3 => ?_)
      · skip
        have c_3 : 5 < ((w - 1) - v) := (nI_ltI (a := 5) (b := (w - 1) - v) (by omega) (by omega)).mp c_3
        refine j_bipush (v := 8) C dX5_whyPeel_55 rfl ?_
        exact j_iretR (v := 8) C hr dX5_whyPeel_57 (by rw [jRP, if_neg (by assumption), if_pos (by omega)])
      · skip
        have c_3 : ¬ 5 < ((w - 1) - v) := fun z => c_3 ((nI_ltI (a := 5) (b := (w - 1) - v) (by omega) (by omega)).mpr z)
        refine j_iload_n 3 C dX5_whyPeel_50 rfl rfl ?_
        refine j_iconst (v := 5) C dX5_whyPeel_51 rfl ?_
        refine j_icmp_ne (tgt := 58) C dX5_whyPeel_52 (by decide) (fun c_4 => ?_) (fun c_4 => ?_)
        · skip
          have c_4 : ¬ v = 5 := fun z => c_4 ((nI_eq (a := v) (b := 5) (by omega) (by omega)).mpr z)
          refine j_aload_n 0 C dX5_whyPeel_58 rfl rfl ?_
          refine j_iload_n 1 C dX5_whyPeel_59 rfl rfl ?_
          refine j_iconst (v := 4) C dX5_whyPeel_60 rfl ?_
          refine j_callRi (v := jb (jHas f k 4 a 0)) (j_runS (As := [.ref a0, .int (nI k), .int 4]) (rest := []) [0] C (c_X5_has_ l g a0 n f k a 4 (by omega) ha (by omega)) gX5_whyPeel_X5_has_ rfl rfl rfl hd_X5_has_ ⟨Nat.le_of_ble_eq_true rfl, Nat.le_of_ble_eq_true rfl⟩ rfl rfl dX5_whyPeel_61 rfl (Nat.le_of_ble_eq_true rfl) ⟨Nat.le_of_ble_eq_true rfl, Nat.le_of_ble_eq_true rfl⟩) ?_
          refine j_if_eq (tgt := 69) C dX5_whyPeel_64 (by decide) (fun c_5 => ?_) (fun c_5 => ?_)
          · skip
            have c_5 : (jHas f k 4 a 0) = false := jb_0 c_5
            refine j_aload_n 0 C dX5_whyPeel_69 rfl rfl ?_
            refine j_iconst (v := 0) C dX5_whyPeel_70 rfl ?_
            refine j_ialdR0 0 C dX5_whyPeel_71 rfl rfl ?_
            refine j_bipush (v := 8) C dX5_whyPeel_72 rfl ?_
            refine j_icmp_ne (tgt := 82) C dX5_whyPeel_74 (by decide) (fun c_6 => ?_) (fun c_6 => ?_)
            · skip
              have c_6 : ¬ n = 8 := fun z => c_6 ((nI_eq (a := n) (b := 8) (by omega) (by omega)).mpr z)
              refine j_iconst (v := 0) C dX5_whyPeel_82 rfl ?_
              exact j_iretR (v := 0) C hr dX5_whyPeel_83 (by rw [jRP, if_neg (by assumption), if_neg (by omega), if_neg (by simp_all)]; first | rw [if_pos (by omega)] | rw [if_neg (by omega)])
            · skip
              have c_6 : n = 8 := (nI_eq (a := n) (b := 8) (by omega) (by omega)).mp c_6
              refine j_bipush (v := 6) C dX5_whyPeel_77 rfl ?_
              refine j_goto (tgt := 83) C dX5_whyPeel_79 (by decide) ?_
              exact j_iretR (v := 6) C hr dX5_whyPeel_83 (by rw [jRP, if_neg (by assumption), if_neg (by omega), if_neg (by simp_all)]; first | rw [if_pos (by omega)] | rw [if_neg (by omega)])
          · skip
            have c_5 : (jHas f k 4 a 0) = true := jb_1 c_5
            refine j_iconst (v := 2) C dX5_whyPeel_67 rfl ?_
            exact j_iretR (v := 2) C hr dX5_whyPeel_68 (by rw [jRP, if_neg (by assumption), if_neg (by omega), if_pos (by assumption)])
        · skip
          have c_4 : v = 5 := (nI_eq (a := v) (b := 5) (by omega) (by omega)).mp c_4
          refine j_bipush (v := 8) C dX5_whyPeel_55 rfl ?_
          exact j_iretR (v := 8) C hr dX5_whyPeel_57 (by rw [jRP, if_neg (by assumption), if_pos (by omega)])
  · skip
    refine j_bipush (v := 7) C dX5_whyPeel_28 rfl ?_
    exact j_iretR (v := 7) C hr dX5_whyPeel_30 (by rw [jRP, if_pos (by assumption)])
set_option maxHeartbeats 4000000 in
set_option maxRecDepth 100000 in
theorem c_X5_whyTurn (l : Launch) (g : jG) (a0 n : Nat) (f : Nat → Int32) (k a : Nat) (hk : k < 8) (ha : f (k * 28 + 3) = nI a) (ha6 : a ≤ 6) : jRi l yX5_whyTurn wsX5_whyTurn ({ frames := 5, cells := 0, slots := 0, locals := 112 }) g [.ref a0, .int (nI k)] [(a0, jaI g 253 (jrw n f))] (jRT f k a) := by
  refine j_enterR (cc := cX5_whyTurn) (maxL := 6) (ret := (some .int)) (own := RX5) (L := [(0, .ref a0), (1, .int (nI k))]) (by decide) rfl rfl (Nat.le_of_ble_eq_true rfl) rfl (fun p e s m args below meth c C hr => ?_)
  refine j_aload_n 0 C dX5_whyTurn_0 rfl rfl ?_
  refine j_iload_n 1 C dX5_whyTurn_1 rfl rfl ?_
  refine j_iconst (v := 4) C dX5_whyTurn_2 rfl ?_
  refine j_callRi (v := jb (jHas f k 4 a 0)) (j_runS (As := [.ref a0, .int (nI k), .int 4]) (rest := []) [0] C (c_X5_has_ l g a0 n f k a 4 (by omega) ha (by omega)) gX5_whyTurn_X5_has_ rfl rfl rfl hd_X5_has_ ⟨Nat.le_of_ble_eq_true rfl, Nat.le_of_ble_eq_true rfl⟩ rfl rfl dX5_whyTurn_3 rfl (Nat.le_of_ble_eq_true rfl) ⟨Nat.le_of_ble_eq_true rfl, Nat.le_of_ble_eq_true rfl⟩) ?_
  refine j_if_eq (tgt := 11) C dX5_whyTurn_6 (by decide) (fun c_1 => ?_) (fun c_1 => ?_)
  · skip
    have c_1 : (jHas f k 4 a 0) = false := jb_0 c_1
    refine j_iconst (v := -1) C dX5_whyTurn_11 rfl ?_
    refine j_istore_n (L' := [(0, .ref a0), (1, .int (nI k)), (2, .int (-1))]) C dX5_whyTurn_12 rfl (Nat.le_of_ble_eq_true rfl) rfl rfl ?_
    refine j_iconst (v := 0) C dX5_whyTurn_13 rfl ?_
    refine j_istore_n (L' := [(0, .ref a0), (1, .int (nI k)), (2, .int (-1)), (3, .int 0)]) C dX5_whyTurn_14 rfl (Nat.le_of_ble_eq_true rfl) rfl rfl ?_
    refine j_iconst (v := 0) C dX5_whyTurn_15 rfl ?_
    refine j_istore (L' := [(0, .ref a0), (1, .int (nI k)), (2, .int (-1)), (3, .int 0), (4, .int 0)]) C dX5_whyTurn_16 (Nat.le_of_ble_eq_true rfl) rfl rfl ?_
    refine j_iconst (v := 0) C dX5_whyTurn_18 rfl ?_
    refine j_istore (L' := [(0, .ref a0), (1, .int (nI k)), (2, .int (-1)), (3, .int 0), (4, .int 0), (5, .int 0)]) C dX5_whyTurn_19 (Nat.le_of_ble_eq_true rfl) rfl rfl ?_
    refine j_loop (σ := Nat × Int32 × Bool × Int32) (fun (x9_ : Nat × Int32 × Bool × Int32) => match x9_ with | (j, lk, ot, cd) => [(0, .ref a0), (1, .int (nI k)), (2, .int cd), (3, .int lk), (4, .int (jb ot)), (5, .int (nI j))]) (fun (x9_ : Nat × Int32 × Bool × Int32) => match x9_ with | (j, lk, ot, cd) => [(a0, jaI g 253 (jrw n f))]) (fun (x9_ : Nat × Int32 × Bool × Int32) => match x9_ with | (j, lk, ot, cd) => (j ≤ a) ∧ (jTu f k (a - j) j lk ot cd = jTu f k a 0 0 false (-1))) (fun (x9_ : Nat × Int32 × Bool × Int32) => match x9_ with | (j, lk, ot, cd) => a - j) (fun x_ hi_3 ih_2 => ?_) (0, 0, false, (-1)) ⟨(by omega), rfl⟩ rfl rfl
    obtain ⟨j, lk, ot, cd⟩ := x_
    obtain ⟨hI0, hI1⟩ := (show (j ≤ a) ∧ (jTu f k (a - j) j lk ot cd = jTu f k a 0 0 false (-1)) from hi_3)
    refine j_eq (pc' := 21) (L' := [(0, .ref a0), (1, .int (nI k)), (2, .int cd), (3, .int lk), (4, .int (jb ot)), (5, .int (nI j))]) (st' := []) (ws' := [(a0, jaI g 253 (jrw n f))]) ?_ rfl rfl rfl rfl
    refine j_iload 5 C dX5_whyTurn_21 rfl ?_
    refine j_aload_n 0 C dX5_whyTurn_23 rfl rfl ?_
    refine j_iload_n 1 C dX5_whyTurn_24 rfl rfl ?_
    refine j_callRi (v := f (k * 28 + 3)) (j_runS (As := [.ref a0, .int (nI k)]) (rest := [.int (nI j)]) [0] C (c_X5_steps l g a0 n f k (by omega)) gX5_whyTurn_X5_steps rfl rfl rfl hd_X5_steps ⟨Nat.le_of_ble_eq_true rfl, Nat.le_of_ble_eq_true rfl⟩ rfl rfl dX5_whyTurn_25 rfl (Nat.le_of_ble_eq_true rfl) ⟨Nat.le_of_ble_eq_true rfl, Nat.le_of_ble_eq_true rfl⟩) ?_
    refine j_eq (pc' := 28) (L' := [(0, .ref a0), (1, .int (nI k)), (2, .int cd), (3, .int lk), (4, .int (jb ot)), (5, .int (nI j))]) (st' := [.int (nI a), .int (nI j)]) (ws' := [(a0, jaI g 253 (jrw n f))]) ?_ rfl rfl (by rw [ha]) rfl
    refine j_icmp_ge (tgt := 132) C dX5_whyTurn_28 (by decide) (fun c_4 => ?_) (fun c_4 => ?_)
    · skip
      have c_4 : a ≤ j := (nI_leI (a := a) (b := j) (by omega) (by omega)).mp c_4
      have hT : jTu f k a 0 0 false (-1) = (lk, ot, cd) := by rw [← hI1, show a - j = 0 by omega]; rfl
      refine j_iload 4 C dX5_whyTurn_132 rfl ?_
      refine j_if_eq (tgt := 140) C dX5_whyTurn_134 (by decide) (fun c_5 => ?_) (fun c_5 => ?_)
      · skip
        have c_5 : ot = false := jb_0 c_5
        refine j_aload_n 0 C dX5_whyTurn_140 rfl rfl ?_
        refine j_iload_n 1 C dX5_whyTurn_141 rfl rfl ?_
        refine j_iconst (v := 0) C dX5_whyTurn_142 rfl ?_
        refine j_callRi (v := jb (jHas f k 0 a 0)) (j_runS (As := [.ref a0, .int (nI k), .int 0]) (rest := []) [0] C (c_X5_has_ l g a0 n f k a 0 (by omega) ha (by omega)) gX5_whyTurn_X5_has_ rfl rfl rfl hd_X5_has_ ⟨Nat.le_of_ble_eq_true rfl, Nat.le_of_ble_eq_true rfl⟩ rfl rfl dX5_whyTurn_143 rfl (Nat.le_of_ble_eq_true rfl) ⟨Nat.le_of_ble_eq_true rfl, Nat.le_of_ble_eq_true rfl⟩) ?_
        refine j_if_ne (tgt := 158) C dX5_whyTurn_146 (by decide) (fun c_6 => ?_) (fun c_6 => ?_)
        · skip
          have c_6 : (jHas f k 0 a 0) = true := jb_1 c_6
          refine j_bipush (v := 10) C dX5_whyTurn_158 rfl ?_
          exact j_iretR (v := 10) C hr dX5_whyTurn_160 (by simp_all [jRT])
        · skip
          have c_6 : (jHas f k 0 a 0) = false := jb_0 c_6
          refine j_aload_n 0 C dX5_whyTurn_149 rfl rfl ?_
          refine j_iload_n 1 C dX5_whyTurn_150 rfl rfl ?_
          refine j_iconst (v := 1) C dX5_whyTurn_151 rfl ?_
          refine j_callRi (v := jb (jHas f k 1 a 0)) (j_runS (As := [.ref a0, .int (nI k), .int 1]) (rest := []) [0] C (c_X5_has_ l g a0 n f k a 1 (by omega) ha (by omega)) gX5_whyTurn_X5_has_ rfl rfl rfl hd_X5_has_ ⟨Nat.le_of_ble_eq_true rfl, Nat.le_of_ble_eq_true rfl⟩ rfl rfl dX5_whyTurn_152 rfl (Nat.le_of_ble_eq_true rfl) ⟨Nat.le_of_ble_eq_true rfl, Nat.le_of_ble_eq_true rfl⟩) ?_
          refine j_if_eq (tgt := 161) C dX5_whyTurn_155 (by decide) (fun c_7 => ?_) (fun c_7 => ?_)
          · skip
            have c_7 : (jHas f k 1 a 0) = false := jb_0 c_7
            refine j_iload_n 3 C dX5_whyTurn_161 rfl rfl ?_
            refine j_aload_n 0 C dX5_whyTurn_162 rfl rfl ?_
            refine j_iload_n 1 C dX5_whyTurn_163 rfl rfl ?_
            refine j_iconst (v := 0) C dX5_whyTurn_164 rfl ?_
            refine j_aload_n 0 C dX5_whyTurn_165 rfl rfl ?_
            refine j_iload_n 1 C dX5_whyTurn_166 rfl rfl ?_
            refine j_callRi (v := f (k * 28 + 3)) (j_runS (As := [.ref a0, .int (nI k)]) (rest := [.int 0, .int (nI k), .ref a0, .int lk]) [0] C (c_X5_steps l g a0 n f k (by omega)) gX5_whyTurn_X5_steps rfl rfl rfl hd_X5_steps ⟨Nat.le_of_ble_eq_true rfl, Nat.le_of_ble_eq_true rfl⟩ rfl rfl dX5_whyTurn_167 rfl (Nat.le_of_ble_eq_true rfl) ⟨Nat.le_of_ble_eq_true rfl, Nat.le_of_ble_eq_true rfl⟩) ?_
            refine j_eq (pc' := 170) (L' := [(0, .ref a0), (1, .int (nI k)), (2, .int cd), (3, .int lk), (4, .int (jb ot)), (5, .int (nI j))]) (st' := [.int (nI a), .int 0, .int (nI k), .ref a0, .int lk]) (ws' := [(a0, jaI g 253 (jrw n f))]) ?_ rfl rfl (by rw [ha]) rfl
            refine j_callRi (v := jEf f k (a - 0) 0 0) (j_runS (As := [.ref a0, .int (nI k), .int 0, .int (nI a)]) (rest := [.int lk]) [0] C (c_X5_effects l g a0 n f k 0 a (by omega) (by omega) (by omega)) gX5_whyTurn_X5_effects rfl rfl rfl hd_X5_effects ⟨Nat.le_of_ble_eq_true rfl, Nat.le_of_ble_eq_true rfl⟩ rfl rfl dX5_whyTurn_170 rfl (Nat.le_of_ble_eq_true rfl) ⟨Nat.le_of_ble_eq_true rfl, Nat.le_of_ble_eq_true rfl⟩) ?_
            refine j_iand (x := lk) (y := jEf f k (a - 0) 0 0) (v := lk &&& (jEf f k (a - 0) 0 0)) C dX5_whyTurn_173 rfl ?_
            refine j_if_eq (tgt := 182) C dX5_whyTurn_174 (by decide) (fun c_8 => ?_) (fun c_8 => ?_)
            · skip
              refine j_iconst (v := 0) C dX5_whyTurn_182 rfl ?_
              exact j_iretR (v := 0) C hr dX5_whyTurn_183 (by simp_all [jRT])
            · skip
              refine j_bipush (v := 11) C dX5_whyTurn_177 rfl ?_
              refine j_goto (tgt := 183) C dX5_whyTurn_179 (by decide) ?_
              exact j_iretR (v := 11) C hr dX5_whyTurn_183 (by simp_all [jRT])
          · skip
            have c_7 : (jHas f k 1 a 0) = true := jb_1 c_7
            refine j_bipush (v := 10) C dX5_whyTurn_158 rfl ?_
            exact j_iretR (v := 10) C hr dX5_whyTurn_160 (by simp_all [jRT])
      · skip
        have c_5 : ot = true := jb_1 c_5
        refine j_bipush (v := 9) C dX5_whyTurn_137 rfl ?_
        exact j_iretR (v := 9) C hr dX5_whyTurn_139 (by simp_all [jRT])
    · skip
      have c_4 : ¬ a ≤ j := fun z => c_4 ((nI_leI (a := a) (b := j) (by omega) (by omega)).mpr z)
      refine j_aload_n 0 C dX5_whyTurn_31 rfl rfl ?_
      refine j_iload_n 1 C dX5_whyTurn_32 rfl rfl ?_
      refine j_iload 5 C dX5_whyTurn_33 rfl ?_
      refine j_iconst (v := 0) C dX5_whyTurn_35 rfl ?_
      refine j_callRi (v := f (k * 28 + 4 + j * 4 + 0)) (j_runS (As := [.ref a0, .int (nI k), .int (nI j), .int 0]) (rest := []) [0] C (c_X5_get l g a0 n f k j 0 (by omega)) gX5_whyTurn_X5_get rfl rfl rfl hd_X5_get ⟨Nat.le_of_ble_eq_true rfl, Nat.le_of_ble_eq_true rfl⟩ rfl rfl dX5_whyTurn_36 rfl (Nat.le_of_ble_eq_true rfl) ⟨Nat.le_of_ble_eq_true rfl, Nat.le_of_ble_eq_true rfl⟩) ?_
      refine j_if_eq (tgt := 73) C dX5_whyTurn_39 (by decide) (fun c_9 => ?_) (fun c_9 => ?_)
      · skip
        refine j_aload_n 0 C dX5_whyTurn_73 rfl rfl ?_
        refine j_iload_n 1 C dX5_whyTurn_74 rfl rfl ?_
        refine j_iload 5 C dX5_whyTurn_75 rfl ?_
        refine j_iconst (v := 2) C dX5_whyTurn_77 rfl ?_
        refine j_callRi (v := f (k * 28 + 4 + j * 4 + 2)) (j_runS (As := [.ref a0, .int (nI k), .int (nI j), .int 2]) (rest := []) [0] C (c_X5_get l g a0 n f k j 2 (by omega)) gX5_whyTurn_X5_get rfl rfl rfl hd_X5_get ⟨Nat.le_of_ble_eq_true rfl, Nat.le_of_ble_eq_true rfl⟩ rfl rfl dX5_whyTurn_78 rfl (Nat.le_of_ble_eq_true rfl) ⟨Nat.le_of_ble_eq_true rfl, Nat.le_of_ble_eq_true rfl⟩) ?_
        refine j_iconst (v := 5) C dX5_whyTurn_81 rfl ?_
        refine j_icmp_eq (tgt := 88) C dX5_whyTurn_82 (by decide) (fun c_10 => ?_) (fun c_10 => ?_)
        · skip
          refine j_iload 4 C dX5_whyTurn_88 rfl ?_
          refine j_if_ne (tgt := 110) C dX5_whyTurn_90 (by decide) (fun c_11 => ?_) (fun c_11 => ?_)
          · skip
            have c_11 : ot = true := jb_1 c_11
            refine j_iconst (v := 1) C dX5_whyTurn_110 rfl ?_
            refine j_goto (tgt := 115) C dX5_whyTurn_111 (by decide) ?_
            refine j_istore (L' := [(0, .ref a0), (1, .int (nI k)), (2, .int cd), (3, .int lk), (4, .int 1), (5, .int (nI j))]) C dX5_whyTurn_115 (Nat.le_of_ble_eq_true rfl) rfl rfl ?_
            refine j_aload_n 0 C dX5_whyTurn_117 rfl rfl ?_
            refine j_iload_n 1 C dX5_whyTurn_118 rfl rfl ?_
            refine j_iload 5 C dX5_whyTurn_119 rfl ?_
            refine j_iconst (v := 3) C dX5_whyTurn_121 rfl ?_
            refine j_callRi (v := f (k * 28 + 4 + j * 4 + 3)) (j_runS (As := [.ref a0, .int (nI k), .int (nI j), .int 3]) (rest := []) [0] C (c_X5_get l g a0 n f k j 3 (by omega)) gX5_whyTurn_X5_get rfl rfl rfl hd_X5_get ⟨Nat.le_of_ble_eq_true rfl, Nat.le_of_ble_eq_true rfl⟩ rfl rfl dX5_whyTurn_122 rfl (Nat.le_of_ble_eq_true rfl) ⟨Nat.le_of_ble_eq_true rfl, Nat.le_of_ble_eq_true rfl⟩) ?_
            refine j_istore_n (L' := [(0, .ref a0), (1, .int (nI k)), (2, .int (f (k * 28 + 4 + j * 4 + 3))), (3, .int lk), (4, .int 1), (5, .int (nI j))]) C dX5_whyTurn_125 rfl (Nat.le_of_ble_eq_true rfl) rfl rfl ?_
            refine j_iinc (v := nI (j + 1)) (L' := [(0, .ref a0), (1, .int (nI k)), (2, .int (f (k * 28 + 4 + j * 4 + 3))), (3, .int lk), (4, .int 1), (5, .int (nI (j + 1)))]) 5 C dX5_whyTurn_126 rfl (nI_add j 1) (Nat.le_of_ble_eq_true rfl) rfl rfl ?_
            refine j_goto (tgt := 21) C dX5_whyTurn_129 (by decide) ?_
            exact ih_2 (j + 1, lk, true, f (k * 28 + 4 + j * 4 + 3)) ⟨(by omega), (by rw [← hI1, show a - j = (a - (j + 1)) + 1 by omega, jTu_s]; (first | rw [if_pos (show f (k * 28 + 4 + j * 4 + 0) = 0 by assumption)] | (rw [if_neg (show ¬ f (k * 28 + 4 + j * 4 + 0) = 0 by assumption)]; first | rw [if_pos (show f (k * 28 + 4 + j * 4 + 1) < 1000 by assumption)] | rw [if_neg (show ¬ f (k * 28 + 4 + j * 4 + 1) < 1000 by assumption)])); simp_all)⟩ (show a - (j + 1) < a - j from by omega)
          · skip
            have c_11 : ot = false := jb_0 c_11
            refine j_iload_n 2 C dX5_whyTurn_93 rfl rfl ?_
            refine j_iconst (v := -1) C dX5_whyTurn_94 rfl ?_
            refine j_icmp_eq (tgt := 114) C dX5_whyTurn_95 (by decide) (fun c_12 => ?_) (fun c_12 => ?_)
            · skip
              refine j_iconst (v := 0) C dX5_whyTurn_114 rfl ?_
              refine j_istore (L' := [(0, .ref a0), (1, .int (nI k)), (2, .int cd), (3, .int lk), (4, .int 0), (5, .int (nI j))]) C dX5_whyTurn_115 (Nat.le_of_ble_eq_true rfl) rfl rfl ?_
              refine j_aload_n 0 C dX5_whyTurn_117 rfl rfl ?_
              refine j_iload_n 1 C dX5_whyTurn_118 rfl rfl ?_
              refine j_iload 5 C dX5_whyTurn_119 rfl ?_
              refine j_iconst (v := 3) C dX5_whyTurn_121 rfl ?_
              refine j_callRi (v := f (k * 28 + 4 + j * 4 + 3)) (j_runS (As := [.ref a0, .int (nI k), .int (nI j), .int 3]) (rest := []) [0] C (c_X5_get l g a0 n f k j 3 (by omega)) gX5_whyTurn_X5_get rfl rfl rfl hd_X5_get ⟨Nat.le_of_ble_eq_true rfl, Nat.le_of_ble_eq_true rfl⟩ rfl rfl dX5_whyTurn_122 rfl (Nat.le_of_ble_eq_true rfl) ⟨Nat.le_of_ble_eq_true rfl, Nat.le_of_ble_eq_true rfl⟩) ?_
              refine j_istore_n (L' := [(0, .ref a0), (1, .int (nI k)), (2, .int (f (k * 28 + 4 + j * 4 + 3))), (3, .int lk), (4, .int 0), (5, .int (nI j))]) C dX5_whyTurn_125 rfl (Nat.le_of_ble_eq_true rfl) rfl rfl ?_
              refine j_iinc (v := nI (j + 1)) (L' := [(0, .ref a0), (1, .int (nI k)), (2, .int (f (k * 28 + 4 + j * 4 + 3))), (3, .int lk), (4, .int 0), (5, .int (nI (j + 1)))]) 5 C dX5_whyTurn_126 rfl (nI_add j 1) (Nat.le_of_ble_eq_true rfl) rfl rfl ?_
              refine j_goto (tgt := 21) C dX5_whyTurn_129 (by decide) ?_
              exact ih_2 (j + 1, lk, false, f (k * 28 + 4 + j * 4 + 3)) ⟨(by omega), (by rw [← hI1, show a - j = (a - (j + 1)) + 1 by omega, jTu_s]; (first | rw [if_pos (show f (k * 28 + 4 + j * 4 + 0) = 0 by assumption)] | (rw [if_neg (show ¬ f (k * 28 + 4 + j * 4 + 0) = 0 by assumption)]; first | rw [if_pos (show f (k * 28 + 4 + j * 4 + 1) < 1000 by assumption)] | rw [if_neg (show ¬ f (k * 28 + 4 + j * 4 + 1) < 1000 by assumption)])); simp_all)⟩ (show a - (j + 1) < a - j from by omega)
            · skip
              refine j_iload_n 2 C dX5_whyTurn_98 rfl rfl ?_
              refine j_aload_n 0 C dX5_whyTurn_99 rfl rfl ?_
              refine j_iload_n 1 C dX5_whyTurn_100 rfl rfl ?_
              refine j_iload 5 C dX5_whyTurn_101 rfl ?_
              refine j_iconst (v := 3) C dX5_whyTurn_103 rfl ?_
              refine j_callRi (v := f (k * 28 + 4 + j * 4 + 3)) (j_runS (As := [.ref a0, .int (nI k), .int (nI j), .int 3]) (rest := [.int cd]) [0] C (c_X5_get l g a0 n f k j 3 (by omega)) gX5_whyTurn_X5_get rfl rfl rfl hd_X5_get ⟨Nat.le_of_ble_eq_true rfl, Nat.le_of_ble_eq_true rfl⟩ rfl rfl dX5_whyTurn_104 rfl (Nat.le_of_ble_eq_true rfl) ⟨Nat.le_of_ble_eq_true rfl, Nat.le_of_ble_eq_true rfl⟩) ?_
              refine j_icmp_eq (tgt := 114) C dX5_whyTurn_107 (by decide) (fun c_13 => ?_) (fun c_13 => ?_)
              · skip
                refine j_iconst (v := 0) C dX5_whyTurn_114 rfl ?_
                refine j_istore (L' := [(0, .ref a0), (1, .int (nI k)), (2, .int cd), (3, .int lk), (4, .int 0), (5, .int (nI j))]) C dX5_whyTurn_115 (Nat.le_of_ble_eq_true rfl) rfl rfl ?_
                refine j_aload_n 0 C dX5_whyTurn_117 rfl rfl ?_
                refine j_iload_n 1 C dX5_whyTurn_118 rfl rfl ?_
                refine j_iload 5 C dX5_whyTurn_119 rfl ?_
                refine j_iconst (v := 3) C dX5_whyTurn_121 rfl ?_
                refine j_callRi (v := f (k * 28 + 4 + j * 4 + 3)) (j_runS (As := [.ref a0, .int (nI k), .int (nI j), .int 3]) (rest := []) [0] C (c_X5_get l g a0 n f k j 3 (by omega)) gX5_whyTurn_X5_get rfl rfl rfl hd_X5_get ⟨Nat.le_of_ble_eq_true rfl, Nat.le_of_ble_eq_true rfl⟩ rfl rfl dX5_whyTurn_122 rfl (Nat.le_of_ble_eq_true rfl) ⟨Nat.le_of_ble_eq_true rfl, Nat.le_of_ble_eq_true rfl⟩) ?_
                refine j_istore_n (L' := [(0, .ref a0), (1, .int (nI k)), (2, .int (f (k * 28 + 4 + j * 4 + 3))), (3, .int lk), (4, .int 0), (5, .int (nI j))]) C dX5_whyTurn_125 rfl (Nat.le_of_ble_eq_true rfl) rfl rfl ?_
                refine j_iinc (v := nI (j + 1)) (L' := [(0, .ref a0), (1, .int (nI k)), (2, .int (f (k * 28 + 4 + j * 4 + 3))), (3, .int lk), (4, .int 0), (5, .int (nI (j + 1)))]) 5 C dX5_whyTurn_126 rfl (nI_add j 1) (Nat.le_of_ble_eq_true rfl) rfl rfl ?_
                refine j_goto (tgt := 21) C dX5_whyTurn_129 (by decide) ?_
                exact ih_2 (j + 1, lk, false, f (k * 28 + 4 + j * 4 + 3)) ⟨(by omega), (by rw [← hI1, show a - j = (a - (j + 1)) + 1 by omega, jTu_s]; (first | rw [if_pos (show f (k * 28 + 4 + j * 4 + 0) = 0 by assumption)] | (rw [if_neg (show ¬ f (k * 28 + 4 + j * 4 + 0) = 0 by assumption)]; first | rw [if_pos (show f (k * 28 + 4 + j * 4 + 1) < 1000 by assumption)] | rw [if_neg (show ¬ f (k * 28 + 4 + j * 4 + 1) < 1000 by assumption)])); simp_all)⟩ (show a - (j + 1) < a - j from by omega)
              · skip
                refine j_iconst (v := 1) C dX5_whyTurn_110 rfl ?_
                refine j_goto (tgt := 115) C dX5_whyTurn_111 (by decide) ?_
                refine j_istore (L' := [(0, .ref a0), (1, .int (nI k)), (2, .int cd), (3, .int lk), (4, .int 1), (5, .int (nI j))]) C dX5_whyTurn_115 (Nat.le_of_ble_eq_true rfl) rfl rfl ?_
                refine j_aload_n 0 C dX5_whyTurn_117 rfl rfl ?_
                refine j_iload_n 1 C dX5_whyTurn_118 rfl rfl ?_
                refine j_iload 5 C dX5_whyTurn_119 rfl ?_
                refine j_iconst (v := 3) C dX5_whyTurn_121 rfl ?_
                refine j_callRi (v := f (k * 28 + 4 + j * 4 + 3)) (j_runS (As := [.ref a0, .int (nI k), .int (nI j), .int 3]) (rest := []) [0] C (c_X5_get l g a0 n f k j 3 (by omega)) gX5_whyTurn_X5_get rfl rfl rfl hd_X5_get ⟨Nat.le_of_ble_eq_true rfl, Nat.le_of_ble_eq_true rfl⟩ rfl rfl dX5_whyTurn_122 rfl (Nat.le_of_ble_eq_true rfl) ⟨Nat.le_of_ble_eq_true rfl, Nat.le_of_ble_eq_true rfl⟩) ?_
                refine j_istore_n (L' := [(0, .ref a0), (1, .int (nI k)), (2, .int (f (k * 28 + 4 + j * 4 + 3))), (3, .int lk), (4, .int 1), (5, .int (nI j))]) C dX5_whyTurn_125 rfl (Nat.le_of_ble_eq_true rfl) rfl rfl ?_
                refine j_iinc (v := nI (j + 1)) (L' := [(0, .ref a0), (1, .int (nI k)), (2, .int (f (k * 28 + 4 + j * 4 + 3))), (3, .int lk), (4, .int 1), (5, .int (nI (j + 1)))]) 5 C dX5_whyTurn_126 rfl (nI_add j 1) (Nat.le_of_ble_eq_true rfl) rfl rfl ?_
                refine j_goto (tgt := 21) C dX5_whyTurn_129 (by decide) ?_
                exact ih_2 (j + 1, lk, true, f (k * 28 + 4 + j * 4 + 3)) ⟨(by omega), (by rw [← hI1, show a - j = (a - (j + 1)) + 1 by omega, jTu_s]; (first | rw [if_pos (show f (k * 28 + 4 + j * 4 + 0) = 0 by assumption)] | (rw [if_neg (show ¬ f (k * 28 + 4 + j * 4 + 0) = 0 by assumption)]; first | rw [if_pos (show f (k * 28 + 4 + j * 4 + 1) < 1000 by assumption)] | rw [if_neg (show ¬ f (k * 28 + 4 + j * 4 + 1) < 1000 by assumption)])); simp_all)⟩ (show a - (j + 1) < a - j from by omega)
        · skip
          refine j_goto (tgt := 126) C dX5_whyTurn_85 (by decide) ?_
          refine j_iinc (v := nI (j + 1)) (L' := [(0, .ref a0), (1, .int (nI k)), (2, .int cd), (3, .int lk), (4, .int (jb ot)), (5, .int (nI (j + 1)))]) 5 C dX5_whyTurn_126 rfl (nI_add j 1) (Nat.le_of_ble_eq_true rfl) rfl rfl ?_
          refine j_goto (tgt := 21) C dX5_whyTurn_129 (by decide) ?_
          exact ih_2 (j + 1, lk, ot, cd) ⟨(by omega), (by rw [← hI1, show a - j = (a - (j + 1)) + 1 by omega, jTu_s]; (first | rw [if_pos (show f (k * 28 + 4 + j * 4 + 0) = 0 by assumption)] | (rw [if_neg (show ¬ f (k * 28 + 4 + j * 4 + 0) = 0 by assumption)]; first | rw [if_pos (show f (k * 28 + 4 + j * 4 + 1) < 1000 by assumption)] | rw [if_neg (show ¬ f (k * 28 + 4 + j * 4 + 1) < 1000 by assumption)])); simp_all)⟩ (show a - (j + 1) < a - j from by omega)
      · skip
        refine j_aload_n 0 C dX5_whyTurn_42 rfl rfl ?_
        refine j_iload_n 1 C dX5_whyTurn_43 rfl rfl ?_
        refine j_iload 5 C dX5_whyTurn_44 rfl ?_
        refine j_iconst (v := 1) C dX5_whyTurn_46 rfl ?_
        refine j_callRi (v := f (k * 28 + 4 + j * 4 + 1)) (j_runS (As := [.ref a0, .int (nI k), .int (nI j), .int 1]) (rest := []) [0] C (c_X5_get l g a0 n f k j 1 (by omega)) gX5_whyTurn_X5_get rfl rfl rfl hd_X5_get ⟨Nat.le_of_ble_eq_true rfl, Nat.le_of_ble_eq_true rfl⟩ rfl rfl dX5_whyTurn_47 rfl (Nat.le_of_ble_eq_true rfl) ⟨Nat.le_of_ble_eq_true rfl, Nat.le_of_ble_eq_true rfl⟩) ?_
        refine j_sipush (v := 1000) C dX5_whyTurn_50 rfl ?_
        refine j_icmp_lt (tgt := 73) C dX5_whyTurn_53 (by decide) (fun c_14 => ?_) (fun c_14 => ?_)
        · skip
          refine j_aload_n 0 C dX5_whyTurn_73 rfl rfl ?_
          refine j_iload_n 1 C dX5_whyTurn_74 rfl rfl ?_
          refine j_iload 5 C dX5_whyTurn_75 rfl ?_
          refine j_iconst (v := 2) C dX5_whyTurn_77 rfl ?_
          refine j_callRi (v := f (k * 28 + 4 + j * 4 + 2)) (j_runS (As := [.ref a0, .int (nI k), .int (nI j), .int 2]) (rest := []) [0] C (c_X5_get l g a0 n f k j 2 (by omega)) gX5_whyTurn_X5_get rfl rfl rfl hd_X5_get ⟨Nat.le_of_ble_eq_true rfl, Nat.le_of_ble_eq_true rfl⟩ rfl rfl dX5_whyTurn_78 rfl (Nat.le_of_ble_eq_true rfl) ⟨Nat.le_of_ble_eq_true rfl, Nat.le_of_ble_eq_true rfl⟩) ?_
          refine j_iconst (v := 5) C dX5_whyTurn_81 rfl ?_
          refine j_icmp_eq (tgt := 88) C dX5_whyTurn_82 (by decide) (fun c_15 => ?_) (fun c_15 => ?_)
          · skip
            refine j_iload 4 C dX5_whyTurn_88 rfl ?_
            refine j_if_ne (tgt := 110) C dX5_whyTurn_90 (by decide) (fun c_16 => ?_) (fun c_16 => ?_)
            · skip
              have c_16 : ot = true := jb_1 c_16
              refine j_iconst (v := 1) C dX5_whyTurn_110 rfl ?_
              refine j_goto (tgt := 115) C dX5_whyTurn_111 (by decide) ?_
              refine j_istore (L' := [(0, .ref a0), (1, .int (nI k)), (2, .int cd), (3, .int lk), (4, .int 1), (5, .int (nI j))]) C dX5_whyTurn_115 (Nat.le_of_ble_eq_true rfl) rfl rfl ?_
              refine j_aload_n 0 C dX5_whyTurn_117 rfl rfl ?_
              refine j_iload_n 1 C dX5_whyTurn_118 rfl rfl ?_
              refine j_iload 5 C dX5_whyTurn_119 rfl ?_
              refine j_iconst (v := 3) C dX5_whyTurn_121 rfl ?_
              refine j_callRi (v := f (k * 28 + 4 + j * 4 + 3)) (j_runS (As := [.ref a0, .int (nI k), .int (nI j), .int 3]) (rest := []) [0] C (c_X5_get l g a0 n f k j 3 (by omega)) gX5_whyTurn_X5_get rfl rfl rfl hd_X5_get ⟨Nat.le_of_ble_eq_true rfl, Nat.le_of_ble_eq_true rfl⟩ rfl rfl dX5_whyTurn_122 rfl (Nat.le_of_ble_eq_true rfl) ⟨Nat.le_of_ble_eq_true rfl, Nat.le_of_ble_eq_true rfl⟩) ?_
              refine j_istore_n (L' := [(0, .ref a0), (1, .int (nI k)), (2, .int (f (k * 28 + 4 + j * 4 + 3))), (3, .int lk), (4, .int 1), (5, .int (nI j))]) C dX5_whyTurn_125 rfl (Nat.le_of_ble_eq_true rfl) rfl rfl ?_
              refine j_iinc (v := nI (j + 1)) (L' := [(0, .ref a0), (1, .int (nI k)), (2, .int (f (k * 28 + 4 + j * 4 + 3))), (3, .int lk), (4, .int 1), (5, .int (nI (j + 1)))]) 5 C dX5_whyTurn_126 rfl (nI_add j 1) (Nat.le_of_ble_eq_true rfl) rfl rfl ?_
              refine j_goto (tgt := 21) C dX5_whyTurn_129 (by decide) ?_
              exact ih_2 (j + 1, lk, true, f (k * 28 + 4 + j * 4 + 3)) ⟨(by omega), (by rw [← hI1, show a - j = (a - (j + 1)) + 1 by omega, jTu_s]; (first | rw [if_pos (show f (k * 28 + 4 + j * 4 + 0) = 0 by assumption)] | (rw [if_neg (show ¬ f (k * 28 + 4 + j * 4 + 0) = 0 by assumption)]; first | rw [if_pos (show f (k * 28 + 4 + j * 4 + 1) < 1000 by assumption)] | rw [if_neg (show ¬ f (k * 28 + 4 + j * 4 + 1) < 1000 by assumption)])); simp_all)⟩ (show a - (j + 1) < a - j from by omega)
            · skip
              have c_16 : ot = false := jb_0 c_16
              refine j_iload_n 2 C dX5_whyTurn_93 rfl rfl ?_
              refine j_iconst (v := -1) C dX5_whyTurn_94 rfl ?_
              refine j_icmp_eq (tgt := 114) C dX5_whyTurn_95 (by decide) (fun c_17 => ?_) (fun c_17 => ?_)
              · skip
                refine j_iconst (v := 0) C dX5_whyTurn_114 rfl ?_
                refine j_istore (L' := [(0, .ref a0), (1, .int (nI k)), (2, .int cd), (3, .int lk), (4, .int 0), (5, .int (nI j))]) C dX5_whyTurn_115 (Nat.le_of_ble_eq_true rfl) rfl rfl ?_
                refine j_aload_n 0 C dX5_whyTurn_117 rfl rfl ?_
                refine j_iload_n 1 C dX5_whyTurn_118 rfl rfl ?_
                refine j_iload 5 C dX5_whyTurn_119 rfl ?_
                refine j_iconst (v := 3) C dX5_whyTurn_121 rfl ?_
                refine j_callRi (v := f (k * 28 + 4 + j * 4 + 3)) (j_runS (As := [.ref a0, .int (nI k), .int (nI j), .int 3]) (rest := []) [0] C (c_X5_get l g a0 n f k j 3 (by omega)) gX5_whyTurn_X5_get rfl rfl rfl hd_X5_get ⟨Nat.le_of_ble_eq_true rfl, Nat.le_of_ble_eq_true rfl⟩ rfl rfl dX5_whyTurn_122 rfl (Nat.le_of_ble_eq_true rfl) ⟨Nat.le_of_ble_eq_true rfl, Nat.le_of_ble_eq_true rfl⟩) ?_
                refine j_istore_n (L' := [(0, .ref a0), (1, .int (nI k)), (2, .int (f (k * 28 + 4 + j * 4 + 3))), (3, .int lk), (4, .int 0), (5, .int (nI j))]) C dX5_whyTurn_125 rfl (Nat.le_of_ble_eq_true rfl) rfl rfl ?_
                refine j_iinc (v := nI (j + 1)) (L' := [(0, .ref a0), (1, .int (nI k)), (2, .int (f (k * 28 + 4 + j * 4 + 3))), (3, .int lk), (4, .int 0), (5, .int (nI (j + 1)))]) 5 C dX5_whyTurn_126 rfl (nI_add j 1) (Nat.le_of_ble_eq_true rfl) rfl rfl ?_
                refine j_goto (tgt := 21) C dX5_whyTurn_129 (by decide) ?_
                exact ih_2 (j + 1, lk, false, f (k * 28 + 4 + j * 4 + 3)) ⟨(by omega), (by rw [← hI1, show a - j = (a - (j + 1)) + 1 by omega, jTu_s]; (first | rw [if_pos (show f (k * 28 + 4 + j * 4 + 0) = 0 by assumption)] | (rw [if_neg (show ¬ f (k * 28 + 4 + j * 4 + 0) = 0 by assumption)]; first | rw [if_pos (show f (k * 28 + 4 + j * 4 + 1) < 1000 by assumption)] | rw [if_neg (show ¬ f (k * 28 + 4 + j * 4 + 1) < 1000 by assumption)])); simp_all)⟩ (show a - (j + 1) < a - j from by omega)
              · skip
                refine j_iload_n 2 C dX5_whyTurn_98 rfl rfl ?_
                refine j_aload_n 0 C dX5_whyTurn_99 rfl rfl ?_
                refine j_iload_n 1 C dX5_whyTurn_100 rfl rfl ?_
                refine j_iload 5 C dX5_whyTurn_101 rfl ?_
                refine j_iconst (v := 3) C dX5_whyTurn_103 rfl ?_
                refine j_callRi (v := f (k * 28 + 4 + j * 4 + 3)) (j_runS (As := [.ref a0, .int (nI k), .int (nI j), .int 3]) (rest := [.int cd]) [0] C (c_X5_get l g a0 n f k j 3 (by omega)) gX5_whyTurn_X5_get rfl rfl rfl hd_X5_get ⟨Nat.le_of_ble_eq_true rfl, Nat.le_of_ble_eq_true rfl⟩ rfl rfl dX5_whyTurn_104 rfl (Nat.le_of_ble_eq_true rfl) ⟨Nat.le_of_ble_eq_true rfl, Nat.le_of_ble_eq_true rfl⟩) ?_
                refine j_icmp_eq (tgt := 114) C dX5_whyTurn_107 (by decide) (fun c_18 => ?_) (fun c_18 => ?_)
                · skip
                  refine j_iconst (v := 0) C dX5_whyTurn_114 rfl ?_
                  refine j_istore (L' := [(0, .ref a0), (1, .int (nI k)), (2, .int cd), (3, .int lk), (4, .int 0), (5, .int (nI j))]) C dX5_whyTurn_115 (Nat.le_of_ble_eq_true rfl) rfl rfl ?_
                  refine j_aload_n 0 C dX5_whyTurn_117 rfl rfl ?_
                  refine j_iload_n 1 C dX5_whyTurn_118 rfl rfl ?_
                  refine j_iload 5 C dX5_whyTurn_119 rfl ?_
                  refine j_iconst (v := 3) C dX5_whyTurn_121 rfl ?_
                  refine j_callRi (v := f (k * 28 + 4 + j * 4 + 3)) (j_runS (As := [.ref a0, .int (nI k), .int (nI j), .int 3]) (rest := []) [0] C (c_X5_get l g a0 n f k j 3 (by omega)) gX5_whyTurn_X5_get rfl rfl rfl hd_X5_get ⟨Nat.le_of_ble_eq_true rfl, Nat.le_of_ble_eq_true rfl⟩ rfl rfl dX5_whyTurn_122 rfl (Nat.le_of_ble_eq_true rfl) ⟨Nat.le_of_ble_eq_true rfl, Nat.le_of_ble_eq_true rfl⟩) ?_
                  refine j_istore_n (L' := [(0, .ref a0), (1, .int (nI k)), (2, .int (f (k * 28 + 4 + j * 4 + 3))), (3, .int lk), (4, .int 0), (5, .int (nI j))]) C dX5_whyTurn_125 rfl (Nat.le_of_ble_eq_true rfl) rfl rfl ?_
                  refine j_iinc (v := nI (j + 1)) (L' := [(0, .ref a0), (1, .int (nI k)), (2, .int (f (k * 28 + 4 + j * 4 + 3))), (3, .int lk), (4, .int 0), (5, .int (nI (j + 1)))]) 5 C dX5_whyTurn_126 rfl (nI_add j 1) (Nat.le_of_ble_eq_true rfl) rfl rfl ?_
                  refine j_goto (tgt := 21) C dX5_whyTurn_129 (by decide) ?_
                  exact ih_2 (j + 1, lk, false, f (k * 28 + 4 + j * 4 + 3)) ⟨(by omega), (by rw [← hI1, show a - j = (a - (j + 1)) + 1 by omega, jTu_s]; (first | rw [if_pos (show f (k * 28 + 4 + j * 4 + 0) = 0 by assumption)] | (rw [if_neg (show ¬ f (k * 28 + 4 + j * 4 + 0) = 0 by assumption)]; first | rw [if_pos (show f (k * 28 + 4 + j * 4 + 1) < 1000 by assumption)] | rw [if_neg (show ¬ f (k * 28 + 4 + j * 4 + 1) < 1000 by assumption)])); simp_all)⟩ (show a - (j + 1) < a - j from by omega)
                · skip
                  refine j_iconst (v := 1) C dX5_whyTurn_110 rfl ?_
                  refine j_goto (tgt := 115) C dX5_whyTurn_111 (by decide) ?_
                  refine j_istore (L' := [(0, .ref a0), (1, .int (nI k)), (2, .int cd), (3, .int lk), (4, .int 1), (5, .int (nI j))]) C dX5_whyTurn_115 (Nat.le_of_ble_eq_true rfl) rfl rfl ?_
                  refine j_aload_n 0 C dX5_whyTurn_117 rfl rfl ?_
                  refine j_iload_n 1 C dX5_whyTurn_118 rfl rfl ?_
                  refine j_iload 5 C dX5_whyTurn_119 rfl ?_
                  refine j_iconst (v := 3) C dX5_whyTurn_121 rfl ?_
                  refine j_callRi (v := f (k * 28 + 4 + j * 4 + 3)) (j_runS (As := [.ref a0, .int (nI k), .int (nI j), .int 3]) (rest := []) [0] C (c_X5_get l g a0 n f k j 3 (by omega)) gX5_whyTurn_X5_get rfl rfl rfl hd_X5_get ⟨Nat.le_of_ble_eq_true rfl, Nat.le_of_ble_eq_true rfl⟩ rfl rfl dX5_whyTurn_122 rfl (Nat.le_of_ble_eq_true rfl) ⟨Nat.le_of_ble_eq_true rfl, Nat.le_of_ble_eq_true rfl⟩) ?_
                  refine j_istore_n (L' := [(0, .ref a0), (1, .int (nI k)), (2, .int (f (k * 28 + 4 + j * 4 + 3))), (3, .int lk), (4, .int 1), (5, .int (nI j))]) C dX5_whyTurn_125 rfl (Nat.le_of_ble_eq_true rfl) rfl rfl ?_
                  refine j_iinc (v := nI (j + 1)) (L' := [(0, .ref a0), (1, .int (nI k)), (2, .int (f (k * 28 + 4 + j * 4 + 3))), (3, .int lk), (4, .int 1), (5, .int (nI (j + 1)))]) 5 C dX5_whyTurn_126 rfl (nI_add j 1) (Nat.le_of_ble_eq_true rfl) rfl rfl ?_
                  refine j_goto (tgt := 21) C dX5_whyTurn_129 (by decide) ?_
                  exact ih_2 (j + 1, lk, true, f (k * 28 + 4 + j * 4 + 3)) ⟨(by omega), (by rw [← hI1, show a - j = (a - (j + 1)) + 1 by omega, jTu_s]; (first | rw [if_pos (show f (k * 28 + 4 + j * 4 + 0) = 0 by assumption)] | (rw [if_neg (show ¬ f (k * 28 + 4 + j * 4 + 0) = 0 by assumption)]; first | rw [if_pos (show f (k * 28 + 4 + j * 4 + 1) < 1000 by assumption)] | rw [if_neg (show ¬ f (k * 28 + 4 + j * 4 + 1) < 1000 by assumption)])); simp_all)⟩ (show a - (j + 1) < a - j from by omega)
          · skip
            refine j_goto (tgt := 126) C dX5_whyTurn_85 (by decide) ?_
            refine j_iinc (v := nI (j + 1)) (L' := [(0, .ref a0), (1, .int (nI k)), (2, .int cd), (3, .int lk), (4, .int (jb ot)), (5, .int (nI (j + 1)))]) 5 C dX5_whyTurn_126 rfl (nI_add j 1) (Nat.le_of_ble_eq_true rfl) rfl rfl ?_
            refine j_goto (tgt := 21) C dX5_whyTurn_129 (by decide) ?_
            exact ih_2 (j + 1, lk, ot, cd) ⟨(by omega), (by rw [← hI1, show a - j = (a - (j + 1)) + 1 by omega, jTu_s]; (first | rw [if_pos (show f (k * 28 + 4 + j * 4 + 0) = 0 by assumption)] | (rw [if_neg (show ¬ f (k * 28 + 4 + j * 4 + 0) = 0 by assumption)]; first | rw [if_pos (show f (k * 28 + 4 + j * 4 + 1) < 1000 by assumption)] | rw [if_neg (show ¬ f (k * 28 + 4 + j * 4 + 1) < 1000 by assumption)])); simp_all)⟩ (show a - (j + 1) < a - j from by omega)
        · skip
          refine j_iload_n 3 C dX5_whyTurn_56 rfl rfl ?_
          refine j_iconst (v := 1) C dX5_whyTurn_57 rfl ?_
          refine j_aload_n 0 C dX5_whyTurn_58 rfl rfl ?_
          refine j_iload_n 1 C dX5_whyTurn_59 rfl rfl ?_
          refine j_iload 5 C dX5_whyTurn_60 rfl ?_
          refine j_iconst (v := 1) C dX5_whyTurn_62 rfl ?_
          refine j_callRi (v := f (k * 28 + 4 + j * 4 + 1)) (j_runS (As := [.ref a0, .int (nI k), .int (nI j), .int 1]) (rest := [.int 1, .int lk]) [0] C (c_X5_get l g a0 n f k j 1 (by omega)) gX5_whyTurn_X5_get rfl rfl rfl hd_X5_get ⟨Nat.le_of_ble_eq_true rfl, Nat.le_of_ble_eq_true rfl⟩ rfl rfl dX5_whyTurn_63 rfl (Nat.le_of_ble_eq_true rfl) ⟨Nat.le_of_ble_eq_true rfl, Nat.le_of_ble_eq_true rfl⟩) ?_
          refine j_sipush (v := 1000) C dX5_whyTurn_66 rfl ?_
          refine j_isub (x := f (k * 28 + 4 + j * 4 + 1)) (y := 1000) (v := (f (k * 28 + 4 + j * 4 + 1)) - 1000) C dX5_whyTurn_69 rfl ?_
          refine j_ishl (x := 1) (y := (f (k * 28 + 4 + j * 4 + 1)) - 1000) (v := (1 : Int32) <<< (((f (k * 28 + 4 + j * 4 + 1)) - 1000) &&& 31)) C dX5_whyTurn_70 rfl ?_
          refine j_ior (x := lk) (y := (1 : Int32) <<< (((f (k * 28 + 4 + j * 4 + 1)) - 1000) &&& 31)) (v := lk ||| ((1 : Int32) <<< (((f (k * 28 + 4 + j * 4 + 1)) - 1000) &&& 31))) C dX5_whyTurn_71 rfl ?_
          refine j_istore_n (L' := [(0, .ref a0), (1, .int (nI k)), (2, .int cd), (3, .int (lk ||| ((1 : Int32) <<< (((f (k * 28 + 4 + j * 4 + 1)) - 1000) &&& 31)))), (4, .int (jb ot)), (5, .int (nI j))]) C dX5_whyTurn_72 rfl (Nat.le_of_ble_eq_true rfl) rfl rfl ?_
          refine j_aload_n 0 C dX5_whyTurn_73 rfl rfl ?_
          refine j_iload_n 1 C dX5_whyTurn_74 rfl rfl ?_
          refine j_iload 5 C dX5_whyTurn_75 rfl ?_
          refine j_iconst (v := 2) C dX5_whyTurn_77 rfl ?_
          refine j_callRi (v := f (k * 28 + 4 + j * 4 + 2)) (j_runS (As := [.ref a0, .int (nI k), .int (nI j), .int 2]) (rest := []) [0] C (c_X5_get l g a0 n f k j 2 (by omega)) gX5_whyTurn_X5_get rfl rfl rfl hd_X5_get ⟨Nat.le_of_ble_eq_true rfl, Nat.le_of_ble_eq_true rfl⟩ rfl rfl dX5_whyTurn_78 rfl (Nat.le_of_ble_eq_true rfl) ⟨Nat.le_of_ble_eq_true rfl, Nat.le_of_ble_eq_true rfl⟩) ?_
          refine j_iconst (v := 5) C dX5_whyTurn_81 rfl ?_
          refine j_icmp_eq (tgt := 88) C dX5_whyTurn_82 (by decide) (fun c_19 => ?_) (fun c_19 => ?_)
          · skip
            refine j_iload 4 C dX5_whyTurn_88 rfl ?_
            refine j_if_ne (tgt := 110) C dX5_whyTurn_90 (by decide) (fun c_20 => ?_) (fun c_20 => ?_)
            · skip
              have c_20 : ot = true := jb_1 c_20
              refine j_iconst (v := 1) C dX5_whyTurn_110 rfl ?_
              refine j_goto (tgt := 115) C dX5_whyTurn_111 (by decide) ?_
              refine j_istore (L' := [(0, .ref a0), (1, .int (nI k)), (2, .int cd), (3, .int (lk ||| ((1 : Int32) <<< (((f (k * 28 + 4 + j * 4 + 1)) - 1000) &&& 31)))), (4, .int 1), (5, .int (nI j))]) C dX5_whyTurn_115 (Nat.le_of_ble_eq_true rfl) rfl rfl ?_
              refine j_aload_n 0 C dX5_whyTurn_117 rfl rfl ?_
              refine j_iload_n 1 C dX5_whyTurn_118 rfl rfl ?_
              refine j_iload 5 C dX5_whyTurn_119 rfl ?_
              refine j_iconst (v := 3) C dX5_whyTurn_121 rfl ?_
              refine j_callRi (v := f (k * 28 + 4 + j * 4 + 3)) (j_runS (As := [.ref a0, .int (nI k), .int (nI j), .int 3]) (rest := []) [0] C (c_X5_get l g a0 n f k j 3 (by omega)) gX5_whyTurn_X5_get rfl rfl rfl hd_X5_get ⟨Nat.le_of_ble_eq_true rfl, Nat.le_of_ble_eq_true rfl⟩ rfl rfl dX5_whyTurn_122 rfl (Nat.le_of_ble_eq_true rfl) ⟨Nat.le_of_ble_eq_true rfl, Nat.le_of_ble_eq_true rfl⟩) ?_
              refine j_istore_n (L' := [(0, .ref a0), (1, .int (nI k)), (2, .int (f (k * 28 + 4 + j * 4 + 3))), (3, .int (lk ||| ((1 : Int32) <<< (((f (k * 28 + 4 + j * 4 + 1)) - 1000) &&& 31)))), (4, .int 1), (5, .int (nI j))]) C dX5_whyTurn_125 rfl (Nat.le_of_ble_eq_true rfl) rfl rfl ?_
              refine j_iinc (v := nI (j + 1)) (L' := [(0, .ref a0), (1, .int (nI k)), (2, .int (f (k * 28 + 4 + j * 4 + 3))), (3, .int (lk ||| ((1 : Int32) <<< (((f (k * 28 + 4 + j * 4 + 1)) - 1000) &&& 31)))), (4, .int 1), (5, .int (nI (j + 1)))]) 5 C dX5_whyTurn_126 rfl (nI_add j 1) (Nat.le_of_ble_eq_true rfl) rfl rfl ?_
              refine j_goto (tgt := 21) C dX5_whyTurn_129 (by decide) ?_
              exact ih_2 (j + 1, lk ||| ((1 : Int32) <<< (((f (k * 28 + 4 + j * 4 + 1)) - 1000) &&& 31)), true, f (k * 28 + 4 + j * 4 + 3)) ⟨(by omega), (by rw [← hI1, show a - j = (a - (j + 1)) + 1 by omega, jTu_s]; (first | rw [if_pos (show f (k * 28 + 4 + j * 4 + 0) = 0 by assumption)] | (rw [if_neg (show ¬ f (k * 28 + 4 + j * 4 + 0) = 0 by assumption)]; first | rw [if_pos (show f (k * 28 + 4 + j * 4 + 1) < 1000 by assumption)] | rw [if_neg (show ¬ f (k * 28 + 4 + j * 4 + 1) < 1000 by assumption)])); simp_all)⟩ (show a - (j + 1) < a - j from by omega)
            · skip
              have c_20 : ot = false := jb_0 c_20
              refine j_iload_n 2 C dX5_whyTurn_93 rfl rfl ?_
              refine j_iconst (v := -1) C dX5_whyTurn_94 rfl ?_
              refine j_icmp_eq (tgt := 114) C dX5_whyTurn_95 (by decide) (fun c_21 => ?_) (fun c_21 => ?_)
              · skip
                refine j_iconst (v := 0) C dX5_whyTurn_114 rfl ?_
                refine j_istore (L' := [(0, .ref a0), (1, .int (nI k)), (2, .int cd), (3, .int (lk ||| ((1 : Int32) <<< (((f (k * 28 + 4 + j * 4 + 1)) - 1000) &&& 31)))), (4, .int 0), (5, .int (nI j))]) C dX5_whyTurn_115 (Nat.le_of_ble_eq_true rfl) rfl rfl ?_
                refine j_aload_n 0 C dX5_whyTurn_117 rfl rfl ?_
                refine j_iload_n 1 C dX5_whyTurn_118 rfl rfl ?_
                refine j_iload 5 C dX5_whyTurn_119 rfl ?_
                refine j_iconst (v := 3) C dX5_whyTurn_121 rfl ?_
                refine j_callRi (v := f (k * 28 + 4 + j * 4 + 3)) (j_runS (As := [.ref a0, .int (nI k), .int (nI j), .int 3]) (rest := []) [0] C (c_X5_get l g a0 n f k j 3 (by omega)) gX5_whyTurn_X5_get rfl rfl rfl hd_X5_get ⟨Nat.le_of_ble_eq_true rfl, Nat.le_of_ble_eq_true rfl⟩ rfl rfl dX5_whyTurn_122 rfl (Nat.le_of_ble_eq_true rfl) ⟨Nat.le_of_ble_eq_true rfl, Nat.le_of_ble_eq_true rfl⟩) ?_
                refine j_istore_n (L' := [(0, .ref a0), (1, .int (nI k)), (2, .int (f (k * 28 + 4 + j * 4 + 3))), (3, .int (lk ||| ((1 : Int32) <<< (((f (k * 28 + 4 + j * 4 + 1)) - 1000) &&& 31)))), (4, .int 0), (5, .int (nI j))]) C dX5_whyTurn_125 rfl (Nat.le_of_ble_eq_true rfl) rfl rfl ?_
                refine j_iinc (v := nI (j + 1)) (L' := [(0, .ref a0), (1, .int (nI k)), (2, .int (f (k * 28 + 4 + j * 4 + 3))), (3, .int (lk ||| ((1 : Int32) <<< (((f (k * 28 + 4 + j * 4 + 1)) - 1000) &&& 31)))), (4, .int 0), (5, .int (nI (j + 1)))]) 5 C dX5_whyTurn_126 rfl (nI_add j 1) (Nat.le_of_ble_eq_true rfl) rfl rfl ?_
                refine j_goto (tgt := 21) C dX5_whyTurn_129 (by decide) ?_
                exact ih_2 (j + 1, lk ||| ((1 : Int32) <<< (((f (k * 28 + 4 + j * 4 + 1)) - 1000) &&& 31)), false, f (k * 28 + 4 + j * 4 + 3)) ⟨(by omega), (by rw [← hI1, show a - j = (a - (j + 1)) + 1 by omega, jTu_s]; (first | rw [if_pos (show f (k * 28 + 4 + j * 4 + 0) = 0 by assumption)] | (rw [if_neg (show ¬ f (k * 28 + 4 + j * 4 + 0) = 0 by assumption)]; first | rw [if_pos (show f (k * 28 + 4 + j * 4 + 1) < 1000 by assumption)] | rw [if_neg (show ¬ f (k * 28 + 4 + j * 4 + 1) < 1000 by assumption)])); simp_all)⟩ (show a - (j + 1) < a - j from by omega)
              · skip
                refine j_iload_n 2 C dX5_whyTurn_98 rfl rfl ?_
                refine j_aload_n 0 C dX5_whyTurn_99 rfl rfl ?_
                refine j_iload_n 1 C dX5_whyTurn_100 rfl rfl ?_
                refine j_iload 5 C dX5_whyTurn_101 rfl ?_
                refine j_iconst (v := 3) C dX5_whyTurn_103 rfl ?_
                refine j_callRi (v := f (k * 28 + 4 + j * 4 + 3)) (j_runS (As := [.ref a0, .int (nI k), .int (nI j), .int 3]) (rest := [.int cd]) [0] C (c_X5_get l g a0 n f k j 3 (by omega)) gX5_whyTurn_X5_get rfl rfl rfl hd_X5_get ⟨Nat.le_of_ble_eq_true rfl, Nat.le_of_ble_eq_true rfl⟩ rfl rfl dX5_whyTurn_104 rfl (Nat.le_of_ble_eq_true rfl) ⟨Nat.le_of_ble_eq_true rfl, Nat.le_of_ble_eq_true rfl⟩) ?_
                refine j_icmp_eq (tgt := 114) C dX5_whyTurn_107 (by decide) (fun c_22 => ?_) (fun c_22 => ?_)
                · skip
                  refine j_iconst (v := 0) C dX5_whyTurn_114 rfl ?_
                  refine j_istore (L' := [(0, .ref a0), (1, .int (nI k)), (2, .int cd), (3, .int (lk ||| ((1 : Int32) <<< (((f (k * 28 + 4 + j * 4 + 1)) - 1000) &&& 31)))), (4, .int 0), (5, .int (nI j))]) C dX5_whyTurn_115 (Nat.le_of_ble_eq_true rfl) rfl rfl ?_
                  refine j_aload_n 0 C dX5_whyTurn_117 rfl rfl ?_
                  refine j_iload_n 1 C dX5_whyTurn_118 rfl rfl ?_
                  refine j_iload 5 C dX5_whyTurn_119 rfl ?_
                  refine j_iconst (v := 3) C dX5_whyTurn_121 rfl ?_
                  refine j_callRi (v := f (k * 28 + 4 + j * 4 + 3)) (j_runS (As := [.ref a0, .int (nI k), .int (nI j), .int 3]) (rest := []) [0] C (c_X5_get l g a0 n f k j 3 (by omega)) gX5_whyTurn_X5_get rfl rfl rfl hd_X5_get ⟨Nat.le_of_ble_eq_true rfl, Nat.le_of_ble_eq_true rfl⟩ rfl rfl dX5_whyTurn_122 rfl (Nat.le_of_ble_eq_true rfl) ⟨Nat.le_of_ble_eq_true rfl, Nat.le_of_ble_eq_true rfl⟩) ?_
                  refine j_istore_n (L' := [(0, .ref a0), (1, .int (nI k)), (2, .int (f (k * 28 + 4 + j * 4 + 3))), (3, .int (lk ||| ((1 : Int32) <<< (((f (k * 28 + 4 + j * 4 + 1)) - 1000) &&& 31)))), (4, .int 0), (5, .int (nI j))]) C dX5_whyTurn_125 rfl (Nat.le_of_ble_eq_true rfl) rfl rfl ?_
                  refine j_iinc (v := nI (j + 1)) (L' := [(0, .ref a0), (1, .int (nI k)), (2, .int (f (k * 28 + 4 + j * 4 + 3))), (3, .int (lk ||| ((1 : Int32) <<< (((f (k * 28 + 4 + j * 4 + 1)) - 1000) &&& 31)))), (4, .int 0), (5, .int (nI (j + 1)))]) 5 C dX5_whyTurn_126 rfl (nI_add j 1) (Nat.le_of_ble_eq_true rfl) rfl rfl ?_
                  refine j_goto (tgt := 21) C dX5_whyTurn_129 (by decide) ?_
                  exact ih_2 (j + 1, lk ||| ((1 : Int32) <<< (((f (k * 28 + 4 + j * 4 + 1)) - 1000) &&& 31)), false, f (k * 28 + 4 + j * 4 + 3)) ⟨(by omega), (by rw [← hI1, show a - j = (a - (j + 1)) + 1 by omega, jTu_s]; (first | rw [if_pos (show f (k * 28 + 4 + j * 4 + 0) = 0 by assumption)] | (rw [if_neg (show ¬ f (k * 28 + 4 + j * 4 + 0) = 0 by assumption)]; first | rw [if_pos (show f (k * 28 + 4 + j * 4 + 1) < 1000 by assumption)] | rw [if_neg (show ¬ f (k * 28 + 4 + j * 4 + 1) < 1000 by assumption)])); simp_all)⟩ (show a - (j + 1) < a - j from by omega)
                · skip
                  refine j_iconst (v := 1) C dX5_whyTurn_110 rfl ?_
                  refine j_goto (tgt := 115) C dX5_whyTurn_111 (by decide) ?_
                  refine j_istore (L' := [(0, .ref a0), (1, .int (nI k)), (2, .int cd), (3, .int (lk ||| ((1 : Int32) <<< (((f (k * 28 + 4 + j * 4 + 1)) - 1000) &&& 31)))), (4, .int 1), (5, .int (nI j))]) C dX5_whyTurn_115 (Nat.le_of_ble_eq_true rfl) rfl rfl ?_
                  refine j_aload_n 0 C dX5_whyTurn_117 rfl rfl ?_
                  refine j_iload_n 1 C dX5_whyTurn_118 rfl rfl ?_
                  refine j_iload 5 C dX5_whyTurn_119 rfl ?_
                  refine j_iconst (v := 3) C dX5_whyTurn_121 rfl ?_
                  refine j_callRi (v := f (k * 28 + 4 + j * 4 + 3)) (j_runS (As := [.ref a0, .int (nI k), .int (nI j), .int 3]) (rest := []) [0] C (c_X5_get l g a0 n f k j 3 (by omega)) gX5_whyTurn_X5_get rfl rfl rfl hd_X5_get ⟨Nat.le_of_ble_eq_true rfl, Nat.le_of_ble_eq_true rfl⟩ rfl rfl dX5_whyTurn_122 rfl (Nat.le_of_ble_eq_true rfl) ⟨Nat.le_of_ble_eq_true rfl, Nat.le_of_ble_eq_true rfl⟩) ?_
                  refine j_istore_n (L' := [(0, .ref a0), (1, .int (nI k)), (2, .int (f (k * 28 + 4 + j * 4 + 3))), (3, .int (lk ||| ((1 : Int32) <<< (((f (k * 28 + 4 + j * 4 + 1)) - 1000) &&& 31)))), (4, .int 1), (5, .int (nI j))]) C dX5_whyTurn_125 rfl (Nat.le_of_ble_eq_true rfl) rfl rfl ?_
                  refine j_iinc (v := nI (j + 1)) (L' := [(0, .ref a0), (1, .int (nI k)), (2, .int (f (k * 28 + 4 + j * 4 + 3))), (3, .int (lk ||| ((1 : Int32) <<< (((f (k * 28 + 4 + j * 4 + 1)) - 1000) &&& 31)))), (4, .int 1), (5, .int (nI (j + 1)))]) 5 C dX5_whyTurn_126 rfl (nI_add j 1) (Nat.le_of_ble_eq_true rfl) rfl rfl ?_
                  refine j_goto (tgt := 21) C dX5_whyTurn_129 (by decide) ?_
                  exact ih_2 (j + 1, lk ||| ((1 : Int32) <<< (((f (k * 28 + 4 + j * 4 + 1)) - 1000) &&& 31)), true, f (k * 28 + 4 + j * 4 + 3)) ⟨(by omega), (by rw [← hI1, show a - j = (a - (j + 1)) + 1 by omega, jTu_s]; (first | rw [if_pos (show f (k * 28 + 4 + j * 4 + 0) = 0 by assumption)] | (rw [if_neg (show ¬ f (k * 28 + 4 + j * 4 + 0) = 0 by assumption)]; first | rw [if_pos (show f (k * 28 + 4 + j * 4 + 1) < 1000 by assumption)] | rw [if_neg (show ¬ f (k * 28 + 4 + j * 4 + 1) < 1000 by assumption)])); simp_all)⟩ (show a - (j + 1) < a - j from by omega)
          · skip
            refine j_goto (tgt := 126) C dX5_whyTurn_85 (by decide) ?_
            refine j_iinc (v := nI (j + 1)) (L' := [(0, .ref a0), (1, .int (nI k)), (2, .int cd), (3, .int (lk ||| ((1 : Int32) <<< (((f (k * 28 + 4 + j * 4 + 1)) - 1000) &&& 31)))), (4, .int (jb ot)), (5, .int (nI (j + 1)))]) 5 C dX5_whyTurn_126 rfl (nI_add j 1) (Nat.le_of_ble_eq_true rfl) rfl rfl ?_
            refine j_goto (tgt := 21) C dX5_whyTurn_129 (by decide) ?_
            exact ih_2 (j + 1, lk ||| ((1 : Int32) <<< (((f (k * 28 + 4 + j * 4 + 1)) - 1000) &&& 31)), ot, cd) ⟨(by omega), (by rw [← hI1, show a - j = (a - (j + 1)) + 1 by omega, jTu_s]; (first | rw [if_pos (show f (k * 28 + 4 + j * 4 + 0) = 0 by assumption)] | (rw [if_neg (show ¬ f (k * 28 + 4 + j * 4 + 0) = 0 by assumption)]; first | rw [if_pos (show f (k * 28 + 4 + j * 4 + 1) < 1000 by assumption)] | rw [if_neg (show ¬ f (k * 28 + 4 + j * 4 + 1) < 1000 by assumption)])); simp_all)⟩ (show a - (j + 1) < a - j from by omega)
  · skip
    have c_1 : (jHas f k 4 a 0) = true := jb_1 c_1
    refine j_iconst (v := 2) C dX5_whyTurn_9 rfl ?_
    exact j_iretR (v := 2) C hr dX5_whyTurn_10 (by simp_all [jRT])
set_option maxHeartbeats 4000000 in
set_option maxRecDepth 100000 in
theorem c_X5_whySwap (l : Launch) (g : jG) (a0 n : Nat) (f : Nat → Int32) (k a b : Nat) (hk : k < 7) (ha : f (k * 28 + 3) = nI a) (ha6 : a ≤ 6) (hb : f ((k + 1) * 28 + 3) = nI b) (hb6 : b ≤ 6) : jRi l yX5_whySwap wsX5_whySwap ({ frames := 5, cells := 0, slots := 0, locals := 113 }) g [.ref a0, .int (nI k)] [(a0, jaI g 253 (jrw n f))] (jRS f k a b) := by
  refine j_enterR (cc := cX5_whySwap) (maxL := 2) (ret := (some .int)) (own := RX5) (L := [(0, .ref a0), (1, .int (nI k))]) (by decide) rfl rfl (Nat.le_of_ble_eq_true rfl) rfl (fun p e s m args below meth c C hr => ?_)
  refine j_aload_n 0 C dX5_whySwap_0 rfl rfl ?_
  refine j_iload_n 1 C dX5_whySwap_1 rfl rfl ?_
  refine j_iconst (v := 5) C dX5_whySwap_2 rfl ?_
  refine j_callRi (v := jb (jHas f k 5 a 0)) (j_runS (As := [.ref a0, .int (nI k), .int 5]) (rest := []) [0] C (c_X5_has_ l g a0 n f k a 5 (by omega) ha (by omega)) gX5_whySwap_X5_has_ rfl rfl rfl hd_X5_has_ ⟨Nat.le_of_ble_eq_true rfl, Nat.le_of_ble_eq_true rfl⟩ rfl rfl dX5_whySwap_3 rfl (Nat.le_of_ble_eq_true rfl) ⟨Nat.le_of_ble_eq_true rfl, Nat.le_of_ble_eq_true rfl⟩) ?_
  refine j_if_eq (tgt := 22) C dX5_whySwap_6 (by decide) (fun c_1 => ?_) (fun c_1 => ?_)
  · skip
    have c_1 : (jHas f k 5 a 0) = false := jb_0 c_1
    refine j_aload_n 0 C dX5_whySwap_22 rfl rfl ?_
    refine j_iload_n 1 C dX5_whySwap_23 rfl rfl ?_
    refine j_iload_n 1 C dX5_whySwap_24 rfl rfl ?_
    refine j_iconst (v := 1) C dX5_whySwap_25 rfl ?_
    refine j_iadd (x := nI k) (y := 1) (v := nI (k + 1)) C dX5_whySwap_26 (nI_add k 1) ?_
    refine j_callRi (v := jb (jApt (jEf f k (a - 0) 0 0) (jEf f (k + 1) (b - 0) 0 0))) (j_runS (As := [.ref a0, .int (nI k), .int (nI (k + 1))]) (rest := []) [0] C (c_X5_areApart_ l g a0 n f k (k + 1) a b (by omega) (by omega) ha (by omega) hb (by omega)) gX5_whySwap_X5_areApart_ rfl rfl rfl hd_X5_areApart_ ⟨Nat.le_of_ble_eq_true rfl, Nat.le_of_ble_eq_true rfl⟩ rfl rfl dX5_whySwap_27 rfl (Nat.le_of_ble_eq_true rfl) ⟨Nat.le_of_ble_eq_true rfl, Nat.le_of_ble_eq_true rfl⟩) ?_
    refine j_if_eq (tgt := 37) C dX5_whySwap_30 (by decide) (fun c_2 => ?_) (fun c_2 => ?_)
    · skip
      have c_2 : (jApt (jEf f k (a - 0) 0 0) (jEf f (k + 1) (b - 0) 0 0)) = false := jb_0 c_2
      refine j_iconst (v := 4) C dX5_whySwap_37 rfl ?_
      exact j_iretR (v := 4) C hr dX5_whySwap_38 (by simp_all [jRS])
    · skip
      have c_2 : (jApt (jEf f k (a - 0) 0 0) (jEf f (k + 1) (b - 0) 0 0)) = true := jb_1 c_2
      refine j_iconst (v := 0) C dX5_whySwap_33 rfl ?_
      refine j_goto (tgt := 38) C dX5_whySwap_34 (by decide) ?_
      exact j_iretR (v := 0) C hr dX5_whySwap_38 (by simp_all [jRS])
  · skip
    have c_1 : (jHas f k 5 a 0) = true := jb_1 c_1
    refine j_aload_n 0 C dX5_whySwap_9 rfl rfl ?_
    refine j_iload_n 1 C dX5_whySwap_10 rfl rfl ?_
    refine j_iconst (v := 1) C dX5_whySwap_11 rfl ?_
    refine j_iadd (x := nI k) (y := 1) (v := nI (k + 1)) C dX5_whySwap_12 (nI_add k 1) ?_
    refine j_iconst (v := 5) C dX5_whySwap_13 rfl ?_
    refine j_callRi (v := jb (jHas f (k + 1) 5 b 0)) (j_runS (As := [.ref a0, .int (nI (k + 1)), .int 5]) (rest := []) [0] C (c_X5_has_ l g a0 n f (k + 1) b 5 (by omega) hb (by omega)) gX5_whySwap_X5_has_ rfl rfl rfl hd_X5_has_ ⟨Nat.le_of_ble_eq_true rfl, Nat.le_of_ble_eq_true rfl⟩ rfl rfl dX5_whySwap_14 rfl (Nat.le_of_ble_eq_true rfl) ⟨Nat.le_of_ble_eq_true rfl, Nat.le_of_ble_eq_true rfl⟩) ?_
    refine j_if_eq (tgt := 22) C dX5_whySwap_17 (by decide) (fun c_3 => ?_) (fun c_3 => ?_)
    · skip
      have c_3 : (jHas f (k + 1) 5 b 0) = false := jb_0 c_3
      refine j_aload_n 0 C dX5_whySwap_22 rfl rfl ?_
      refine j_iload_n 1 C dX5_whySwap_23 rfl rfl ?_
      refine j_iload_n 1 C dX5_whySwap_24 rfl rfl ?_
      refine j_iconst (v := 1) C dX5_whySwap_25 rfl ?_
      refine j_iadd (x := nI k) (y := 1) (v := nI (k + 1)) C dX5_whySwap_26 (nI_add k 1) ?_
      refine j_callRi (v := jb (jApt (jEf f k (a - 0) 0 0) (jEf f (k + 1) (b - 0) 0 0))) (j_runS (As := [.ref a0, .int (nI k), .int (nI (k + 1))]) (rest := []) [0] C (c_X5_areApart_ l g a0 n f k (k + 1) a b (by omega) (by omega) ha (by omega) hb (by omega)) gX5_whySwap_X5_areApart_ rfl rfl rfl hd_X5_areApart_ ⟨Nat.le_of_ble_eq_true rfl, Nat.le_of_ble_eq_true rfl⟩ rfl rfl dX5_whySwap_27 rfl (Nat.le_of_ble_eq_true rfl) ⟨Nat.le_of_ble_eq_true rfl, Nat.le_of_ble_eq_true rfl⟩) ?_
      refine j_if_eq (tgt := 37) C dX5_whySwap_30 (by decide) (fun c_4 => ?_) (fun c_4 => ?_)
      · skip
        have c_4 : (jApt (jEf f k (a - 0) 0 0) (jEf f (k + 1) (b - 0) 0 0)) = false := jb_0 c_4
        refine j_iconst (v := 4) C dX5_whySwap_37 rfl ?_
        exact j_iretR (v := 4) C hr dX5_whySwap_38 (by simp_all [jRS])
      · skip
        have c_4 : (jApt (jEf f k (a - 0) 0 0) (jEf f (k + 1) (b - 0) 0 0)) = true := jb_1 c_4
        refine j_iconst (v := 0) C dX5_whySwap_33 rfl ?_
        refine j_goto (tgt := 38) C dX5_whySwap_34 (by decide) ?_
        exact j_iretR (v := 0) C hr dX5_whySwap_38 (by simp_all [jRS])
    · skip
      have c_3 : (jHas f (k + 1) 5 b 0) = true := jb_1 c_3
      refine j_iconst (v := 3) C dX5_whySwap_20 rfl ?_
      exact j_iretR (v := 3) C hr dX5_whySwap_21 (by simp_all [jRS])
set_option maxHeartbeats 4000000 in
set_option maxRecDepth 100000 in
theorem c_X5_why_0 (l : Launch) (g : jG) (a0 n : Nat) (f : Nat → Int32) (k a b : Nat) (w : Int32) (hk : k < 7) (ha : f (k * 28 + 3) = nI a) (ha6 : a ≤ 6) (hb : f ((k + 1) * 28 + 3) = nI b) (hb6 : b ≤ 6) : jRi l yX5_why wsX5_why ({ frames := 6, cells := 0, slots := 0, locals := 135 }) g [.ref a0, .int 0, .int (nI k), .int w] [(a0, jaI g 253 (jrw n f))] (jRJ f k a b) := by
  refine j_enterR (cc := cX5_why) (maxL := 4) (ret := (some .int)) (own := RX5) (L := [(0, .ref a0), (1, .int 0), (2, .int (nI k)), (3, .int w)]) (by decide) rfl rfl (Nat.le_of_ble_eq_true rfl) rfl (fun p e s m args below meth c C hr => ?_)
  refine j_iload_n 1 C dX5_why_0 rfl rfl ?_
  refine j_tabIn (tgt := 36) C dX5_why_1 (by decide) (by decide) rfl (by decide) ?_
  refine j_aload_n 0 C dX5_why_36 rfl rfl ?_
  refine j_iload_n 2 C dX5_why_37 rfl rfl ?_
  refine j_callRi (v := jRJ f k a b) (j_runS (As := [.ref a0, .int (nI k)]) (rest := []) [0] C (c_X5_whyJoin l g a0 n f k a b (by omega) ha (by omega) hb (by omega)) gX5_why_X5_whyJoin rfl rfl rfl hd_X5_whyJoin ⟨Nat.le_of_ble_eq_true rfl, Nat.le_of_ble_eq_true rfl⟩ rfl rfl dX5_why_38 rfl (Nat.le_of_ble_eq_true rfl) ⟨Nat.le_of_ble_eq_true rfl, Nat.le_of_ble_eq_true rfl⟩) ?_
  exact j_iretR (v := jRJ f k a b) C hr dX5_why_41 rfl
set_option maxHeartbeats 4000000 in
set_option maxRecDepth 100000 in
theorem c_X5_why_1 (l : Launch) (g : jG) (a0 n : Nat) (f : Nat → Int32) (k i a : Nat) (hk : k < 8) (ha : f (k * 28 + 3) = nI a) (ha6 : a ≤ 6) (hi : i ≤ 6) (hn : n ≤ 8) : jRi l yX5_why wsX5_why ({ frames := 6, cells := 0, slots := 0, locals := 135 }) g [.ref a0, .int 1, .int (nI k), .int (nI i)] [(a0, jaI g 253 (jrw n f))] (jRD f n k i a) := by
  refine j_enterR (cc := cX5_why) (maxL := 4) (ret := (some .int)) (own := RX5) (L := [(0, .ref a0), (1, .int 1), (2, .int (nI k)), (3, .int (nI i))]) (by decide) rfl rfl (Nat.le_of_ble_eq_true rfl) rfl (fun p e s m args below meth c C hr => ?_)
  refine j_iload_n 1 C dX5_why_0 rfl rfl ?_
  refine j_tabIn (tgt := 42) C dX5_why_1 (by decide) (by decide) rfl (by decide) ?_
  refine j_aload_n 0 C dX5_why_42 rfl rfl ?_
  refine j_iload_n 2 C dX5_why_43 rfl rfl ?_
  refine j_iload_n 3 C dX5_why_44 rfl rfl ?_
  refine j_callRi (v := jRD f n k i a) (j_runS (As := [.ref a0, .int (nI k), .int (nI i)]) (rest := []) [0] C (c_X5_whyDivide l g a0 n f k i a (by omega) ha (by omega) (by omega) (by omega)) gX5_why_X5_whyDivide rfl rfl rfl hd_X5_whyDivide ⟨Nat.le_of_ble_eq_true rfl, Nat.le_of_ble_eq_true rfl⟩ rfl rfl dX5_why_45 rfl (Nat.le_of_ble_eq_true rfl) ⟨Nat.le_of_ble_eq_true rfl, Nat.le_of_ble_eq_true rfl⟩) ?_
  exact j_iretR (v := jRD f n k i a) C hr dX5_why_48 rfl
set_option maxHeartbeats 4000000 in
set_option maxRecDepth 100000 in
theorem c_X5_why_2 (l : Launch) (g : jG) (a0 n : Nat) (f : Nat → Int32) (k w a v u : Nat) (hk : k < 8) (ha : f (k * 28 + 3) = nI a) (ha6 : a ≤ 6) (hn : n ≤ 8) (hw1 : 1 ≤ w) (hw2 : w ≤ 10) (hv : f (k * 28 + 0) = nI v) (hv5 : v ≤ 5) (hu : f (k * 28 + 1) = nI u) (hu5 : u ≤ 5) : jRi l yX5_why wsX5_why ({ frames := 6, cells := 0, slots := 0, locals := 136 }) g [.ref a0, .int 2, .int (nI k), .int (nI w)] [(a0, jaI g 253 (jrw n f))] (jRP f n k w a v u) := by
  refine j_enterR (cc := cX5_why) (maxL := 4) (ret := (some .int)) (own := RX5) (L := [(0, .ref a0), (1, .int 2), (2, .int (nI k)), (3, .int (nI w))]) (by decide) rfl rfl (Nat.le_of_ble_eq_true rfl) rfl (fun p e s m args below meth c C hr => ?_)
  refine j_iload_n 1 C dX5_why_0 rfl rfl ?_
  refine j_tabIn (tgt := 49) C dX5_why_1 (by decide) (by decide) rfl (by decide) ?_
  refine j_aload_n 0 C dX5_why_49 rfl rfl ?_
  refine j_iload_n 2 C dX5_why_50 rfl rfl ?_
  refine j_iload_n 3 C dX5_why_51 rfl rfl ?_
  refine j_callRi (v := jRP f n k w a v u) (j_runS (As := [.ref a0, .int (nI k), .int (nI w)]) (rest := []) [0] C (c_X5_whyPeel l g a0 n f k w a v u (by omega) ha (by omega) (by omega) (by omega) (by omega) hv (by omega) hu (by omega)) gX5_why_X5_whyPeel rfl rfl rfl hd_X5_whyPeel ⟨Nat.le_of_ble_eq_true rfl, Nat.le_of_ble_eq_true rfl⟩ rfl rfl dX5_why_52 rfl (Nat.le_of_ble_eq_true rfl) ⟨Nat.le_of_ble_eq_true rfl, Nat.le_of_ble_eq_true rfl⟩) ?_
  exact j_iretR (v := jRP f n k w a v u) C hr dX5_why_55 rfl
set_option maxHeartbeats 4000000 in
set_option maxRecDepth 100000 in
theorem c_X5_why_3 (l : Launch) (g : jG) (a0 n : Nat) (f : Nat → Int32) (k a : Nat) (w : Int32) (hk : k < 8) (ha : f (k * 28 + 3) = nI a) (ha6 : a ≤ 6) : jRi l yX5_why wsX5_why ({ frames := 6, cells := 0, slots := 0, locals := 137 }) g [.ref a0, .int 3, .int (nI k), .int w] [(a0, jaI g 253 (jrw n f))] (jRT f k a) := by
  refine j_enterR (cc := cX5_why) (maxL := 4) (ret := (some .int)) (own := RX5) (L := [(0, .ref a0), (1, .int 3), (2, .int (nI k)), (3, .int w)]) (by decide) rfl rfl (Nat.le_of_ble_eq_true rfl) rfl (fun p e s m args below meth c C hr => ?_)
  refine j_iload_n 1 C dX5_why_0 rfl rfl ?_
  refine j_tabIn (tgt := 56) C dX5_why_1 (by decide) (by decide) rfl (by decide) ?_
  refine j_aload_n 0 C dX5_why_56 rfl rfl ?_
  refine j_iload_n 2 C dX5_why_57 rfl rfl ?_
  refine j_callRi (v := jRT f k a) (j_runS (As := [.ref a0, .int (nI k)]) (rest := []) [0] C (c_X5_whyTurn l g a0 n f k a (by omega) ha (by omega)) gX5_why_X5_whyTurn rfl rfl rfl hd_X5_whyTurn ⟨Nat.le_of_ble_eq_true rfl, Nat.le_of_ble_eq_true rfl⟩ rfl rfl dX5_why_58 rfl (Nat.le_of_ble_eq_true rfl) ⟨Nat.le_of_ble_eq_true rfl, Nat.le_of_ble_eq_true rfl⟩) ?_
  exact j_iretR (v := jRT f k a) C hr dX5_why_61 rfl
set_option maxHeartbeats 4000000 in
set_option maxRecDepth 100000 in
theorem c_X5_why_4 (l : Launch) (g : jG) (a0 n : Nat) (f : Nat → Int32) (k a b : Nat) (w : Int32) (hk : k < 7) (ha : f (k * 28 + 3) = nI a) (ha6 : a ≤ 6) (hb : f ((k + 1) * 28 + 3) = nI b) (hb6 : b ≤ 6) : jRi l yX5_why wsX5_why ({ frames := 6, cells := 0, slots := 0, locals := 134 }) g [.ref a0, .int 4, .int (nI k), .int w] [(a0, jaI g 253 (jrw n f))] (jRS f k a b) := by
  refine j_enterR (cc := cX5_why) (maxL := 4) (ret := (some .int)) (own := RX5) (L := [(0, .ref a0), (1, .int 4), (2, .int (nI k)), (3, .int w)]) (by decide) rfl rfl (Nat.le_of_ble_eq_true rfl) rfl (fun p e s m args below meth c C hr => ?_)
  refine j_iload_n 1 C dX5_why_0 rfl rfl ?_
  refine j_tabIn (tgt := 62) C dX5_why_1 (by decide) (by decide) rfl (by decide) ?_
  refine j_aload_n 0 C dX5_why_62 rfl rfl ?_
  refine j_iload_n 2 C dX5_why_63 rfl rfl ?_
  refine j_callRi (v := jRS f k a b) (j_runS (As := [.ref a0, .int (nI k)]) (rest := []) [0] C (c_X5_whySwap l g a0 n f k a b (by omega) ha (by omega) hb (by omega)) gX5_why_X5_whySwap rfl rfl rfl hd_X5_whySwap ⟨Nat.le_of_ble_eq_true rfl, Nat.le_of_ble_eq_true rfl⟩ rfl rfl dX5_why_64 rfl (Nat.le_of_ble_eq_true rfl) ⟨Nat.le_of_ble_eq_true rfl, Nat.le_of_ble_eq_true rfl⟩) ?_
  exact j_iretR (v := jRS f k a b) C hr dX5_why_67 rfl
set_option maxHeartbeats 4000000 in
set_option maxRecDepth 100000 in
theorem c_X5_why_5 (l : Launch) (g : jG) (a0 n : Nat) (f : Nat → Int32) (k w : Int32)  : jRi l yX5_why wsX5_why ({ frames := 0, cells := 0, slots := 0, locals := 0 }) g [.ref a0, .int 5, .int k, .int w] [(a0, jaI g 253 (jrw n f))] 0 := by
  refine j_enterR (cc := cX5_why) (maxL := 4) (ret := (some .int)) (own := RX5) (L := [(0, .ref a0), (1, .int 5), (2, .int k), (3, .int w)]) (by decide) rfl rfl (Nat.le_of_ble_eq_true rfl) rfl (fun p e s m args below meth c C hr => ?_)
  refine j_iload_n 1 C dX5_why_0 rfl rfl ?_
  refine j_tabOut (tgt := 68) C dX5_why_1 (by decide) (by decide) ?_
  refine j_iconst (v := 0) C dX5_why_68 rfl ?_
  exact j_iretR (v := 0) C hr dX5_why_69 rfl
