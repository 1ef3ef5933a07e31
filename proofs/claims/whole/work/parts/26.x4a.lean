set_option maxRecDepth 100000 in
theorem hin_X4_programAt_X4 : ∀ w ∈ u_ws RX4 TX4 8, w ∈ wsX4_programAt := fun w h => List.mem_cons_of_mem _ (by exact List.mem_append_left _ (List.mem_append_right _ h))
set_option maxRecDepth 100000 in
theorem hin_X4_refuseEleventhProgram_X4 : ∀ w ∈ u_ws RX4 TX4 8, w ∈ wsX4_refuseEleventhProgram := fun w h => List.mem_cons_of_mem _ (by exact List.mem_append_left _ (List.mem_append_right _ h))
theorem hd_X4_isBetween : yX4_isBetween.cls = RX4 ∧ yX4_isBetween.cls ≠ "java/lang/invoke/MethodHandle" ∧ yX4_isBetween.cls ≠ "java/lang/invoke/VarHandle" ∧ (parseMethodDescriptor yX4_isBetween.desc).map (fun d => d.parameters.length) = some 3 := by decide +kernel
set_option maxHeartbeats 4000000 in
set_option maxRecDepth 100000 in
theorem c_X4_isBetween (l : Launch) (g : jG) (x lo hi : Int32)  : jRi l yX4_isBetween wsX4_isBetween ({ frames := 0, cells := 0, slots := 0, locals := 0 }) g [.int x, .int lo, .int hi] [] (jb (jBt x lo hi)) := by
  refine j_enterR (cc := cX4_isBetween) (maxL := 3) (ret := (some .boolean)) (own := RX4) (L := [(0, .int x), (1, .int lo), (2, .int hi)]) (by decide) rfl rfl (Nat.le_of_ble_eq_true rfl) rfl (fun p e s m args below meth c C hr => ?_)
  refine j_iload_n 0 C dX4_isBetween_0 rfl rfl ?_
  refine j_iload_n 1 C dX4_isBetween_1 rfl rfl ?_
  refine j_icmp_lt (tgt := 14) C dX4_isBetween_2 (by decide) (fun c_1 => ?_) (fun c_1 => ?_)
  · skip
    refine j_iconst (v := 0) C dX4_isBetween_14 rfl ?_
    exact j_zretR (v := 0) C hr dX4_isBetween_15 rfl (by first | rw [jBt_f1 (by assumption)]; rfl | rw [jBt_f2 (by assumption)]; rfl | (rw [jBt_ff (by assumption) (by assumption)]; rfl))
  · skip
    refine j_iload_n 0 C dX4_isBetween_5 rfl rfl ?_
    refine j_iload_n 2 C dX4_isBetween_6 rfl rfl ?_
    refine j_icmp_gt (tgt := 14) C dX4_isBetween_7 (by decide) (fun c_2 => ?_) (fun c_2 => ?_)
    · skip
      refine j_iconst (v := 0) C dX4_isBetween_14 rfl ?_
      exact j_zretR (v := 0) C hr dX4_isBetween_15 rfl (by first | rw [jBt_f1 (by assumption)]; rfl | rw [jBt_f2 (by assumption)]; rfl | (rw [jBt_ff (by assumption) (by assumption)]; rfl))
    · skip
      refine j_iconst (v := 1) C dX4_isBetween_10 rfl ?_
      refine j_goto (tgt := 15) C dX4_isBetween_11 (by decide) ?_
      exact j_zretR (v := 1) C hr dX4_isBetween_15 rfl (by first | rw [jBt_f1 (by assumption)]; rfl | rw [jBt_f2 (by assumption)]; rfl | (rw [jBt_ff (by assumption) (by assumption)]; rfl))
set_option maxHeartbeats 4000000 in
set_option maxRecDepth 100000 in
theorem c_X4_programAt (l : Launch) (g : jG) (x0 mp N rp : Nat) (rl : Int32) (lt p1 p2 cz : Nat) (T : Nat → Option Nat) (k q : Nat) (hk : k < N) (hN : N ≤ 10) (hT : T k = some q) : jRr l yX4_programAt wsX4_programAt ({ frames := 0, cells := 0, slots := 0, locals := 0 }) g [.ref x0, .int (nI k)] [(x0, .inr (3, [.ref mp, .int (nI N), .ref rp, .int rl, .ref lt, .ref p1, .ref p2, .ref cz])), (mp, jaP g 10 T)] q := by
  refine j_enterR (cc := cX4_programAt) (maxL := 3) (ret := (some (.object "LoopJoiner$Program"))) (own := RX4) (L := [(0, .ref x0), (1, .int (nI k))]) (by decide) rfl rfl (Nat.le_of_ble_eq_true rfl) rfl (fun p e s m args below meth c C hr => ?_)
  refine j_iload_n 1 C dX4_programAt_0 rfl rfl ?_
  refine j_if_lt (tgt := 22) C dX4_programAt_1 (by decide) (fun c_1 => ?_) (fun c_1 => ?_)
  · skip
    have c_1 : k < 0 := (nI_ltI (a := k) (b := 0) (by omega) (by omega)).mp c_1
    exact absurd c_1 (by omega)
  · skip
    have c_1 : ¬ k < 0 := fun z => c_1 ((nI_ltI (a := k) (b := 0) (by omega) (by omega)).mpr z)
    refine j_iload_n 1 C dX4_programAt_4 rfl rfl ?_
    refine j_aload_n 0 C dX4_programAt_5 rfl rfl ?_
    refine j_get (Cn := RX4) (T := TX4) (N := 8) 0 0 C dX4_programAt_6 hin_X4_programAt_X4 rfl rfl (by decide) (List.mem_of_getElem? (i := 3) rfl) rfl ?_
    refine j_alenP (v := 10) 1 C dX4_programAt_9 rfl rfl ?_
    refine j_icmp_ge (tgt := 22) C dX4_programAt_10 (by decide) (fun c_2 => ?_) (fun c_2 => ?_)
    · skip
      have c_2 : 10 ≤ k := (nI_leI (a := 10) (b := k) (by omega) (by omega)).mp c_2
      exact absurd c_2 (by omega)
    · skip
      have c_2 : ¬ 10 ≤ k := fun z => c_2 ((nI_leI (a := 10) (b := k) (by omega) (by omega)).mpr z)
      refine j_aload_n 0 C dX4_programAt_13 rfl rfl ?_
      refine j_get (Cn := RX4) (T := TX4) (N := 8) 0 0 C dX4_programAt_14 hin_X4_programAt_X4 rfl rfl (by decide) (List.mem_of_getElem? (i := 3) rfl) rfl ?_
      refine j_iload_n 1 C dX4_programAt_17 rfl rfl ?_
      refine j_aldPN (x := k) 1 C dX4_programAt_18 rfl rfl (by omega) (by decide) ?_
      refine j_eq (pc' := 19) (L' := [(0, .ref x0), (1, .int (nI k))]) (st' := [.ref q]) (ws' := [(x0, .inr (3, [.ref mp, .int (nI N), .ref rp, .int rl, .ref lt, .ref p1, .ref p2, .ref cz])), (mp, jaP g 10 T)]) ?_ rfl rfl (by rw [hT]; rfl) rfl
      refine j_goto (tgt := 23) C dX4_programAt_19 (by decide) ?_
      refine j_astore_n (L' := [(0, .ref x0), (1, .int (nI k)), (2, .ref q)]) C dX4_programAt_23 rfl (Nat.le_of_ble_eq_true rfl) rfl rfl ?_
      refine j_aload_n 2 C dX4_programAt_24 rfl rfl ?_
      refine j_ifnonnull (tgt := 38) C dX4_programAt_25 (by decide) ?_
      refine j_aload_n 2 C dX4_programAt_38 rfl rfl ?_
      exact j_aretR (v := q) C hr (Or.inl ⟨_, rfl⟩) dX4_programAt_39 rfl
set_option maxHeartbeats 4000000 in
set_option maxRecDepth 100000 in
theorem c_X4_programAt_n (l : Launch) (g : jG) (hst9 : l.stackTraces = false) (x0 mp N rp : Nat) (rl : Int32) (lt p1 p2 cz : Nat) (T : Nat → Option Nat) (k : Nat) (hk : k < 10) (hT : T k = none) : jXt l yX4_programAt wsX4_programAt ({ frames := 6, cells := 1, slots := 6, locals := 82 }) g [.ref x0, .int (nI k)] [(x0, .inr (3, [.ref mp, .int (nI N), .ref rp, .int rl, .ref lt, .ref p1, .ref p2, .ref cz])), (mp, jaP g 10 T)] "java/lang/IndexOutOfBoundsException" := by
  refine j_enterX (XC := fun sz_ => jXC g [(x0, .inr (3, [.ref mp, .int (nI N), .ref rp, .int rl, .ref lt, .ref p1, .ref p2, .ref cz])), (mp, jaP g 10 T)] "java/lang/IndexOutOfBoundsException" (va_A [(x0, .inr (3, [.ref mp, .int (nI N), .ref rp, .int rl, .ref lt, .ref p1, .ref p2, .ref cz])), (mp, jaP g 10 T)] sz_)) (mc := 1) (ms := 6) (cc := cX4_programAt) (maxL := 3) (ret := (some (.object "LoopJoiner$Program"))) (own := RX4) (L := [(0, .ref x0), (1, .int (nI k))]) (by decide) rfl rfl (Nat.le_of_ble_eq_true rfl) rfl (fun p e s m args below meth c C ht9 hX hZ => ?_)
  refine j_iload_n 1 C dX4_programAt_0 rfl rfl ?_
  refine j_if_lt (tgt := 22) C dX4_programAt_1 (by decide) (fun c_1 => ?_) (fun c_1 => ?_)
  · skip
    have c_1 : k < 0 := (nI_ltI (a := k) (b := 0) (by omega) (by omega)).mp c_1
    exact absurd c_1 (by omega)
  · skip
    have c_1 : ¬ k < 0 := fun z => c_1 ((nI_ltI (a := k) (b := 0) (by omega) (by omega)).mpr z)
    refine j_iload_n 1 C dX4_programAt_4 rfl rfl ?_
    refine j_aload_n 0 C dX4_programAt_5 rfl rfl ?_
    refine j_get (Cn := RX4) (T := TX4) (N := 8) 0 0 C dX4_programAt_6 hin_X4_programAt_X4 rfl rfl (by decide) (List.mem_of_getElem? (i := 3) rfl) rfl ?_
    refine j_alenP (v := 10) 1 C dX4_programAt_9 rfl rfl ?_
    refine j_icmp_ge (tgt := 22) C dX4_programAt_10 (by decide) (fun c_2 => ?_) (fun c_2 => ?_)
    · skip
      have c_2 : 10 ≤ k := (nI_leI (a := 10) (b := k) (by omega) (by omega)).mp c_2
      exact absurd c_2 (by omega)
    · skip
      have c_2 : ¬ 10 ≤ k := fun z => c_2 ((nI_leI (a := 10) (b := k) (by omega) (by omega)).mpr z)
      refine j_aload_n 0 C dX4_programAt_13 rfl rfl ?_
      refine j_get (Cn := RX4) (T := TX4) (N := 8) 0 0 C dX4_programAt_14 hin_X4_programAt_X4 rfl rfl (by decide) (List.mem_of_getElem? (i := 3) rfl) rfl ?_
      refine j_iload_n 1 C dX4_programAt_17 rfl rfl ?_
      refine j_aldPN (x := k) 1 C dX4_programAt_18 rfl rfl (by omega) (by decide) ?_
      refine j_eq (pc' := 19) (L' := [(0, .ref x0), (1, .int (nI k))]) (st' := [.null]) (ws' := [(x0, .inr (3, [.ref mp, .int (nI N), .ref rp, .int rl, .ref lt, .ref p1, .ref p2, .ref cz])), (mp, jaP g 10 T)]) ?_ rfl rfl (by rw [hT]; rfl) rfl
      refine j_goto (tgt := 23) C dX4_programAt_19 (by decide) ?_
      refine j_astore_nN (L' := [(0, .ref x0), (1, .int (nI k)), (2, .null)]) C dX4_programAt_23 rfl (Nat.le_of_ble_eq_true rfl) rfl rfl ?_
      refine j_aload_nN 2 C dX4_programAt_24 rfl rfl ?_
      refine j_ifnonnullN C dX4_programAt_25 ?_
      exact j_throw (E := "java/lang/IndexOutOfBoundsException") (ik := 105) (is := 193) (ic := 109) C hst9 hX hZ ht9 (by decide) (by decide) (by decide) (List.mem_of_getElem? (i := 1) rfl) (List.mem_of_getElem? (i := 2) rfl) (fun w h => List.mem_cons_of_mem _ (by exact List.mem_append_right _ h)) jat_109 jot_109 dX4_programAt_28 dX4_programAt_31 dX4_programAt_32 dX4_programAt_34 dX4_programAt_37 (Nat.le_of_ble_eq_true rfl) (Nat.le_of_ble_eq_true rfl) (Nat.le_of_ble_eq_true rfl) (Nat.le_of_ble_eq_true rfl)
set_option maxHeartbeats 4000000 in
set_option maxRecDepth 100000 in
theorem c_X4_programAt_o (l : Launch) (g : jG) (hst9 : l.stackTraces = false) (x0 mp N rp : Nat) (rl : Int32) (lt p1 p2 cz : Nat) (T : Nat → Option Nat) (x : Int32) (hx : x < 0 ∨ 10 ≤ x) : jXt l yX4_programAt wsX4_programAt ({ frames := 6, cells := 1, slots := 6, locals := 82 }) g [.ref x0, .int x] [(x0, .inr (3, [.ref mp, .int (nI N), .ref rp, .int rl, .ref lt, .ref p1, .ref p2, .ref cz])), (mp, jaP g 10 T)] "java/lang/IndexOutOfBoundsException" := by
  refine j_enterX (XC := fun sz_ => jXC g [(x0, .inr (3, [.ref mp, .int (nI N), .ref rp, .int rl, .ref lt, .ref p1, .ref p2, .ref cz])), (mp, jaP g 10 T)] "java/lang/IndexOutOfBoundsException" (va_A [(x0, .inr (3, [.ref mp, .int (nI N), .ref rp, .int rl, .ref lt, .ref p1, .ref p2, .ref cz])), (mp, jaP g 10 T)] sz_)) (mc := 1) (ms := 6) (cc := cX4_programAt) (maxL := 3) (ret := (some (.object "LoopJoiner$Program"))) (own := RX4) (L := [(0, .ref x0), (1, .int x)]) (by decide) rfl rfl (Nat.le_of_ble_eq_true rfl) rfl (fun p e s m args below meth c C ht9 hX hZ => ?_)
  refine j_iload_n 1 C dX4_programAt_0 rfl rfl ?_
  refine j_if_lt (tgt := 22) C dX4_programAt_1 (by decide) (fun c_1 => ?_) (fun c_1 => ?_)
  · skip
    refine j_null C dX4_programAt_22 ?_
    refine j_astore_nN (L' := [(0, .ref x0), (1, .int x), (2, .null)]) C dX4_programAt_23 rfl (Nat.le_of_ble_eq_true rfl) rfl rfl ?_
    refine j_aload_nN 2 C dX4_programAt_24 rfl rfl ?_
    refine j_ifnonnullN C dX4_programAt_25 ?_
    exact j_throw (E := "java/lang/IndexOutOfBoundsException") (ik := 105) (is := 193) (ic := 109) C hst9 hX hZ ht9 (by decide) (by decide) (by decide) (List.mem_of_getElem? (i := 1) rfl) (List.mem_of_getElem? (i := 2) rfl) (fun w h => List.mem_cons_of_mem _ (by exact List.mem_append_right _ h)) jat_109 jot_109 dX4_programAt_28 dX4_programAt_31 dX4_programAt_32 dX4_programAt_34 dX4_programAt_37 (Nat.le_of_ble_eq_true rfl) (Nat.le_of_ble_eq_true rfl) (Nat.le_of_ble_eq_true rfl) (Nat.le_of_ble_eq_true rfl)
  · skip
    refine j_iload_n 1 C dX4_programAt_4 rfl rfl ?_
    refine j_aload_n 0 C dX4_programAt_5 rfl rfl ?_
    refine j_get (Cn := RX4) (T := TX4) (N := 8) 0 0 C dX4_programAt_6 hin_X4_programAt_X4 rfl rfl (by decide) (List.mem_of_getElem? (i := 3) rfl) rfl ?_
    refine j_alenP (v := 10) 1 C dX4_programAt_9 rfl rfl ?_
    refine j_icmp_ge (tgt := 22) C dX4_programAt_10 (by decide) (fun c_2 => ?_) (fun c_2 => ?_)
    · skip
      refine j_null C dX4_programAt_22 ?_
      refine j_astore_nN (L' := [(0, .ref x0), (1, .int x), (2, .null)]) C dX4_programAt_23 rfl (Nat.le_of_ble_eq_true rfl) rfl rfl ?_
      refine j_aload_nN 2 C dX4_programAt_24 rfl rfl ?_
      refine j_ifnonnullN C dX4_programAt_25 ?_
      exact j_throw (E := "java/lang/IndexOutOfBoundsException") (ik := 105) (is := 193) (ic := 109) C hst9 hX hZ ht9 (by decide) (by decide) (by decide) (List.mem_of_getElem? (i := 1) rfl) (List.mem_of_getElem? (i := 2) rfl) (fun w h => List.mem_cons_of_mem _ (by exact List.mem_append_right _ h)) jat_109 jot_109 dX4_programAt_28 dX4_programAt_31 dX4_programAt_32 dX4_programAt_34 dX4_programAt_37 (Nat.le_of_ble_eq_true rfl) (Nat.le_of_ble_eq_true rfl) (Nat.le_of_ble_eq_true rfl) (Nat.le_of_ble_eq_true rfl)
    · skip
      rcases hx with h | h <;> contradiction
set_option maxHeartbeats 4000000 in
set_option maxRecDepth 100000 in
theorem c_X4_refuseEleventhProgram (l : Launch) (g : jG) (x0 mp N rp : Nat) (rl : Int32) (lt p1 p2 cz : Nat) (hN : N < 10) : jWv l yX4_refuseEleventhProgram wsX4_refuseEleventhProgram ({ frames := 0, cells := 0, slots := 0, locals := 0 }) g [.ref x0] [(x0, .inr (3, [.ref mp, .int (nI N), .ref rp, .int rl, .ref lt, .ref p1, .ref p2, .ref cz]))] [(x0, .inr (3, [.ref mp, .int (nI N), .ref rp, .int rl, .ref lt, .ref p1, .ref p2, .ref cz]))] := by
  refine j_enterW (Qc := fun sz_ => va_Qv (fun (_ : Unit) => True) (fun _ t => va_P g.1 vwCl [(x0, .inr (3, [.ref mp, .int (nI N), .ref rp, .int rl, .ref lt, .ref p1, .ref p2, .ref cz]))] t.heap) (va_A [(x0, .inr (3, [.ref mp, .int (nI N), .ref rp, .int rl, .ref lt, .ref p1, .ref p2, .ref cz]))] sz_)) (cc := cX4_refuseEleventhProgram) (maxL := 1) (ret := none) (own := RX4) (L := [(0, .ref x0)]) (by decide) rfl rfl (Nat.le_of_ble_eq_true rfl) rfl (fun p e s m args below meth c C hr => ?_)
  refine j_aload_n 0 C dX4_refuseEleventhProgram_0 rfl rfl ?_
  refine j_get (Cn := RX4) (T := TX4) (N := 8) 0 1 C dX4_refuseEleventhProgram_1 hin_X4_refuseEleventhProgram_X4 rfl rfl (by decide) (List.mem_of_getElem? (i := 3) rfl) rfl ?_
  refine j_bipush (v := 10) C dX4_refuseEleventhProgram_4 rfl ?_
  refine j_icmp_lt (tgt := 19) C dX4_refuseEleventhProgram_6 (by decide) (fun c_1 => ?_) (fun c_1 => ?_)
  · skip
    have c_1 : N < 10 := (nI_ltI (a := N) (b := 10) (by omega) (by omega)).mp c_1
    exact j_vretW C hr dX4_refuseEleventhProgram_19 () trivial rfl
  · skip
    have c_1 : ¬ N < 10 := fun z => c_1 ((nI_ltI (a := N) (b := 10) (by omega) (by omega)).mpr z)
    exact absurd c_1 (by omega)
set_option maxHeartbeats 4000000 in
set_option maxRecDepth 100000 in
theorem c_X4_refuseEleventhProgram_x (l : Launch) (g : jG) (hst9 : l.stackTraces = false) (x0 mp rp : Nat) (rl : Int32) (lt p1 p2 cz : Nat)  : jXt l yX4_refuseEleventhProgram wsX4_refuseEleventhProgram ({ frames := 6, cells := 1, slots := 6, locals := 82 }) g [.ref x0] [(x0, .inr (3, [.ref mp, .int 10, .ref rp, .int rl, .ref lt, .ref p1, .ref p2, .ref cz]))] "java/lang/IllegalStateException" := by
  refine j_enterX (XC := fun sz_ => jXC g [(x0, .inr (3, [.ref mp, .int 10, .ref rp, .int rl, .ref lt, .ref p1, .ref p2, .ref cz]))] "java/lang/IllegalStateException" (va_A [(x0, .inr (3, [.ref mp, .int 10, .ref rp, .int rl, .ref lt, .ref p1, .ref p2, .ref cz]))] sz_)) (mc := 1) (ms := 6) (cc := cX4_refuseEleventhProgram) (maxL := 1) (ret := none) (own := RX4) (L := [(0, .ref x0)]) (by decide) rfl rfl (Nat.le_of_ble_eq_true rfl) rfl (fun p e s m args below meth c C ht9 hX hZ => ?_)
  refine j_aload_n 0 C dX4_refuseEleventhProgram_0 rfl rfl ?_
  refine j_get (Cn := RX4) (T := TX4) (N := 8) 0 1 C dX4_refuseEleventhProgram_1 hin_X4_refuseEleventhProgram_X4 rfl rfl (by decide) (List.mem_of_getElem? (i := 3) rfl) rfl ?_
  refine j_bipush (v := 10) C dX4_refuseEleventhProgram_4 rfl ?_
  refine j_icmp_lt (tgt := 19) C dX4_refuseEleventhProgram_6 (by decide) (fun c_1 => ?_) (fun c_1 => ?_)
  · skip
    exact absurd c_1 (by decide)
  · skip
    exact j_throw (E := "java/lang/IllegalStateException") (ik := 73) (is := 195) (ic := 77) C hst9 hX hZ ht9 (by decide) (by decide) (by decide) (List.mem_of_getElem? (i := 1) rfl) (List.mem_of_getElem? (i := 2) rfl) (fun w h => List.mem_cons_of_mem _ (by exact List.mem_append_right _ h)) jat_77 jot_77 dX4_refuseEleventhProgram_9 dX4_refuseEleventhProgram_12 dX4_refuseEleventhProgram_13 dX4_refuseEleventhProgram_15 dX4_refuseEleventhProgram_18 (Nat.le_of_ble_eq_true rfl) (Nat.le_of_ble_eq_true rfl) (Nat.le_of_ble_eq_true rfl) (Nat.le_of_ble_eq_true rfl)
set_option maxHeartbeats 4000000 in
set_option maxRecDepth 100000 in
theorem c_X4_refuseOtherLoops (l : Launch) (g : jG) (q ca n : Nat) (f : Nat → Int32) (j : Nat) (hj : j < n) (hn : n ≤ 8) : jWv l yX4_refuseOtherLoops wsX4_refuseOtherLoops ({ frames := 1, cells := 0, slots := 0, locals := 22 }) g [.ref q, .int (nI j)] [(q, .inr (1, [.ref ca, .int (nI n)])), (ca, jaI g 224 f)] [(q, .inr (1, [.ref ca, .int (nI n)])), (ca, jaI g 224 f)] := by
  refine j_enterW (Qc := fun sz_ => va_Qv (fun (_ : Unit) => True) (fun _ t => va_P g.1 vwCl [(q, .inr (1, [.ref ca, .int (nI n)])), (ca, jaI g 224 f)] t.heap) (va_A [(q, .inr (1, [.ref ca, .int (nI n)])), (ca, jaI g 224 f)] sz_)) (cc := cX4_refuseOtherLoops) (maxL := 2) (ret := none) (own := RX4) (L := [(0, .ref q), (1, .int (nI j))]) (by decide) rfl rfl (Nat.le_of_ble_eq_true rfl) rfl (fun p e s m args below meth c C hr => ?_)
  refine j_iload_n 1 C dX4_refuseOtherLoops_0 rfl rfl ?_
  refine j_iconst (v := 0) C dX4_refuseOtherLoops_1 rfl ?_
  refine j_aload_n 0 C dX4_refuseOtherLoops_2 rfl rfl ?_
  refine j_callRi (v := nI n) (j_runV (ci := 0) (As := []) (rest := [.int 0, .int (nI j)]) [0, 1] C (c_X1_countLoops l g q ca (nI n) f) gX4_refuseOtherLoops_X1_countLoops rfl rfl rfl hd_X1_countLoops ⟨Nat.le_of_ble_eq_true rfl, Nat.le_of_ble_eq_true rfl⟩ rfl rfl rfl rfl dX4_refuseOtherLoops_3 rfl (Nat.le_of_ble_eq_true rfl) ⟨Nat.le_of_ble_eq_true rfl, Nat.le_of_ble_eq_true rfl⟩) ?_
  refine j_iconst (v := 1) C dX4_refuseOtherLoops_6 rfl ?_
  refine j_isub (x := nI n) (y := 1) (v := nI n - 1) C dX4_refuseOtherLoops_7 rfl ?_
  refine j_callRi (v := jb (jBt (nI j) 0 (nI n - 1))) (j_runS (As := [.int (nI j), .int 0, .int (nI n - 1)]) (rest := []) [] C (c_X4_isBetween l g (nI j) 0 (nI n - 1)) gX4_refuseOtherLoops_X4_isBetween rfl rfl rfl hd_X4_isBetween ⟨Nat.le_of_ble_eq_true rfl, Nat.le_of_ble_eq_true rfl⟩ rfl rfl dX4_refuseOtherLoops_8 rfl (Nat.le_of_ble_eq_true rfl) ⟨Nat.le_of_ble_eq_true rfl, Nat.le_of_ble_eq_true rfl⟩) ?_
  refine j_eq (pc' := 11) (L' := [(0, .ref q), (1, .int (nI j))]) (st' := [.int (jb true)]) (ws' := [(q, .inr (1, [.ref ca, .int (nI n)])), (ca, jaI g 224 f)]) ?_ rfl rfl (by rw [jBt_n hj (by omega)]) rfl
  refine j_if_ne (tgt := 24) C dX4_refuseOtherLoops_11 (by decide) (fun c_1 => ?_) (fun c_1 => ?_)
  · skip
    have c_1 : true = true := jb_1 c_1
    exact j_vretW C hr dX4_refuseOtherLoops_24 () trivial rfl
  · skip
    have c_1 : true = false := jb_0 c_1
    (first | exact absurd c_1 (by decide) | exact absurd c_1 (by omega) | simp_all)
set_option maxHeartbeats 4000000 in
set_option maxRecDepth 100000 in
theorem c_X4_refuseOtherLoops_x (l : Launch) (g : jG) (hst9 : l.stackTraces = false) (q ca n : Nat) (f : Nat → Int32) (y : Int32) (hy : jBt y 0 (nI n - 1) = false) : jXt l yX4_refuseOtherLoops wsX4_refuseOtherLoops ({ frames := 6, cells := 1, slots := 6, locals := 82 }) g [.ref q, .int y] [(q, .inr (1, [.ref ca, .int (nI n)])), (ca, jaI g 224 f)] "java/lang/IndexOutOfBoundsException" := by
  refine j_enterX (XC := fun sz_ => jXC g [(q, .inr (1, [.ref ca, .int (nI n)])), (ca, jaI g 224 f)] "java/lang/IndexOutOfBoundsException" (va_A [(q, .inr (1, [.ref ca, .int (nI n)])), (ca, jaI g 224 f)] sz_)) (mc := 1) (ms := 6) (cc := cX4_refuseOtherLoops) (maxL := 2) (ret := none) (own := RX4) (L := [(0, .ref q), (1, .int y)]) (by decide) rfl rfl (Nat.le_of_ble_eq_true rfl) rfl (fun p e s m args below meth c C ht9 hX hZ => ?_)
  refine j_iload_n 1 C dX4_refuseOtherLoops_0 rfl rfl ?_
  refine j_iconst (v := 0) C dX4_refuseOtherLoops_1 rfl ?_
  refine j_aload_n 0 C dX4_refuseOtherLoops_2 rfl rfl ?_
  refine j_callRi (v := nI n) (j_runV (ci := 0) (As := []) (rest := [.int 0, .int y]) [0, 1] C (c_X1_countLoops l g q ca (nI n) f) gX4_refuseOtherLoops_X1_countLoops rfl rfl rfl hd_X1_countLoops ⟨Nat.le_of_ble_eq_true rfl, Nat.le_of_ble_eq_true rfl⟩ rfl rfl rfl rfl dX4_refuseOtherLoops_3 rfl (Nat.le_of_ble_eq_true rfl) ⟨Nat.le_of_ble_eq_true rfl, Nat.le_of_ble_eq_true rfl⟩) ?_
  refine j_iconst (v := 1) C dX4_refuseOtherLoops_6 rfl ?_
  refine j_isub (x := nI n) (y := 1) (v := nI n - 1) C dX4_refuseOtherLoops_7 rfl ?_
  refine j_callRi (v := jb (jBt y 0 (nI n - 1))) (j_runS (As := [.int y, .int 0, .int (nI n - 1)]) (rest := []) [] C (c_X4_isBetween l g y 0 (nI n - 1)) gX4_refuseOtherLoops_X4_isBetween rfl rfl rfl hd_X4_isBetween ⟨Nat.le_of_ble_eq_true rfl, Nat.le_of_ble_eq_true rfl⟩ rfl rfl dX4_refuseOtherLoops_8 rfl (Nat.le_of_ble_eq_true rfl) ⟨Nat.le_of_ble_eq_true rfl, Nat.le_of_ble_eq_true rfl⟩) ?_
  refine j_eq (pc' := 11) (L' := [(0, .ref q), (1, .int y)]) (st' := [.int (jb false)]) (ws' := [(q, .inr (1, [.ref ca, .int (nI n)])), (ca, jaI g 224 f)]) ?_ rfl rfl (by rw [hy]) rfl
  refine j_if_ne (tgt := 24) C dX4_refuseOtherLoops_11 (by decide) (fun c_1 => ?_) (fun c_1 => ?_)
  · skip
    have c_1 : false = true := jb_1 c_1
    (first | exact absurd c_1 (by decide) | exact absurd c_1 (by omega) | simp_all)
  · skip
    have c_1 : false = false := jb_0 c_1
    exact j_throw (E := "java/lang/IndexOutOfBoundsException") (ik := 105) (is := 197) (ic := 109) C hst9 hX hZ ht9 (by decide) (by decide) (by decide) (List.mem_of_getElem? (i := 1) rfl) (List.mem_of_getElem? (i := 2) rfl) (fun w h => List.mem_cons_of_mem _ (by exact List.mem_append_right _ h)) jat_109 jot_109 dX4_refuseOtherLoops_14 dX4_refuseOtherLoops_17 dX4_refuseOtherLoops_18 dX4_refuseOtherLoops_20 dX4_refuseOtherLoops_23 (Nat.le_of_ble_eq_true rfl) (Nat.le_of_ble_eq_true rfl) (Nat.le_of_ble_eq_true rfl) (Nat.le_of_ble_eq_true rfl)
