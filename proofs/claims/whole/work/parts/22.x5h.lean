set_option maxRecDepth 100000 in
theorem hin_X5_isSame_X5 : ∀ w ∈ u_ws RX5 TX5 11, w ∈ wsX5_isSame := fun w h => List.mem_cons_of_mem _ (by exact List.mem_append_right _ h)
theorem hd_X5_areCases : yX5_areCases.cls = RX5 ∧ yX5_areCases.cls ≠ "java/lang/invoke/MethodHandle" ∧ yX5_areCases.cls ≠ "java/lang/invoke/VarHandle" ∧ (parseMethodDescriptor yX5_areCases.desc).map (fun d => d.parameters.length) = some 2 := by decide +kernel
theorem hd_X5_whyCases : yX5_whyCases.cls = RX5 ∧ yX5_whyCases.cls ≠ "java/lang/invoke/MethodHandle" ∧ yX5_whyCases.cls ≠ "java/lang/invoke/VarHandle" ∧ (parseMethodDescriptor yX5_whyCases.desc).map (fun d => d.parameters.length) = some 3 := by decide +kernel
set_option maxRecDepth 100000 in
theorem hin_X5_differ_X5 : ∀ w ∈ u_ws RX5 TX5 11, w ∈ wsX5_differ := fun w h => List.mem_cons_of_mem _ (by exact List.mem_append_right _ h)
set_option maxRecDepth 100000 in
theorem hin_X5_firstCase_X5 : ∀ w ∈ u_ws RX5 TX5 11, w ∈ wsX5_firstCase := fun w h => List.mem_cons_of_mem _ (by exact List.mem_append_right _ h)
set_option maxRecDepth 100000 in
theorem hin_X5_cost_X5 : ∀ w ∈ u_ws RX5 TX5 11, w ∈ wsX5_cost := fun w h => List.mem_cons_of_mem _ (by exact List.mem_append_right _ h)
set_option maxRecDepth 100000 in
theorem hin_X5_exits_X5 : ∀ w ∈ u_ws RX5 TX5 11, w ∈ wsX5_exits := fun w h => List.mem_cons_of_mem _ (by exact List.mem_append_right _ h)
theorem hd_X5_layCase : yX5_layCase.cls = RX5 ∧ yX5_layCase.cls ≠ "java/lang/invoke/MethodHandle" ∧ yX5_layCase.cls ≠ "java/lang/invoke/VarHandle" ∧ (parseMethodDescriptor yX5_layCase.desc).map (fun d => d.parameters.length) = some 3 := by decide +kernel
theorem hd_X5_isSame : yX5_isSame.cls = RX5 ∧ yX5_isSame.cls ≠ "java/lang/invoke/MethodHandle" ∧ yX5_isSame.cls ≠ "java/lang/invoke/VarHandle" ∧ (parseMethodDescriptor yX5_isSame.desc).map (fun d => d.parameters.length) = some 3 := by decide +kernel
set_option maxHeartbeats 4000000 in
set_option maxRecDepth 100000 in
theorem c_X5_isSame (l : Launch) (g : jG) (m0 : Nat) (th : Int32) (N tb md rw0 : Nat) (sz : Int32) (cs va : Nat) (lk : Int32) (rn kp : Nat) (tr : Nat → Nat) (k n : Nat) (f : Nat → Int32) (k2 n2 : Nat) (f2 : Nat → Int32) (vv cf kf : Nat → Int64) (d : Nat) (r1 : (Nat → Int64) × Int32 × Int32) (r2 : (Nat → Int64) × Int32 × Int32) (hk : k < 10) (hok : jOk n f) (hd : d ≤ 6) (hk2 : k2 < 10) (hok2 : jOk n2 f2) (h1 : jRn n f cf d = r1) (h2 : jRn n2 f2 cf d = r2) : jWi l yX5_isSame wsX5_isSame ({ frames := 5, cells := 0, slots := 0, locals := 126 }) g [.ref m0, .int (nI k), .int (nI k2), .int (nI d)] [(m0, .inr (4, [.int th, .int (nI N), .ref tb, .ref md, .ref rw0, .int sz, .ref cs, .ref va, .int lk, .ref rn, .ref kp])), (tb, jaR g 10 (fun i => some (tr i))), (tr k, jaI g 253 (jrw n f)), (tr k2, jaI g 253 (jrw n2 f2)), (va, jaL g 4 vv), (cs, jaL g 6 cf), (kp, jaL g 4 kf)] [(m0, .inr (4, [.int th, .int (nI N), .ref tb, .ref md, .ref rw0, .int sz, .ref cs, .ref va, .int r2.2.1, .ref rn, .ref kp])), (tb, jaR g 10 (fun i => some (tr i))), (tr k, jaI g 253 (jrw n f)), (tr k2, jaI g 253 (jrw n2 f2)), (va, jaL g 4 r2.1), (cs, jaL g 6 cf), (kp, jaL g 4 r1.1)] (jb (jAL r1.1 r1.2.2 r2.1 r2.2.2)) := by
  refine j_enterW (Qc := fun sz_ => va_Qi (fun r (_ : Unit) => r = jb (jAL r1.1 r1.2.2 r2.1 r2.2.2)) (fun _ t => va_P g.1 vwCl [(m0, .inr (4, [.int th, .int (nI N), .ref tb, .ref md, .ref rw0, .int sz, .ref cs, .ref va, .int r2.2.1, .ref rn, .ref kp])), (tb, jaR g 10 (fun i => some (tr i))), (tr k, jaI g 253 (jrw n f)), (tr k2, jaI g 253 (jrw n2 f2)), (va, jaL g 4 r2.1), (cs, jaL g 6 cf), (kp, jaL g 4 r1.1)] t.heap) (va_A [(m0, .inr (4, [.int th, .int (nI N), .ref tb, .ref md, .ref rw0, .int sz, .ref cs, .ref va, .int lk, .ref rn, .ref kp])), (tb, jaR g 10 (fun i => some (tr i))), (tr k, jaI g 253 (jrw n f)), (tr k2, jaI g 253 (jrw n2 f2)), (va, jaL g 4 vv), (cs, jaL g 6 cf), (kp, jaL g 4 kf)] sz_)) (cc := cX5_isSame) (maxL := 8) (ret := (some .boolean)) (own := RX5) (L := [(0, .ref m0), (1, .int (nI k)), (2, .int (nI k2)), (3, .int (nI d))]) (by decide) rfl rfl (Nat.le_of_ble_eq_true rfl) rfl (fun p e s m args below meth c C hr => ?_)
  refine j_aload_n 0 C dX5_isSame_0 rfl rfl ?_
  refine j_aload_n 0 C dX5_isSame_1 rfl rfl ?_
  refine j_get (Cn := RX5) (T := TX5) (N := 11) 0 2 C dX5_isSame_2 hin_X5_isSame_X5 rfl rfl (by decide) (List.mem_of_getElem? (i := 1) rfl) rfl ?_
  refine j_iload_n 1 C dX5_isSame_5 rfl rfl ?_
  refine j_aldR (x := k) 1 C dX5_isSame_6 rfl rfl (by omega) (by decide) ?_
  refine j_eq (pc' := 7) (L' := [(0, .ref m0), (1, .int (nI k)), (2, .int (nI k2)), (3, .int (nI d))]) (st' := [.ref (tr k), .ref m0]) (ws' := [(m0, .inr (4, [.int th, .int (nI N), .ref tb, .ref md, .ref rw0, .int sz, .ref cs, .ref va, .int lk, .ref rn, .ref kp])), (tb, jaR g 10 (fun i => some (tr i))), (tr k, jaI g 253 (jrw n f)), (tr k2, jaI g 253 (jrw n2 f2)), (va, jaL g 4 vv), (cs, jaL g 6 cf), (kp, jaL g 4 kf)]) ?_ rfl rfl rfl rfl
  refine j_aload_n 0 C dX5_isSame_7 rfl rfl ?_
  refine j_get (Cn := RX5) (T := TX5) (N := 11) 0 6 C dX5_isSame_8 hin_X5_isSame_X5 rfl rfl (by decide) (List.mem_of_getElem? (i := 2) rfl) rfl ?_
  refine j_iload_n 3 C dX5_isSame_11 rfl rfl ?_
  refine j_callWi [0, 4, 2, 5] (fun _ => [(m0, .inr (4, [.int th, .int (nI N), .ref tb, .ref md, .ref rw0, .int sz, .ref cs, .ref va, .int ((jRn n f cf d).2.1), .ref rn, .ref kp])), (tb, jaR g 10 (fun i => some (tr i))), (tr k, jaI g 253 (jrw n f)), (tr k2, jaI g 253 (jrw n2 f2)), (va, jaL g 4 ((jRn n f cf d).1)), (cs, jaL g 6 cf), (kp, jaL g 4 kf)]) C (j_runV (ci := 0) (As := [.ref (tr k), .ref cs, .int (nI d)]) (rest := []) [0, 4, 2, 5] C (c_X5_runOver l g m0 th (nI N) tb md rw0 sz cs va lk rn kp vv (tr k) n f cs d 6 cf (by omega) (by omega) (by omega)) gX5_isSame_X5_runOver rfl rfl rfl hd_X5_runOver ⟨Nat.le_of_ble_eq_true rfl, Nat.le_of_ble_eq_true rfl⟩ rfl rfl rfl rfl dX5_isSame_12 rfl (Nat.le_of_ble_eq_true rfl) ⟨Nat.le_of_ble_eq_true rfl, Nat.le_of_ble_eq_true rfl⟩) rfl (fun _ => rfl) (fun _ => rfl) (fun z _ hz => ?_)
  subst hz
  refine j_eq (pc' := 15) (L' := [(0, .ref m0), (1, .int (nI k)), (2, .int (nI k2)), (3, .int (nI d))]) (st' := [.int r1.2.2]) (ws' := [(m0, .inr (4, [.int th, .int (nI N), .ref tb, .ref md, .ref rw0, .int sz, .ref cs, .ref va, .int r1.2.1, .ref rn, .ref kp])), (tb, jaR g 10 (fun i => some (tr i))), (tr k, jaI g 253 (jrw n f)), (tr k2, jaI g 253 (jrw n2 f2)), (va, jaL g 4 r1.1), (cs, jaL g 6 cf), (kp, jaL g 4 kf)]) ?_ rfl rfl (by simp only [h1]) (by simp only [h1])
  refine j_istore (L' := [(0, .ref m0), (1, .int (nI k)), (2, .int (nI k2)), (3, .int (nI d)), (4, .int r1.2.2)]) C dX5_isSame_15 (Nat.le_of_ble_eq_true rfl) rfl rfl ?_
  refine j_aload_n 0 C dX5_isSame_17 rfl rfl ?_
  refine j_get (Cn := RX5) (T := TX5) (N := 11) 0 7 C dX5_isSame_18 hin_X5_isSame_X5 rfl rfl (by decide) (List.mem_of_getElem? (i := 3) rfl) rfl ?_
  refine j_iconst (v := 0) C dX5_isSame_21 rfl ?_
  refine j_aload_n 0 C dX5_isSame_22 rfl rfl ?_
  refine j_get (Cn := RX5) (T := TX5) (N := 11) 0 10 C dX5_isSame_23 hin_X5_isSame_X5 rfl rfl (by decide) (List.mem_of_getElem? (i := 4) rfl) rfl ?_
  refine j_iconst (v := 0) C dX5_isSame_26 rfl ?_
  refine j_iconst (v := 4) C dX5_isSame_27 rfl ?_
  refine j_copyL (sp := 0) (dp := 0) (n := 4) (rest := []) (ws' := [(m0, .inr (4, [.int th, .int (nI N), .ref tb, .ref md, .ref rw0, .int sz, .ref cs, .ref va, .int r1.2.1, .ref rn, .ref kp])), (tb, jaR g 10 (fun i => some (tr i))), (tr k, jaI g 253 (jrw n f)), (tr k2, jaI g 253 (jrw n2 f2)), (va, jaL g 4 r1.1), (cs, jaL g 6 cf), (kp, jaL g 4 (va_cpy r1.1 kf 0 0 4))]) 4 6 C dX5_isSame_28 (List.mem_of_getElem? (i := 5) rfl) (List.mem_of_getElem? (i := 6) rfl) (List.mem_of_getElem? (i := 7) rfl) (List.mem_of_getElem? (i := 8) rfl) rfl rfl rfl rfl rfl (by omega) (by omega) (by decide) (by decide) (Nat.le_of_ble_eq_true rfl) (Nat.le_of_ble_eq_true rfl) rfl ?_
  refine j_arrL (f' := r1.1) (ws' := [(m0, .inr (4, [.int th, .int (nI N), .ref tb, .ref md, .ref rw0, .int sz, .ref cs, .ref va, .int r1.2.1, .ref rn, .ref kp])), (tb, jaR g 10 (fun i => some (tr i))), (tr k, jaI g 253 (jrw n f)), (tr k2, jaI g 253 (jrw n2 f2)), (va, jaL g 4 r1.1), (cs, jaL g 6 cf), (kp, jaL g 4 r1.1)]) 6 rfl (fun i hi => jcp_all hi) rfl ?_
  refine j_aload_n 0 C dX5_isSame_31 rfl rfl ?_
  refine j_aload_n 0 C dX5_isSame_32 rfl rfl ?_
  refine j_get (Cn := RX5) (T := TX5) (N := 11) 0 2 C dX5_isSame_33 hin_X5_isSame_X5 rfl rfl (by decide) (List.mem_of_getElem? (i := 1) rfl) rfl ?_
  refine j_iload_n 2 C dX5_isSame_36 rfl rfl ?_
  refine j_aldR (x := k2) 1 C dX5_isSame_37 rfl rfl (by omega) (by decide) ?_
  refine j_eq (pc' := 38) (L' := [(0, .ref m0), (1, .int (nI k)), (2, .int (nI k2)), (3, .int (nI d)), (4, .int r1.2.2)]) (st' := [.ref (tr k2), .ref m0]) (ws' := [(m0, .inr (4, [.int th, .int (nI N), .ref tb, .ref md, .ref rw0, .int sz, .ref cs, .ref va, .int r1.2.1, .ref rn, .ref kp])), (tb, jaR g 10 (fun i => some (tr i))), (tr k, jaI g 253 (jrw n f)), (tr k2, jaI g 253 (jrw n2 f2)), (va, jaL g 4 r1.1), (cs, jaL g 6 cf), (kp, jaL g 4 r1.1)]) ?_ rfl rfl rfl rfl
  refine j_aload_n 0 C dX5_isSame_38 rfl rfl ?_
  refine j_get (Cn := RX5) (T := TX5) (N := 11) 0 6 C dX5_isSame_39 hin_X5_isSame_X5 rfl rfl (by decide) (List.mem_of_getElem? (i := 2) rfl) rfl ?_
  refine j_iload_n 3 C dX5_isSame_42 rfl rfl ?_
  refine j_callWi [0, 4, 3, 5] (fun _ => [(m0, .inr (4, [.int th, .int (nI N), .ref tb, .ref md, .ref rw0, .int sz, .ref cs, .ref va, .int ((jRn n2 f2 cf d).2.1), .ref rn, .ref kp])), (tb, jaR g 10 (fun i => some (tr i))), (tr k, jaI g 253 (jrw n f)), (tr k2, jaI g 253 (jrw n2 f2)), (va, jaL g 4 ((jRn n2 f2 cf d).1)), (cs, jaL g 6 cf), (kp, jaL g 4 r1.1)]) C (j_runV (ci := 0) (As := [.ref (tr k2), .ref cs, .int (nI d)]) (rest := []) [0, 4, 3, 5] C (c_X5_runOver l g m0 th (nI N) tb md rw0 sz cs va r1.2.1 rn kp r1.1 (tr k2) n2 f2 cs d 6 cf (by omega) (by omega) (by omega)) gX5_isSame_X5_runOver rfl rfl rfl hd_X5_runOver ⟨Nat.le_of_ble_eq_true rfl, Nat.le_of_ble_eq_true rfl⟩ rfl rfl rfl rfl dX5_isSame_43 rfl (Nat.le_of_ble_eq_true rfl) ⟨Nat.le_of_ble_eq_true rfl, Nat.le_of_ble_eq_true rfl⟩) rfl (fun _ => rfl) (fun _ => rfl) (fun z _ hz => ?_)
  subst hz
  refine j_eq (pc' := 46) (L' := [(0, .ref m0), (1, .int (nI k)), (2, .int (nI k2)), (3, .int (nI d)), (4, .int r1.2.2)]) (st' := [.int r2.2.2]) (ws' := [(m0, .inr (4, [.int th, .int (nI N), .ref tb, .ref md, .ref rw0, .int sz, .ref cs, .ref va, .int r2.2.1, .ref rn, .ref kp])), (tb, jaR g 10 (fun i => some (tr i))), (tr k, jaI g 253 (jrw n f)), (tr k2, jaI g 253 (jrw n2 f2)), (va, jaL g 4 r2.1), (cs, jaL g 6 cf), (kp, jaL g 4 r1.1)]) ?_ rfl rfl (by simp only [h2]) (by simp only [h2])
  refine j_istore (L' := [(0, .ref m0), (1, .int (nI k)), (2, .int (nI k2)), (3, .int (nI d)), (4, .int r1.2.2), (5, .int r2.2.2)]) C dX5_isSame_46 (Nat.le_of_ble_eq_true rfl) rfl rfl ?_
  refine j_iload 4 C dX5_isSame_48 rfl ?_
  refine j_iload 5 C dX5_isSame_50 rfl ?_
  refine j_icmp_ne (tgt := 59) C dX5_isSame_52 (by decide) (fun c_3 => ?_) (fun c_3 => ?_)
  · skip
    refine j_iconst (v := 0) C dX5_isSame_59 rfl ?_
    refine j_eq (pc' := 60) (L' := [(0, .ref m0), (1, .int (nI k)), (2, .int (nI k2)), (3, .int (nI d)), (4, .int r1.2.2), (5, .int r2.2.2)]) (st' := [.int (jb (decide (r1.2.2 = r2.2.2)))]) (ws' := [(m0, .inr (4, [.int th, .int (nI N), .ref tb, .ref md, .ref rw0, .int sz, .ref cs, .ref va, .int r2.2.1, .ref rn, .ref kp])), (tb, jaR g 10 (fun i => some (tr i))), (tr k, jaI g 253 (jrw n f)), (tr k2, jaI g 253 (jrw n2 f2)), (va, jaL g 4 r2.1), (cs, jaL g 6 cf), (kp, jaL g 4 r1.1)]) ?_ rfl rfl (by rw [decide_eq_false (by assumption)]; rfl) rfl
    refine j_istore (L' := [(0, .ref m0), (1, .int (nI k)), (2, .int (nI k2)), (3, .int (nI d)), (4, .int r1.2.2), (5, .int r2.2.2), (6, .int (jb (decide (r1.2.2 = r2.2.2))))]) C dX5_isSame_60 (Nat.le_of_ble_eq_true rfl) rfl rfl ?_
    refine j_iconst (v := 0) C dX5_isSame_62 rfl ?_
    refine j_istore (L' := [(0, .ref m0), (1, .int (nI k)), (2, .int (nI k2)), (3, .int (nI d)), (4, .int r1.2.2), (5, .int r2.2.2), (6, .int (jb (decide (r1.2.2 = r2.2.2)))), (7, .int 0)]) C dX5_isSame_63 (Nat.le_of_ble_eq_true rfl) rfl rfl ?_
    refine j_loop (σ := Nat × Bool) (fun (x9_ : Nat × Bool) => match x9_ with | (x, bb) => [(0, .ref m0), (1, .int (nI k)), (2, .int (nI k2)), (3, .int (nI d)), (4, .int r1.2.2), (5, .int r2.2.2), (6, .int (jb bb)), (7, .int (nI x))]) (fun (x9_ : Nat × Bool) => match x9_ with | (x, bb) => [(m0, .inr (4, [.int th, .int (nI N), .ref tb, .ref md, .ref rw0, .int sz, .ref cs, .ref va, .int r2.2.1, .ref rn, .ref kp])), (tb, jaR g 10 (fun i => some (tr i))), (tr k, jaI g 253 (jrw n f)), (tr k2, jaI g 253 (jrw n2 f2)), (va, jaL g 4 r2.1), (cs, jaL g 6 cf), (kp, jaL g 4 r1.1)]) (fun (x9_ : Nat × Bool) => match x9_ with | (x, bb) => (x ≤ 4) ∧ ((if r1.2.2 = -1 then (bb && jEqV r1.1 r2.1 (4 - x) x) else bb) = jAL r1.1 r1.2.2 r2.1 r2.2.2)) (fun (x9_ : Nat × Bool) => match x9_ with | (x, bb) => 4 - x) (fun x_ hi_5 ih_4 => ?_) (0, decide (r1.2.2 = r2.2.2)) ⟨(by omega), (by rw [jAL]; by_cases h1 : r1.2.2 = r2.2.2; (rw [decide_eq_true h1, if_pos h1]; split; exact Bool.true_and _; rfl); (rw [decide_eq_false h1, if_neg h1]; split; exact Bool.false_and _; rfl))⟩ rfl rfl
    obtain ⟨x, bb⟩ := x_
    obtain ⟨hI0, hI1⟩ := (show (x ≤ 4) ∧ ((if r1.2.2 = -1 then (bb && jEqV r1.1 r2.1 (4 - x) x) else bb) = jAL r1.1 r1.2.2 r2.1 r2.2.2) from hi_5)
    refine j_eq (pc' := 65) (L' := [(0, .ref m0), (1, .int (nI k)), (2, .int (nI k2)), (3, .int (nI d)), (4, .int r1.2.2), (5, .int r2.2.2), (6, .int (jb bb)), (7, .int (nI x))]) (st' := []) (ws' := [(m0, .inr (4, [.int th, .int (nI N), .ref tb, .ref md, .ref rw0, .int sz, .ref cs, .ref va, .int r2.2.1, .ref rn, .ref kp])), (tb, jaR g 10 (fun i => some (tr i))), (tr k, jaI g 253 (jrw n f)), (tr k2, jaI g 253 (jrw n2 f2)), (va, jaL g 4 r2.1), (cs, jaL g 6 cf), (kp, jaL g 4 r1.1)]) ?_ rfl rfl rfl rfl
    refine j_iload 7 C dX5_isSame_65 rfl ?_
    refine j_iconst (v := 4) C dX5_isSame_67 rfl ?_
    refine j_icmp_ge (tgt := 113) C dX5_isSame_68 (by decide) (fun c_6 => ?_) (fun c_6 => ?_)
    · skip
      have c_6 : 4 ≤ x := (nI_leI (a := 4) (b := x) (by omega) (by omega)).mp c_6
      refine j_iload 6 C dX5_isSame_113 rfl ?_
      exact j_zretW (v := jb bb) C hr dX5_isSame_115 (jb_n bb) () (by rw [← hI1]; first | (rw [if_neg (by assumption)]) | (rw [show 4 - x = 0 by omega]; split; exact congrArg jb (Bool.and_true _).symm; rfl)) rfl
    · skip
      have c_6 : ¬ 4 ≤ x := fun z => c_6 ((nI_leI (a := 4) (b := x) (by omega) (by omega)).mpr z)
      refine j_iload 4 C dX5_isSame_71 rfl ?_
      refine j_iconst (v := -1) C dX5_isSame_73 rfl ?_
      refine j_icmp_ne (tgt := 113) C dX5_isSame_74 (by decide) (fun c_7 => ?_) (fun c_7 => ?_)
      · skip
        refine j_iload 6 C dX5_isSame_113 rfl ?_
        exact j_zretW (v := jb bb) C hr dX5_isSame_115 (jb_n bb) () (by rw [← hI1]; first | (rw [if_neg (by assumption)]) | (rw [show 4 - x = 0 by omega]; split; exact congrArg jb (Bool.and_true _).symm; rfl)) rfl
      · skip
        refine j_iload 6 C dX5_isSame_77 rfl ?_
        refine j_if_eq (tgt := 104) C dX5_isSame_79 (by decide) (fun c_8 => ?_) (fun c_8 => ?_)
        · skip
          have c_8 : bb = false := jb_0 c_8
          refine j_iconst (v := 0) C dX5_isSame_104 rfl ?_
          refine j_eq (pc' := 105) (L' := [(0, .ref m0), (1, .int (nI k)), (2, .int (nI k2)), (3, .int (nI d)), (4, .int r1.2.2), (5, .int r2.2.2), (6, .int (jb bb)), (7, .int (nI x))]) (st' := [.int (jb false)]) (ws' := [(m0, .inr (4, [.int th, .int (nI N), .ref tb, .ref md, .ref rw0, .int sz, .ref cs, .ref va, .int r2.2.1, .ref rn, .ref kp])), (tb, jaR g 10 (fun i => some (tr i))), (tr k, jaI g 253 (jrw n f)), (tr k2, jaI g 253 (jrw n2 f2)), (va, jaL g 4 r2.1), (cs, jaL g 6 cf), (kp, jaL g 4 r1.1)]) ?_ rfl rfl rfl rfl
          refine j_istore (L' := [(0, .ref m0), (1, .int (nI k)), (2, .int (nI k2)), (3, .int (nI d)), (4, .int r1.2.2), (5, .int r2.2.2), (6, .int (jb false)), (7, .int (nI x))]) C dX5_isSame_105 (Nat.le_of_ble_eq_true rfl) rfl rfl ?_
          refine j_iinc (v := nI (x + 1)) (L' := [(0, .ref m0), (1, .int (nI k)), (2, .int (nI k2)), (3, .int (nI d)), (4, .int r1.2.2), (5, .int r2.2.2), (6, .int (jb false)), (7, .int (nI (x + 1)))]) 7 C dX5_isSame_107 rfl (nI_add x 1) (Nat.le_of_ble_eq_true rfl) rfl rfl ?_
          refine j_goto (tgt := 65) C dX5_isSame_110 (by decide) ?_
          exact ih_4 (x + 1, false) ⟨(by omega), (by rw [← hI1, if_pos (by assumption), if_pos (by assumption), show 4 - x = (4 - (x + 1)) + 1 by omega]; first | (rw [jEqV_t (by assumption), ‹bb = true›]) | (rw [jEqV_f (by assumption), Bool.false_and, Bool.and_false]) | (rw [‹bb = false›, Bool.false_and, Bool.false_and]))⟩ (show 4 - (x + 1) < 4 - x from by omega)
        · skip
          have c_8 : bb = true := jb_1 c_8
          refine j_aload_n 0 C dX5_isSame_82 rfl rfl ?_
          refine j_get (Cn := RX5) (T := TX5) (N := 11) 0 10 C dX5_isSame_83 hin_X5_isSame_X5 rfl rfl (by decide) (List.mem_of_getElem? (i := 4) rfl) rfl ?_
          refine j_iload 7 C dX5_isSame_86 rfl ?_
          refine j_laldN (x := x) 6 C dX5_isSame_88 rfl rfl (by omega) (by decide) ?_
          refine j_aload_n 0 C dX5_isSame_89 rfl rfl ?_
          refine j_get (Cn := RX5) (T := TX5) (N := 11) 0 7 C dX5_isSame_90 hin_X5_isSame_X5 rfl rfl (by decide) (List.mem_of_getElem? (i := 3) rfl) rfl ?_
          refine j_iload 7 C dX5_isSame_93 rfl ?_
          refine j_laldN (x := x) 4 C dX5_isSame_95 rfl rfl (by omega) (by decide) ?_
          refine j_lcmp_ne (tgt := 104) C dX5_isSame_96 dX5_isSame_97 (by decide) (fun c_9 => ?_) (fun c_9 => ?_)
          · skip
            refine j_iconst (v := 0) C dX5_isSame_104 rfl ?_
            refine j_eq (pc' := 105) (L' := [(0, .ref m0), (1, .int (nI k)), (2, .int (nI k2)), (3, .int (nI d)), (4, .int r1.2.2), (5, .int r2.2.2), (6, .int (jb bb)), (7, .int (nI x))]) (st' := [.int (jb false)]) (ws' := [(m0, .inr (4, [.int th, .int (nI N), .ref tb, .ref md, .ref rw0, .int sz, .ref cs, .ref va, .int r2.2.1, .ref rn, .ref kp])), (tb, jaR g 10 (fun i => some (tr i))), (tr k, jaI g 253 (jrw n f)), (tr k2, jaI g 253 (jrw n2 f2)), (va, jaL g 4 r2.1), (cs, jaL g 6 cf), (kp, jaL g 4 r1.1)]) ?_ rfl rfl rfl rfl
            refine j_istore (L' := [(0, .ref m0), (1, .int (nI k)), (2, .int (nI k2)), (3, .int (nI d)), (4, .int r1.2.2), (5, .int r2.2.2), (6, .int (jb false)), (7, .int (nI x))]) C dX5_isSame_105 (Nat.le_of_ble_eq_true rfl) rfl rfl ?_
            refine j_iinc (v := nI (x + 1)) (L' := [(0, .ref m0), (1, .int (nI k)), (2, .int (nI k2)), (3, .int (nI d)), (4, .int r1.2.2), (5, .int r2.2.2), (6, .int (jb false)), (7, .int (nI (x + 1)))]) 7 C dX5_isSame_107 rfl (nI_add x 1) (Nat.le_of_ble_eq_true rfl) rfl rfl ?_
            refine j_goto (tgt := 65) C dX5_isSame_110 (by decide) ?_
            exact ih_4 (x + 1, false) ⟨(by omega), (by rw [← hI1, if_pos (by assumption), if_pos (by assumption), show 4 - x = (4 - (x + 1)) + 1 by omega]; first | (rw [jEqV_t (by assumption), ‹bb = true›]) | (rw [jEqV_f (by assumption), Bool.false_and, Bool.and_false]) | (rw [‹bb = false›, Bool.false_and, Bool.false_and]))⟩ (show 4 - (x + 1) < 4 - x from by omega)
          · skip
            refine j_iconst (v := 1) C dX5_isSame_100 rfl ?_
            refine j_goto (tgt := 105) C dX5_isSame_101 (by decide) ?_
            refine j_eq (pc' := 105) (L' := [(0, .ref m0), (1, .int (nI k)), (2, .int (nI k2)), (3, .int (nI d)), (4, .int r1.2.2), (5, .int r2.2.2), (6, .int (jb bb)), (7, .int (nI x))]) (st' := [.int (jb true)]) (ws' := [(m0, .inr (4, [.int th, .int (nI N), .ref tb, .ref md, .ref rw0, .int sz, .ref cs, .ref va, .int r2.2.1, .ref rn, .ref kp])), (tb, jaR g 10 (fun i => some (tr i))), (tr k, jaI g 253 (jrw n f)), (tr k2, jaI g 253 (jrw n2 f2)), (va, jaL g 4 r2.1), (cs, jaL g 6 cf), (kp, jaL g 4 r1.1)]) ?_ rfl rfl rfl rfl
            refine j_istore (L' := [(0, .ref m0), (1, .int (nI k)), (2, .int (nI k2)), (3, .int (nI d)), (4, .int r1.2.2), (5, .int r2.2.2), (6, .int (jb true)), (7, .int (nI x))]) C dX5_isSame_105 (Nat.le_of_ble_eq_true rfl) rfl rfl ?_
            refine j_iinc (v := nI (x + 1)) (L' := [(0, .ref m0), (1, .int (nI k)), (2, .int (nI k2)), (3, .int (nI d)), (4, .int r1.2.2), (5, .int r2.2.2), (6, .int (jb true)), (7, .int (nI (x + 1)))]) 7 C dX5_isSame_107 rfl (nI_add x 1) (Nat.le_of_ble_eq_true rfl) rfl rfl ?_
            refine j_goto (tgt := 65) C dX5_isSame_110 (by decide) ?_
            exact ih_4 (x + 1, true) ⟨(by omega), (by rw [← hI1, if_pos (by assumption), if_pos (by assumption), show 4 - x = (4 - (x + 1)) + 1 by omega]; first | (rw [jEqV_t (by assumption), ‹bb = true›]) | (rw [jEqV_f (by assumption), Bool.false_and, Bool.and_false]) | (rw [‹bb = false›, Bool.false_and, Bool.false_and]))⟩ (show 4 - (x + 1) < 4 - x from by omega)
  · skip
    refine j_iconst (v := 1) C dX5_isSame_55 rfl ?_
    refine j_goto (tgt := 60) C dX5_isSame_56 (by decide) ?_
    refine j_eq (pc' := 60) (L' := [(0, .ref m0), (1, .int (nI k)), (2, .int (nI k2)), (3, .int (nI d)), (4, .int r1.2.2), (5, .int r2.2.2)]) (st' := [.int (jb (decide (r1.2.2 = r2.2.2)))]) (ws' := [(m0, .inr (4, [.int th, .int (nI N), .ref tb, .ref md, .ref rw0, .int sz, .ref cs, .ref va, .int r2.2.1, .ref rn, .ref kp])), (tb, jaR g 10 (fun i => some (tr i))), (tr k, jaI g 253 (jrw n f)), (tr k2, jaI g 253 (jrw n2 f2)), (va, jaL g 4 r2.1), (cs, jaL g 6 cf), (kp, jaL g 4 r1.1)]) ?_ rfl rfl (by rw [decide_eq_true (by assumption)]; rfl) rfl
    refine j_istore (L' := [(0, .ref m0), (1, .int (nI k)), (2, .int (nI k2)), (3, .int (nI d)), (4, .int r1.2.2), (5, .int r2.2.2), (6, .int (jb (decide (r1.2.2 = r2.2.2))))]) C dX5_isSame_60 (Nat.le_of_ble_eq_true rfl) rfl rfl ?_
    refine j_iconst (v := 0) C dX5_isSame_62 rfl ?_
    refine j_istore (L' := [(0, .ref m0), (1, .int (nI k)), (2, .int (nI k2)), (3, .int (nI d)), (4, .int r1.2.2), (5, .int r2.2.2), (6, .int (jb (decide (r1.2.2 = r2.2.2)))), (7, .int 0)]) C dX5_isSame_63 (Nat.le_of_ble_eq_true rfl) rfl rfl ?_
    refine j_loop (σ := Nat × Bool) (fun (x9_ : Nat × Bool) => match x9_ with | (x, bb) => [(0, .ref m0), (1, .int (nI k)), (2, .int (nI k2)), (3, .int (nI d)), (4, .int r1.2.2), (5, .int r2.2.2), (6, .int (jb bb)), (7, .int (nI x))]) (fun (x9_ : Nat × Bool) => match x9_ with | (x, bb) => [(m0, .inr (4, [.int th, .int (nI N), .ref tb, .ref md, .ref rw0, .int sz, .ref cs, .ref va, .int r2.2.1, .ref rn, .ref kp])), (tb, jaR g 10 (fun i => some (tr i))), (tr k, jaI g 253 (jrw n f)), (tr k2, jaI g 253 (jrw n2 f2)), (va, jaL g 4 r2.1), (cs, jaL g 6 cf), (kp, jaL g 4 r1.1)]) (fun (x9_ : Nat × Bool) => match x9_ with | (x, bb) => (x ≤ 4) ∧ ((if r1.2.2 = -1 then (bb && jEqV r1.1 r2.1 (4 - x) x) else bb) = jAL r1.1 r1.2.2 r2.1 r2.2.2)) (fun (x9_ : Nat × Bool) => match x9_ with | (x, bb) => 4 - x) (fun x_ hi_11 ih_10 => ?_) (0, decide (r1.2.2 = r2.2.2)) ⟨(by omega), (by rw [jAL]; by_cases h1 : r1.2.2 = r2.2.2; (rw [decide_eq_true h1, if_pos h1]; split; exact Bool.true_and _; rfl); (rw [decide_eq_false h1, if_neg h1]; split; exact Bool.false_and _; rfl))⟩ rfl rfl
    obtain ⟨x, bb⟩ := x_
    obtain ⟨hI0, hI1⟩ := (show (x ≤ 4) ∧ ((if r1.2.2 = -1 then (bb && jEqV r1.1 r2.1 (4 - x) x) else bb) = jAL r1.1 r1.2.2 r2.1 r2.2.2) from hi_11)
    refine j_eq (pc' := 65) (L' := [(0, .ref m0), (1, .int (nI k)), (2, .int (nI k2)), (3, .int (nI d)), (4, .int r1.2.2), (5, .int r2.2.2), (6, .int (jb bb)), (7, .int (nI x))]) (st' := []) (ws' := [(m0, .inr (4, [.int th, .int (nI N), .ref tb, .ref md, .ref rw0, .int sz, .ref cs, .ref va, .int r2.2.1, .ref rn, .ref kp])), (tb, jaR g 10 (fun i => some (tr i))), (tr k, jaI g 253 (jrw n f)), (tr k2, jaI g 253 (jrw n2 f2)), (va, jaL g 4 r2.1), (cs, jaL g 6 cf), (kp, jaL g 4 r1.1)]) ?_ rfl rfl rfl rfl
    refine j_iload 7 C dX5_isSame_65 rfl ?_
    refine j_iconst (v := 4) C dX5_isSame_67 rfl ?_
    refine j_icmp_ge (tgt := 113) C dX5_isSame_68 (by decide) (fun c_12 => ?_) (fun c_12 => ?_)
    · skip
      have c_12 : 4 ≤ x := (nI_leI (a := 4) (b := x) (by omega) (by omega)).mp c_12
      refine j_iload 6 C dX5_isSame_113 rfl ?_
      exact j_zretW (v := jb bb) C hr dX5_isSame_115 (jb_n bb) () (by rw [← hI1]; first | (rw [if_neg (by assumption)]) | (rw [show 4 - x = 0 by omega]; split; exact congrArg jb (Bool.and_true _).symm; rfl)) rfl
    · skip
      have c_12 : ¬ 4 ≤ x := fun z => c_12 ((nI_leI (a := 4) (b := x) (by omega) (by omega)).mpr z)
      refine j_iload 4 C dX5_isSame_71 rfl ?_
      refine j_iconst (v := -1) C dX5_isSame_73 rfl ?_
      refine j_icmp_ne (tgt := 113) C dX5_isSame_74 (by decide) (fun c_13 => ?_) (fun c_13 => ?_)
      · skip
        refine j_iload 6 C dX5_isSame_113 rfl ?_
        exact j_zretW (v := jb bb) C hr dX5_isSame_115 (jb_n bb) () (by rw [← hI1]; first | (rw [if_neg (by assumption)]) | (rw [show 4 - x = 0 by omega]; split; exact congrArg jb (Bool.and_true _).symm; rfl)) rfl
      · skip
        refine j_iload 6 C dX5_isSame_77 rfl ?_
        refine j_if_eq (tgt := 104) C dX5_isSame_79 (by decide) (fun c_14 => ?_) (fun c_14 => ?_)
        · skip
          have c_14 : bb = false := jb_0 c_14
          refine j_iconst (v := 0) C dX5_isSame_104 rfl ?_
          refine j_eq (pc' := 105) (L' := [(0, .ref m0), (1, .int (nI k)), (2, .int (nI k2)), (3, .int (nI d)), (4, .int r1.2.2), (5, .int r2.2.2), (6, .int (jb bb)), (7, .int (nI x))]) (st' := [.int (jb false)]) (ws' := [(m0, .inr (4, [.int th, .int (nI N), .ref tb, .ref md, .ref rw0, .int sz, .ref cs, .ref va, .int r2.2.1, .ref rn, .ref kp])), (tb, jaR g 10 (fun i => some (tr i))), (tr k, jaI g 253 (jrw n f)), (tr k2, jaI g 253 (jrw n2 f2)), (va, jaL g 4 r2.1), (cs, jaL g 6 cf), (kp, jaL g 4 r1.1)]) ?_ rfl rfl rfl rfl
          refine j_istore (L' := [(0, .ref m0), (1, .int (nI k)), (2, .int (nI k2)), (3, .int (nI d)), (4, .int r1.2.2), (5, .int r2.2.2), (6, .int (jb false)), (7, .int (nI x))]) C dX5_isSame_105 (Nat.le_of_ble_eq_true rfl) rfl rfl ?_
          refine j_iinc (v := nI (x + 1)) (L' := [(0, .ref m0), (1, .int (nI k)), (2, .int (nI k2)), (3, .int (nI d)), (4, .int r1.2.2), (5, .int r2.2.2), (6, .int (jb false)), (7, .int (nI (x + 1)))]) 7 C dX5_isSame_107 rfl (nI_add x 1) (Nat.le_of_ble_eq_true rfl) rfl rfl ?_
          refine j_goto (tgt := 65) C dX5_isSame_110 (by decide) ?_
          exact ih_10 (x + 1, false) ⟨(by omega), (by rw [← hI1, if_pos (by assumption), if_pos (by assumption), show 4 - x = (4 - (x + 1)) + 1 by omega]; first | (rw [jEqV_t (by assumption), ‹bb = true›]) | (rw [jEqV_f (by assumption), Bool.false_and, Bool.and_false]) | (rw [‹bb = false›, Bool.false_and, Bool.false_and]))⟩ (show 4 - (x + 1) < 4 - x from by omega)
        · skip
          have c_14 : bb = true := jb_1 c_14
          refine j_aload_n 0 C dX5_isSame_82 rfl rfl ?_
          refine j_get (Cn := RX5) (T := TX5) (N := 11) 0 10 C dX5_isSame_83 hin_X5_isSame_X5 rfl rfl (by decide) (List.mem_of_getElem? (i := 4) rfl) rfl ?_
          refine j_iload 7 C dX5_isSame_86 rfl ?_
          refine j_laldN (x := x) 6 C dX5_isSame_88 rfl rfl (by omega) (by decide) ?_
          refine j_aload_n 0 C dX5_isSame_89 rfl rfl ?_
          refine j_get (Cn := RX5) (T := TX5) (N := 11) 0 7 C dX5_isSame_90 hin_X5_isSame_X5 rfl rfl (by decide) (List.mem_of_getElem? (i := 3) rfl) rfl ?_
          refine j_iload 7 C dX5_isSame_93 rfl ?_
          refine j_laldN (x := x) 4 C dX5_isSame_95 rfl rfl (by omega) (by decide) ?_
          refine j_lcmp_ne (tgt := 104) C dX5_isSame_96 dX5_isSame_97 (by decide) (fun c_15 => ?_) (fun c_15 => ?_)
          · skip
            refine j_iconst (v := 0) C dX5_isSame_104 rfl ?_
            refine j_eq (pc' := 105) (L' := [(0, .ref m0), (1, .int (nI k)), (2, .int (nI k2)), (3, .int (nI d)), (4, .int r1.2.2), (5, .int r2.2.2), (6, .int (jb bb)), (7, .int (nI x))]) (st' := [.int (jb false)]) (ws' := [(m0, .inr (4, [.int th, .int (nI N), .ref tb, .ref md, .ref rw0, .int sz, .ref cs, .ref va, .int r2.2.1, .ref rn, .ref kp])), (tb, jaR g 10 (fun i => some (tr i))), (tr k, jaI g 253 (jrw n f)), (tr k2, jaI g 253 (jrw n2 f2)), (va, jaL g 4 r2.1), (cs, jaL g 6 cf), (kp, jaL g 4 r1.1)]) ?_ rfl rfl rfl rfl
            refine j_istore (L' := [(0, .ref m0), (1, .int (nI k)), (2, .int (nI k2)), (3, .int (nI d)), (4, .int r1.2.2), (5, .int r2.2.2), (6, .int (jb false)), (7, .int (nI x))]) C dX5_isSame_105 (Nat.le_of_ble_eq_true rfl) rfl rfl ?_
            refine j_iinc (v := nI (x + 1)) (L' := [(0, .ref m0), (1, .int (nI k)), (2, .int (nI k2)), (3, .int (nI d)), (4, .int r1.2.2), (5, .int r2.2.2), (6, .int (jb false)), (7, .int (nI (x + 1)))]) 7 C dX5_isSame_107 rfl (nI_add x 1) (Nat.le_of_ble_eq_true rfl) rfl rfl ?_
            refine j_goto (tgt := 65) C dX5_isSame_110 (by decide) ?_
            exact ih_10 (x + 1, false) ⟨(by omega), (by rw [← hI1, if_pos (by assumption), if_pos (by assumption), show 4 - x = (4 - (x + 1)) + 1 by omega]; first | (rw [jEqV_t (by assumption), ‹bb = true›]) | (rw [jEqV_f (by assumption), Bool.false_and, Bool.and_false]) | (rw [‹bb = false›, Bool.false_and, Bool.false_and]))⟩ (show 4 - (x + 1) < 4 - x from by omega)
          · skip
            refine j_iconst (v := 1) C dX5_isSame_100 rfl ?_
            refine j_goto (tgt := 105) C dX5_isSame_101 (by decide) ?_
            refine j_eq (pc' := 105) (L' := [(0, .ref m0), (1, .int (nI k)), (2, .int (nI k2)), (3, .int (nI d)), (4, .int r1.2.2), (5, .int r2.2.2), (6, .int (jb bb)), (7, .int (nI x))]) (st' := [.int (jb true)]) (ws' := [(m0, .inr (4, [.int th, .int (nI N), .ref tb, .ref md, .ref rw0, .int sz, .ref cs, .ref va, .int r2.2.1, .ref rn, .ref kp])), (tb, jaR g 10 (fun i => some (tr i))), (tr k, jaI g 253 (jrw n f)), (tr k2, jaI g 253 (jrw n2 f2)), (va, jaL g 4 r2.1), (cs, jaL g 6 cf), (kp, jaL g 4 r1.1)]) ?_ rfl rfl rfl rfl
            refine j_istore (L' := [(0, .ref m0), (1, .int (nI k)), (2, .int (nI k2)), (3, .int (nI d)), (4, .int r1.2.2), (5, .int r2.2.2), (6, .int (jb true)), (7, .int (nI x))]) C dX5_isSame_105 (Nat.le_of_ble_eq_true rfl) rfl rfl ?_
            refine j_iinc (v := nI (x + 1)) (L' := [(0, .ref m0), (1, .int (nI k)), (2, .int (nI k2)), (3, .int (nI d)), (4, .int r1.2.2), (5, .int r2.2.2), (6, .int (jb true)), (7, .int (nI (x + 1)))]) 7 C dX5_isSame_107 rfl (nI_add x 1) (Nat.le_of_ble_eq_true rfl) rfl rfl ?_
            refine j_goto (tgt := 65) C dX5_isSame_110 (by decide) ?_
            exact ih_10 (x + 1, true) ⟨(by omega), (by rw [← hI1, if_pos (by assumption), if_pos (by assumption), show 4 - x = (4 - (x + 1)) + 1 by omega]; first | (rw [jEqV_t (by assumption), ‹bb = true›]) | (rw [jEqV_f (by assumption), Bool.false_and, Bool.and_false]) | (rw [‹bb = false›, Bool.false_and, Bool.false_and]))⟩ (show 4 - (x + 1) < 4 - x from by omega)
set_option maxHeartbeats 4000000 in
set_option maxRecDepth 100000 in
theorem c_X5_isSame_e (l : Launch) (g : jG) (m0 : Nat) (th : Int32) (N tb md rw0 : Nat) (sz : Int32) (cs va : Nat) (lk : Int32) (rn kp : Nat) (tr : Nat → Nat) (k n : Nat) (f : Nat → Int32) (vv cf kf : Nat → Int64) (d : Nat) (r1 : (Nat → Int64) × Int32 × Int32) (hk : k < 10) (hok : jOk n f) (hd : d ≤ 6) (h1 : jRn n f cf d = r1) : jWi l yX5_isSame wsX5_isSame ({ frames := 5, cells := 0, slots := 0, locals := 126 }) g [.ref m0, .int (nI k), .int (nI k), .int (nI d)] [(m0, .inr (4, [.int th, .int (nI N), .ref tb, .ref md, .ref rw0, .int sz, .ref cs, .ref va, .int lk, .ref rn, .ref kp])), (tb, jaR g 10 (fun i => some (tr i))), (tr k, jaI g 253 (jrw n f)), (va, jaL g 4 vv), (cs, jaL g 6 cf), (kp, jaL g 4 kf)] [(m0, .inr (4, [.int th, .int (nI N), .ref tb, .ref md, .ref rw0, .int sz, .ref cs, .ref va, .int r1.2.1, .ref rn, .ref kp])), (tb, jaR g 10 (fun i => some (tr i))), (tr k, jaI g 253 (jrw n f)), (va, jaL g 4 r1.1), (cs, jaL g 6 cf), (kp, jaL g 4 r1.1)] (jb (jAL r1.1 r1.2.2 r1.1 r1.2.2)) := by
  refine j_enterW (Qc := fun sz_ => va_Qi (fun r (_ : Unit) => r = jb (jAL r1.1 r1.2.2 r1.1 r1.2.2)) (fun _ t => va_P g.1 vwCl [(m0, .inr (4, [.int th, .int (nI N), .ref tb, .ref md, .ref rw0, .int sz, .ref cs, .ref va, .int r1.2.1, .ref rn, .ref kp])), (tb, jaR g 10 (fun i => some (tr i))), (tr k, jaI g 253 (jrw n f)), (va, jaL g 4 r1.1), (cs, jaL g 6 cf), (kp, jaL g 4 r1.1)] t.heap) (va_A [(m0, .inr (4, [.int th, .int (nI N), .ref tb, .ref md, .ref rw0, .int sz, .ref cs, .ref va, .int lk, .ref rn, .ref kp])), (tb, jaR g 10 (fun i => some (tr i))), (tr k, jaI g 253 (jrw n f)), (va, jaL g 4 vv), (cs, jaL g 6 cf), (kp, jaL g 4 kf)] sz_)) (cc := cX5_isSame) (maxL := 8) (ret := (some .boolean)) (own := RX5) (L := [(0, .ref m0), (1, .int (nI k)), (2, .int (nI k)), (3, .int (nI d))]) (by decide) rfl rfl (Nat.le_of_ble_eq_true rfl) rfl (fun p e s m args below meth c C hr => ?_)
  refine j_aload_n 0 C dX5_isSame_0 rfl rfl ?_
  refine j_aload_n 0 C dX5_isSame_1 rfl rfl ?_
  refine j_get (Cn := RX5) (T := TX5) (N := 11) 0 2 C dX5_isSame_2 hin_X5_isSame_X5 rfl rfl (by decide) (List.mem_of_getElem? (i := 1) rfl) rfl ?_
  refine j_iload_n 1 C dX5_isSame_5 rfl rfl ?_
  refine j_aldR (x := k) 1 C dX5_isSame_6 rfl rfl (by omega) (by decide) ?_
  refine j_eq (pc' := 7) (L' := [(0, .ref m0), (1, .int (nI k)), (2, .int (nI k)), (3, .int (nI d))]) (st' := [.ref (tr k), .ref m0]) (ws' := [(m0, .inr (4, [.int th, .int (nI N), .ref tb, .ref md, .ref rw0, .int sz, .ref cs, .ref va, .int lk, .ref rn, .ref kp])), (tb, jaR g 10 (fun i => some (tr i))), (tr k, jaI g 253 (jrw n f)), (va, jaL g 4 vv), (cs, jaL g 6 cf), (kp, jaL g 4 kf)]) ?_ rfl rfl rfl rfl
  refine j_aload_n 0 C dX5_isSame_7 rfl rfl ?_
  refine j_get (Cn := RX5) (T := TX5) (N := 11) 0 6 C dX5_isSame_8 hin_X5_isSame_X5 rfl rfl (by decide) (List.mem_of_getElem? (i := 2) rfl) rfl ?_
  refine j_iload_n 3 C dX5_isSame_11 rfl rfl ?_
  refine j_callWi [0, 3, 2, 4] (fun _ => [(m0, .inr (4, [.int th, .int (nI N), .ref tb, .ref md, .ref rw0, .int sz, .ref cs, .ref va, .int ((jRn n f cf d).2.1), .ref rn, .ref kp])), (tb, jaR g 10 (fun i => some (tr i))), (tr k, jaI g 253 (jrw n f)), (va, jaL g 4 ((jRn n f cf d).1)), (cs, jaL g 6 cf), (kp, jaL g 4 kf)]) C (j_runV (ci := 0) (As := [.ref (tr k), .ref cs, .int (nI d)]) (rest := []) [0, 3, 2, 4] C (c_X5_runOver l g m0 th (nI N) tb md rw0 sz cs va lk rn kp vv (tr k) n f cs d 6 cf (by omega) (by omega) (by omega)) gX5_isSame_X5_runOver rfl rfl rfl hd_X5_runOver ⟨Nat.le_of_ble_eq_true rfl, Nat.le_of_ble_eq_true rfl⟩ rfl rfl rfl rfl dX5_isSame_12 rfl (Nat.le_of_ble_eq_true rfl) ⟨Nat.le_of_ble_eq_true rfl, Nat.le_of_ble_eq_true rfl⟩) rfl (fun _ => rfl) (fun _ => rfl) (fun z _ hz => ?_)
  subst hz
  refine j_eq (pc' := 15) (L' := [(0, .ref m0), (1, .int (nI k)), (2, .int (nI k)), (3, .int (nI d))]) (st' := [.int r1.2.2]) (ws' := [(m0, .inr (4, [.int th, .int (nI N), .ref tb, .ref md, .ref rw0, .int sz, .ref cs, .ref va, .int r1.2.1, .ref rn, .ref kp])), (tb, jaR g 10 (fun i => some (tr i))), (tr k, jaI g 253 (jrw n f)), (va, jaL g 4 r1.1), (cs, jaL g 6 cf), (kp, jaL g 4 kf)]) ?_ rfl rfl (by simp only [h1]) (by simp only [h1])
  refine j_istore (L' := [(0, .ref m0), (1, .int (nI k)), (2, .int (nI k)), (3, .int (nI d)), (4, .int r1.2.2)]) C dX5_isSame_15 (Nat.le_of_ble_eq_true rfl) rfl rfl ?_
  refine j_aload_n 0 C dX5_isSame_17 rfl rfl ?_
  refine j_get (Cn := RX5) (T := TX5) (N := 11) 0 7 C dX5_isSame_18 hin_X5_isSame_X5 rfl rfl (by decide) (List.mem_of_getElem? (i := 3) rfl) rfl ?_
  refine j_iconst (v := 0) C dX5_isSame_21 rfl ?_
  refine j_aload_n 0 C dX5_isSame_22 rfl rfl ?_
  refine j_get (Cn := RX5) (T := TX5) (N := 11) 0 10 C dX5_isSame_23 hin_X5_isSame_X5 rfl rfl (by decide) (List.mem_of_getElem? (i := 4) rfl) rfl ?_
  refine j_iconst (v := 0) C dX5_isSame_26 rfl ?_
  refine j_iconst (v := 4) C dX5_isSame_27 rfl ?_
  refine j_copyL (sp := 0) (dp := 0) (n := 4) (rest := []) (ws' := [(m0, .inr (4, [.int th, .int (nI N), .ref tb, .ref md, .ref rw0, .int sz, .ref cs, .ref va, .int r1.2.1, .ref rn, .ref kp])), (tb, jaR g 10 (fun i => some (tr i))), (tr k, jaI g 253 (jrw n f)), (va, jaL g 4 r1.1), (cs, jaL g 6 cf), (kp, jaL g 4 (va_cpy r1.1 kf 0 0 4))]) 3 5 C dX5_isSame_28 (List.mem_of_getElem? (i := 5) rfl) (List.mem_of_getElem? (i := 6) rfl) (List.mem_of_getElem? (i := 7) rfl) (List.mem_of_getElem? (i := 8) rfl) rfl rfl rfl rfl rfl (by omega) (by omega) (by decide) (by decide) (Nat.le_of_ble_eq_true rfl) (Nat.le_of_ble_eq_true rfl) rfl ?_
  refine j_arrL (f' := r1.1) (ws' := [(m0, .inr (4, [.int th, .int (nI N), .ref tb, .ref md, .ref rw0, .int sz, .ref cs, .ref va, .int r1.2.1, .ref rn, .ref kp])), (tb, jaR g 10 (fun i => some (tr i))), (tr k, jaI g 253 (jrw n f)), (va, jaL g 4 r1.1), (cs, jaL g 6 cf), (kp, jaL g 4 r1.1)]) 5 rfl (fun i hi => jcp_all hi) rfl ?_
  refine j_aload_n 0 C dX5_isSame_31 rfl rfl ?_
  refine j_aload_n 0 C dX5_isSame_32 rfl rfl ?_
  refine j_get (Cn := RX5) (T := TX5) (N := 11) 0 2 C dX5_isSame_33 hin_X5_isSame_X5 rfl rfl (by decide) (List.mem_of_getElem? (i := 1) rfl) rfl ?_
  refine j_iload_n 2 C dX5_isSame_36 rfl rfl ?_
  refine j_aldR (x := k) 1 C dX5_isSame_37 rfl rfl (by omega) (by decide) ?_
  refine j_eq (pc' := 38) (L' := [(0, .ref m0), (1, .int (nI k)), (2, .int (nI k)), (3, .int (nI d)), (4, .int r1.2.2)]) (st' := [.ref (tr k), .ref m0]) (ws' := [(m0, .inr (4, [.int th, .int (nI N), .ref tb, .ref md, .ref rw0, .int sz, .ref cs, .ref va, .int r1.2.1, .ref rn, .ref kp])), (tb, jaR g 10 (fun i => some (tr i))), (tr k, jaI g 253 (jrw n f)), (va, jaL g 4 r1.1), (cs, jaL g 6 cf), (kp, jaL g 4 r1.1)]) ?_ rfl rfl rfl rfl
  refine j_aload_n 0 C dX5_isSame_38 rfl rfl ?_
  refine j_get (Cn := RX5) (T := TX5) (N := 11) 0 6 C dX5_isSame_39 hin_X5_isSame_X5 rfl rfl (by decide) (List.mem_of_getElem? (i := 2) rfl) rfl ?_
  refine j_iload_n 3 C dX5_isSame_42 rfl rfl ?_
  refine j_callWi [0, 3, 2, 4] (fun _ => [(m0, .inr (4, [.int th, .int (nI N), .ref tb, .ref md, .ref rw0, .int sz, .ref cs, .ref va, .int ((jRn n f cf d).2.1), .ref rn, .ref kp])), (tb, jaR g 10 (fun i => some (tr i))), (tr k, jaI g 253 (jrw n f)), (va, jaL g 4 ((jRn n f cf d).1)), (cs, jaL g 6 cf), (kp, jaL g 4 r1.1)]) C (j_runV (ci := 0) (As := [.ref (tr k), .ref cs, .int (nI d)]) (rest := []) [0, 3, 2, 4] C (c_X5_runOver l g m0 th (nI N) tb md rw0 sz cs va r1.2.1 rn kp r1.1 (tr k) n f cs d 6 cf (by omega) (by omega) (by omega)) gX5_isSame_X5_runOver rfl rfl rfl hd_X5_runOver ⟨Nat.le_of_ble_eq_true rfl, Nat.le_of_ble_eq_true rfl⟩ rfl rfl rfl rfl dX5_isSame_43 rfl (Nat.le_of_ble_eq_true rfl) ⟨Nat.le_of_ble_eq_true rfl, Nat.le_of_ble_eq_true rfl⟩) rfl (fun _ => rfl) (fun _ => rfl) (fun z _ hz => ?_)
  subst hz
  refine j_eq (pc' := 46) (L' := [(0, .ref m0), (1, .int (nI k)), (2, .int (nI k)), (3, .int (nI d)), (4, .int r1.2.2)]) (st' := [.int r1.2.2]) (ws' := [(m0, .inr (4, [.int th, .int (nI N), .ref tb, .ref md, .ref rw0, .int sz, .ref cs, .ref va, .int r1.2.1, .ref rn, .ref kp])), (tb, jaR g 10 (fun i => some (tr i))), (tr k, jaI g 253 (jrw n f)), (va, jaL g 4 r1.1), (cs, jaL g 6 cf), (kp, jaL g 4 r1.1)]) ?_ rfl rfl (by simp only [h1]) (by simp only [h1])
  refine j_istore (L' := [(0, .ref m0), (1, .int (nI k)), (2, .int (nI k)), (3, .int (nI d)), (4, .int r1.2.2), (5, .int r1.2.2)]) C dX5_isSame_46 (Nat.le_of_ble_eq_true rfl) rfl rfl ?_
  refine j_iload 4 C dX5_isSame_48 rfl ?_
  refine j_iload 5 C dX5_isSame_50 rfl ?_
  refine j_icmp_ne (tgt := 59) C dX5_isSame_52 (by decide) (fun c_3 => ?_) (fun c_3 => ?_)
  · skip
    refine j_iconst (v := 0) C dX5_isSame_59 rfl ?_
    refine j_eq (pc' := 60) (L' := [(0, .ref m0), (1, .int (nI k)), (2, .int (nI k)), (3, .int (nI d)), (4, .int r1.2.2), (5, .int r1.2.2)]) (st' := [.int (jb (decide (r1.2.2 = r1.2.2)))]) (ws' := [(m0, .inr (4, [.int th, .int (nI N), .ref tb, .ref md, .ref rw0, .int sz, .ref cs, .ref va, .int r1.2.1, .ref rn, .ref kp])), (tb, jaR g 10 (fun i => some (tr i))), (tr k, jaI g 253 (jrw n f)), (va, jaL g 4 r1.1), (cs, jaL g 6 cf), (kp, jaL g 4 r1.1)]) ?_ rfl rfl (by rw [decide_eq_false (by assumption)]; rfl) rfl
    refine j_istore (L' := [(0, .ref m0), (1, .int (nI k)), (2, .int (nI k)), (3, .int (nI d)), (4, .int r1.2.2), (5, .int r1.2.2), (6, .int (jb (decide (r1.2.2 = r1.2.2))))]) C dX5_isSame_60 (Nat.le_of_ble_eq_true rfl) rfl rfl ?_
    refine j_iconst (v := 0) C dX5_isSame_62 rfl ?_
    refine j_istore (L' := [(0, .ref m0), (1, .int (nI k)), (2, .int (nI k)), (3, .int (nI d)), (4, .int r1.2.2), (5, .int r1.2.2), (6, .int (jb (decide (r1.2.2 = r1.2.2)))), (7, .int 0)]) C dX5_isSame_63 (Nat.le_of_ble_eq_true rfl) rfl rfl ?_
    refine j_loop (σ := Nat × Bool) (fun (x9_ : Nat × Bool) => match x9_ with | (x, bb) => [(0, .ref m0), (1, .int (nI k)), (2, .int (nI k)), (3, .int (nI d)), (4, .int r1.2.2), (5, .int r1.2.2), (6, .int (jb bb)), (7, .int (nI x))]) (fun (x9_ : Nat × Bool) => match x9_ with | (x, bb) => [(m0, .inr (4, [.int th, .int (nI N), .ref tb, .ref md, .ref rw0, .int sz, .ref cs, .ref va, .int r1.2.1, .ref rn, .ref kp])), (tb, jaR g 10 (fun i => some (tr i))), (tr k, jaI g 253 (jrw n f)), (va, jaL g 4 r1.1), (cs, jaL g 6 cf), (kp, jaL g 4 r1.1)]) (fun (x9_ : Nat × Bool) => match x9_ with | (x, bb) => (x ≤ 4) ∧ ((if r1.2.2 = -1 then (bb && jEqV r1.1 r1.1 (4 - x) x) else bb) = jAL r1.1 r1.2.2 r1.1 r1.2.2)) (fun (x9_ : Nat × Bool) => match x9_ with | (x, bb) => 4 - x) (fun x_ hi_5 ih_4 => ?_) (0, decide (r1.2.2 = r1.2.2)) ⟨(by omega), (by rw [jAL]; by_cases h1 : r1.2.2 = r1.2.2; (rw [decide_eq_true h1, if_pos h1]; split; exact Bool.true_and _; rfl); (rw [decide_eq_false h1, if_neg h1]; split; exact Bool.false_and _; rfl))⟩ rfl rfl
    obtain ⟨x, bb⟩ := x_
    obtain ⟨hI0, hI1⟩ := (show (x ≤ 4) ∧ ((if r1.2.2 = -1 then (bb && jEqV r1.1 r1.1 (4 - x) x) else bb) = jAL r1.1 r1.2.2 r1.1 r1.2.2) from hi_5)
    refine j_eq (pc' := 65) (L' := [(0, .ref m0), (1, .int (nI k)), (2, .int (nI k)), (3, .int (nI d)), (4, .int r1.2.2), (5, .int r1.2.2), (6, .int (jb bb)), (7, .int (nI x))]) (st' := []) (ws' := [(m0, .inr (4, [.int th, .int (nI N), .ref tb, .ref md, .ref rw0, .int sz, .ref cs, .ref va, .int r1.2.1, .ref rn, .ref kp])), (tb, jaR g 10 (fun i => some (tr i))), (tr k, jaI g 253 (jrw n f)), (va, jaL g 4 r1.1), (cs, jaL g 6 cf), (kp, jaL g 4 r1.1)]) ?_ rfl rfl rfl rfl
    refine j_iload 7 C dX5_isSame_65 rfl ?_
    refine j_iconst (v := 4) C dX5_isSame_67 rfl ?_
    refine j_icmp_ge (tgt := 113) C dX5_isSame_68 (by decide) (fun c_6 => ?_) (fun c_6 => ?_)
    · skip
      have c_6 : 4 ≤ x := (nI_leI (a := 4) (b := x) (by omega) (by omega)).mp c_6
      refine j_iload 6 C dX5_isSame_113 rfl ?_
      exact j_zretW (v := jb bb) C hr dX5_isSame_115 (jb_n bb) () (by rw [← hI1]; first | (rw [if_neg (by assumption)]) | (rw [show 4 - x = 0 by omega]; split; exact congrArg jb (Bool.and_true _).symm; rfl)) rfl
    · skip
      have c_6 : ¬ 4 ≤ x := fun z => c_6 ((nI_leI (a := 4) (b := x) (by omega) (by omega)).mpr z)
      refine j_iload 4 C dX5_isSame_71 rfl ?_
      refine j_iconst (v := -1) C dX5_isSame_73 rfl ?_
      refine j_icmp_ne (tgt := 113) C dX5_isSame_74 (by decide) (fun c_7 => ?_) (fun c_7 => ?_)
      · skip
        refine j_iload 6 C dX5_isSame_113 rfl ?_
        exact j_zretW (v := jb bb) C hr dX5_isSame_115 (jb_n bb) () (by rw [← hI1]; first | (rw [if_neg (by assumption)]) | (rw [show 4 - x = 0 by omega]; split; exact congrArg jb (Bool.and_true _).symm; rfl)) rfl
      · skip
        refine j_iload 6 C dX5_isSame_77 rfl ?_
        refine j_if_eq (tgt := 104) C dX5_isSame_79 (by decide) (fun c_8 => ?_) (fun c_8 => ?_)
        · skip
          have c_8 : bb = false := jb_0 c_8
          refine j_iconst (v := 0) C dX5_isSame_104 rfl ?_
          refine j_eq (pc' := 105) (L' := [(0, .ref m0), (1, .int (nI k)), (2, .int (nI k)), (3, .int (nI d)), (4, .int r1.2.2), (5, .int r1.2.2), (6, .int (jb bb)), (7, .int (nI x))]) (st' := [.int (jb false)]) (ws' := [(m0, .inr (4, [.int th, .int (nI N), .ref tb, .ref md, .ref rw0, .int sz, .ref cs, .ref va, .int r1.2.1, .ref rn, .ref kp])), (tb, jaR g 10 (fun i => some (tr i))), (tr k, jaI g 253 (jrw n f)), (va, jaL g 4 r1.1), (cs, jaL g 6 cf), (kp, jaL g 4 r1.1)]) ?_ rfl rfl rfl rfl
          refine j_istore (L' := [(0, .ref m0), (1, .int (nI k)), (2, .int (nI k)), (3, .int (nI d)), (4, .int r1.2.2), (5, .int r1.2.2), (6, .int (jb false)), (7, .int (nI x))]) C dX5_isSame_105 (Nat.le_of_ble_eq_true rfl) rfl rfl ?_
          refine j_iinc (v := nI (x + 1)) (L' := [(0, .ref m0), (1, .int (nI k)), (2, .int (nI k)), (3, .int (nI d)), (4, .int r1.2.2), (5, .int r1.2.2), (6, .int (jb false)), (7, .int (nI (x + 1)))]) 7 C dX5_isSame_107 rfl (nI_add x 1) (Nat.le_of_ble_eq_true rfl) rfl rfl ?_
          refine j_goto (tgt := 65) C dX5_isSame_110 (by decide) ?_
          exact ih_4 (x + 1, false) ⟨(by omega), (by rw [← hI1, if_pos (by assumption), if_pos (by assumption), show 4 - x = (4 - (x + 1)) + 1 by omega]; first | (rw [jEqV_t (by assumption), ‹bb = true›]) | (rw [jEqV_f (by assumption), Bool.false_and, Bool.and_false]) | (rw [‹bb = false›, Bool.false_and, Bool.false_and]))⟩ (show 4 - (x + 1) < 4 - x from by omega)
        · skip
          have c_8 : bb = true := jb_1 c_8
          refine j_aload_n 0 C dX5_isSame_82 rfl rfl ?_
          refine j_get (Cn := RX5) (T := TX5) (N := 11) 0 10 C dX5_isSame_83 hin_X5_isSame_X5 rfl rfl (by decide) (List.mem_of_getElem? (i := 4) rfl) rfl ?_
          refine j_iload 7 C dX5_isSame_86 rfl ?_
          refine j_laldN (x := x) 5 C dX5_isSame_88 rfl rfl (by omega) (by decide) ?_
          refine j_aload_n 0 C dX5_isSame_89 rfl rfl ?_
          refine j_get (Cn := RX5) (T := TX5) (N := 11) 0 7 C dX5_isSame_90 hin_X5_isSame_X5 rfl rfl (by decide) (List.mem_of_getElem? (i := 3) rfl) rfl ?_
          refine j_iload 7 C dX5_isSame_93 rfl ?_
          refine j_laldN (x := x) 3 C dX5_isSame_95 rfl rfl (by omega) (by decide) ?_
          refine j_lcmp_ne (tgt := 104) C dX5_isSame_96 dX5_isSame_97 (by decide) (fun c_9 => ?_) (fun c_9 => ?_)
          · skip
            refine j_iconst (v := 0) C dX5_isSame_104 rfl ?_
            refine j_eq (pc' := 105) (L' := [(0, .ref m0), (1, .int (nI k)), (2, .int (nI k)), (3, .int (nI d)), (4, .int r1.2.2), (5, .int r1.2.2), (6, .int (jb bb)), (7, .int (nI x))]) (st' := [.int (jb false)]) (ws' := [(m0, .inr (4, [.int th, .int (nI N), .ref tb, .ref md, .ref rw0, .int sz, .ref cs, .ref va, .int r1.2.1, .ref rn, .ref kp])), (tb, jaR g 10 (fun i => some (tr i))), (tr k, jaI g 253 (jrw n f)), (va, jaL g 4 r1.1), (cs, jaL g 6 cf), (kp, jaL g 4 r1.1)]) ?_ rfl rfl rfl rfl
            refine j_istore (L' := [(0, .ref m0), (1, .int (nI k)), (2, .int (nI k)), (3, .int (nI d)), (4, .int r1.2.2), (5, .int r1.2.2), (6, .int (jb false)), (7, .int (nI x))]) C dX5_isSame_105 (Nat.le_of_ble_eq_true rfl) rfl rfl ?_
            refine j_iinc (v := nI (x + 1)) (L' := [(0, .ref m0), (1, .int (nI k)), (2, .int (nI k)), (3, .int (nI d)), (4, .int r1.2.2), (5, .int r1.2.2), (6, .int (jb false)), (7, .int (nI (x + 1)))]) 7 C dX5_isSame_107 rfl (nI_add x 1) (Nat.le_of_ble_eq_true rfl) rfl rfl ?_
            refine j_goto (tgt := 65) C dX5_isSame_110 (by decide) ?_
            exact ih_4 (x + 1, false) ⟨(by omega), (by rw [← hI1, if_pos (by assumption), if_pos (by assumption), show 4 - x = (4 - (x + 1)) + 1 by omega]; first | (rw [jEqV_t (by assumption), ‹bb = true›]) | (rw [jEqV_f (by assumption), Bool.false_and, Bool.and_false]) | (rw [‹bb = false›, Bool.false_and, Bool.false_and]))⟩ (show 4 - (x + 1) < 4 - x from by omega)
          · skip
            refine j_iconst (v := 1) C dX5_isSame_100 rfl ?_
            refine j_goto (tgt := 105) C dX5_isSame_101 (by decide) ?_
            refine j_eq (pc' := 105) (L' := [(0, .ref m0), (1, .int (nI k)), (2, .int (nI k)), (3, .int (nI d)), (4, .int r1.2.2), (5, .int r1.2.2), (6, .int (jb bb)), (7, .int (nI x))]) (st' := [.int (jb true)]) (ws' := [(m0, .inr (4, [.int th, .int (nI N), .ref tb, .ref md, .ref rw0, .int sz, .ref cs, .ref va, .int r1.2.1, .ref rn, .ref kp])), (tb, jaR g 10 (fun i => some (tr i))), (tr k, jaI g 253 (jrw n f)), (va, jaL g 4 r1.1), (cs, jaL g 6 cf), (kp, jaL g 4 r1.1)]) ?_ rfl rfl rfl rfl
            refine j_istore (L' := [(0, .ref m0), (1, .int (nI k)), (2, .int (nI k)), (3, .int (nI d)), (4, .int r1.2.2), (5, .int r1.2.2), (6, .int (jb true)), (7, .int (nI x))]) C dX5_isSame_105 (Nat.le_of_ble_eq_true rfl) rfl rfl ?_
            refine j_iinc (v := nI (x + 1)) (L' := [(0, .ref m0), (1, .int (nI k)), (2, .int (nI k)), (3, .int (nI d)), (4, .int r1.2.2), (5, .int r1.2.2), (6, .int (jb true)), (7, .int (nI (x + 1)))]) 7 C dX5_isSame_107 rfl (nI_add x 1) (Nat.le_of_ble_eq_true rfl) rfl rfl ?_
            refine j_goto (tgt := 65) C dX5_isSame_110 (by decide) ?_
            exact ih_4 (x + 1, true) ⟨(by omega), (by rw [← hI1, if_pos (by assumption), if_pos (by assumption), show 4 - x = (4 - (x + 1)) + 1 by omega]; first | (rw [jEqV_t (by assumption), ‹bb = true›]) | (rw [jEqV_f (by assumption), Bool.false_and, Bool.and_false]) | (rw [‹bb = false›, Bool.false_and, Bool.false_and]))⟩ (show 4 - (x + 1) < 4 - x from by omega)
  · skip
    refine j_iconst (v := 1) C dX5_isSame_55 rfl ?_
    refine j_goto (tgt := 60) C dX5_isSame_56 (by decide) ?_
    refine j_eq (pc' := 60) (L' := [(0, .ref m0), (1, .int (nI k)), (2, .int (nI k)), (3, .int (nI d)), (4, .int r1.2.2), (5, .int r1.2.2)]) (st' := [.int (jb (decide (r1.2.2 = r1.2.2)))]) (ws' := [(m0, .inr (4, [.int th, .int (nI N), .ref tb, .ref md, .ref rw0, .int sz, .ref cs, .ref va, .int r1.2.1, .ref rn, .ref kp])), (tb, jaR g 10 (fun i => some (tr i))), (tr k, jaI g 253 (jrw n f)), (va, jaL g 4 r1.1), (cs, jaL g 6 cf), (kp, jaL g 4 r1.1)]) ?_ rfl rfl (by rw [decide_eq_true (by assumption)]; rfl) rfl
    refine j_istore (L' := [(0, .ref m0), (1, .int (nI k)), (2, .int (nI k)), (3, .int (nI d)), (4, .int r1.2.2), (5, .int r1.2.2), (6, .int (jb (decide (r1.2.2 = r1.2.2))))]) C dX5_isSame_60 (Nat.le_of_ble_eq_true rfl) rfl rfl ?_
    refine j_iconst (v := 0) C dX5_isSame_62 rfl ?_
    refine j_istore (L' := [(0, .ref m0), (1, .int (nI k)), (2, .int (nI k)), (3, .int (nI d)), (4, .int r1.2.2), (5, .int r1.2.2), (6, .int (jb (decide (r1.2.2 = r1.2.2)))), (7, .int 0)]) C dX5_isSame_63 (Nat.le_of_ble_eq_true rfl) rfl rfl ?_
    refine j_loop (σ := Nat × Bool) (fun (x9_ : Nat × Bool) => match x9_ with | (x, bb) => [(0, .ref m0), (1, .int (nI k)), (2, .int (nI k)), (3, .int (nI d)), (4, .int r1.2.2), (5, .int r1.2.2), (6, .int (jb bb)), (7, .int (nI x))]) (fun (x9_ : Nat × Bool) => match x9_ with | (x, bb) => [(m0, .inr (4, [.int th, .int (nI N), .ref tb, .ref md, .ref rw0, .int sz, .ref cs, .ref va, .int r1.2.1, .ref rn, .ref kp])), (tb, jaR g 10 (fun i => some (tr i))), (tr k, jaI g 253 (jrw n f)), (va, jaL g 4 r1.1), (cs, jaL g 6 cf), (kp, jaL g 4 r1.1)]) (fun (x9_ : Nat × Bool) => match x9_ with | (x, bb) => (x ≤ 4) ∧ ((if r1.2.2 = -1 then (bb && jEqV r1.1 r1.1 (4 - x) x) else bb) = jAL r1.1 r1.2.2 r1.1 r1.2.2)) (fun (x9_ : Nat × Bool) => match x9_ with | (x, bb) => 4 - x) (fun x_ hi_11 ih_10 => ?_) (0, decide (r1.2.2 = r1.2.2)) ⟨(by omega), (by rw [jAL]; by_cases h1 : r1.2.2 = r1.2.2; (rw [decide_eq_true h1, if_pos h1]; split; exact Bool.true_and _; rfl); (rw [decide_eq_false h1, if_neg h1]; split; exact Bool.false_and _; rfl))⟩ rfl rfl
    obtain ⟨x, bb⟩ := x_
    obtain ⟨hI0, hI1⟩ := (show (x ≤ 4) ∧ ((if r1.2.2 = -1 then (bb && jEqV r1.1 r1.1 (4 - x) x) else bb) = jAL r1.1 r1.2.2 r1.1 r1.2.2) from hi_11)
    refine j_eq (pc' := 65) (L' := [(0, .ref m0), (1, .int (nI k)), (2, .int (nI k)), (3, .int (nI d)), (4, .int r1.2.2), (5, .int r1.2.2), (6, .int (jb bb)), (7, .int (nI x))]) (st' := []) (ws' := [(m0, .inr (4, [.int th, .int (nI N), .ref tb, .ref md, .ref rw0, .int sz, .ref cs, .ref va, .int r1.2.1, .ref rn, .ref kp])), (tb, jaR g 10 (fun i => some (tr i))), (tr k, jaI g 253 (jrw n f)), (va, jaL g 4 r1.1), (cs, jaL g 6 cf), (kp, jaL g 4 r1.1)]) ?_ rfl rfl rfl rfl
    refine j_iload 7 C dX5_isSame_65 rfl ?_
    refine j_iconst (v := 4) C dX5_isSame_67 rfl ?_
    refine j_icmp_ge (tgt := 113) C dX5_isSame_68 (by decide) (fun c_12 => ?_) (fun c_12 => ?_)
    · skip
      have c_12 : 4 ≤ x := (nI_leI (a := 4) (b := x) (by omega) (by omega)).mp c_12
      refine j_iload 6 C dX5_isSame_113 rfl ?_
      exact j_zretW (v := jb bb) C hr dX5_isSame_115 (jb_n bb) () (by rw [← hI1]; first | (rw [if_neg (by assumption)]) | (rw [show 4 - x = 0 by omega]; split; exact congrArg jb (Bool.and_true _).symm; rfl)) rfl
    · skip
      have c_12 : ¬ 4 ≤ x := fun z => c_12 ((nI_leI (a := 4) (b := x) (by omega) (by omega)).mpr z)
      refine j_iload 4 C dX5_isSame_71 rfl ?_
      refine j_iconst (v := -1) C dX5_isSame_73 rfl ?_
      refine j_icmp_ne (tgt := 113) C dX5_isSame_74 (by decide) (fun c_13 => ?_) (fun c_13 => ?_)
      · skip
        refine j_iload 6 C dX5_isSame_113 rfl ?_
        exact j_zretW (v := jb bb) C hr dX5_isSame_115 (jb_n bb) () (by rw [← hI1]; first | (rw [if_neg (by assumption)]) | (rw [show 4 - x = 0 by omega]; split; exact congrArg jb (Bool.and_true _).symm; rfl)) rfl
      · skip
        refine j_iload 6 C dX5_isSame_77 rfl ?_
        refine j_if_eq (tgt := 104) C dX5_isSame_79 (by decide) (fun c_14 => ?_) (fun c_14 => ?_)
        · skip
          have c_14 : bb = false := jb_0 c_14
          refine j_iconst (v := 0) C dX5_isSame_104 rfl ?_
          refine j_eq (pc' := 105) (L' := [(0, .ref m0), (1, .int (nI k)), (2, .int (nI k)), (3, .int (nI d)), (4, .int r1.2.2), (5, .int r1.2.2), (6, .int (jb bb)), (7, .int (nI x))]) (st' := [.int (jb false)]) (ws' := [(m0, .inr (4, [.int th, .int (nI N), .ref tb, .ref md, .ref rw0, .int sz, .ref cs, .ref va, .int r1.2.1, .ref rn, .ref kp])), (tb, jaR g 10 (fun i => some (tr i))), (tr k, jaI g 253 (jrw n f)), (va, jaL g 4 r1.1), (cs, jaL g 6 cf), (kp, jaL g 4 r1.1)]) ?_ rfl rfl rfl rfl
          refine j_istore (L' := [(0, .ref m0), (1, .int (nI k)), (2, .int (nI k)), (3, .int (nI d)), (4, .int r1.2.2), (5, .int r1.2.2), (6, .int (jb false)), (7, .int (nI x))]) C dX5_isSame_105 (Nat.le_of_ble_eq_true rfl) rfl rfl ?_
          refine j_iinc (v := nI (x + 1)) (L' := [(0, .ref m0), (1, .int (nI k)), (2, .int (nI k)), (3, .int (nI d)), (4, .int r1.2.2), (5, .int r1.2.2), (6, .int (jb false)), (7, .int (nI (x + 1)))]) 7 C dX5_isSame_107 rfl (nI_add x 1) (Nat.le_of_ble_eq_true rfl) rfl rfl ?_
          refine j_goto (tgt := 65) C dX5_isSame_110 (by decide) ?_
          exact ih_10 (x + 1, false) ⟨(by omega), (by rw [← hI1, if_pos (by assumption), if_pos (by assumption), show 4 - x = (4 - (x + 1)) + 1 by omega]; first | (rw [jEqV_t (by assumption), ‹bb = true›]) | (rw [jEqV_f (by assumption), Bool.false_and, Bool.and_false]) | (rw [‹bb = false›, Bool.false_and, Bool.false_and]))⟩ (show 4 - (x + 1) < 4 - x from by omega)
        · skip
          have c_14 : bb = true := jb_1 c_14
          refine j_aload_n 0 C dX5_isSame_82 rfl rfl ?_
          refine j_get (Cn := RX5) (T := TX5) (N := 11) 0 10 C dX5_isSame_83 hin_X5_isSame_X5 rfl rfl (by decide) (List.mem_of_getElem? (i := 4) rfl) rfl ?_
          refine j_iload 7 C dX5_isSame_86 rfl ?_
          refine j_laldN (x := x) 5 C dX5_isSame_88 rfl rfl (by omega) (by decide) ?_
          refine j_aload_n 0 C dX5_isSame_89 rfl rfl ?_
          refine j_get (Cn := RX5) (T := TX5) (N := 11) 0 7 C dX5_isSame_90 hin_X5_isSame_X5 rfl rfl (by decide) (List.mem_of_getElem? (i := 3) rfl) rfl ?_
          refine j_iload 7 C dX5_isSame_93 rfl ?_
          refine j_laldN (x := x) 3 C dX5_isSame_95 rfl rfl (by omega) (by decide) ?_
          refine j_lcmp_ne (tgt := 104) C dX5_isSame_96 dX5_isSame_97 (by decide) (fun c_15 => ?_) (fun c_15 => ?_)
          · skip
            refine j_iconst (v := 0) C dX5_isSame_104 rfl ?_
            refine j_eq (pc' := 105) (L' := [(0, .ref m0), (1, .int (nI k)), (2, .int (nI k)), (3, .int (nI d)), (4, .int r1.2.2), (5, .int r1.2.2), (6, .int (jb bb)), (7, .int (nI x))]) (st' := [.int (jb false)]) (ws' := [(m0, .inr (4, [.int th, .int (nI N), .ref tb, .ref md, .ref rw0, .int sz, .ref cs, .ref va, .int r1.2.1, .ref rn, .ref kp])), (tb, jaR g 10 (fun i => some (tr i))), (tr k, jaI g 253 (jrw n f)), (va, jaL g 4 r1.1), (cs, jaL g 6 cf), (kp, jaL g 4 r1.1)]) ?_ rfl rfl rfl rfl
            refine j_istore (L' := [(0, .ref m0), (1, .int (nI k)), (2, .int (nI k)), (3, .int (nI d)), (4, .int r1.2.2), (5, .int r1.2.2), (6, .int (jb false)), (7, .int (nI x))]) C dX5_isSame_105 (Nat.le_of_ble_eq_true rfl) rfl rfl ?_
            refine j_iinc (v := nI (x + 1)) (L' := [(0, .ref m0), (1, .int (nI k)), (2, .int (nI k)), (3, .int (nI d)), (4, .int r1.2.2), (5, .int r1.2.2), (6, .int (jb false)), (7, .int (nI (x + 1)))]) 7 C dX5_isSame_107 rfl (nI_add x 1) (Nat.le_of_ble_eq_true rfl) rfl rfl ?_
            refine j_goto (tgt := 65) C dX5_isSame_110 (by decide) ?_
            exact ih_10 (x + 1, false) ⟨(by omega), (by rw [← hI1, if_pos (by assumption), if_pos (by assumption), show 4 - x = (4 - (x + 1)) + 1 by omega]; first | (rw [jEqV_t (by assumption), ‹bb = true›]) | (rw [jEqV_f (by assumption), Bool.false_and, Bool.and_false]) | (rw [‹bb = false›, Bool.false_and, Bool.false_and]))⟩ (show 4 - (x + 1) < 4 - x from by omega)
          · skip
            refine j_iconst (v := 1) C dX5_isSame_100 rfl ?_
            refine j_goto (tgt := 105) C dX5_isSame_101 (by decide) ?_
            refine j_eq (pc' := 105) (L' := [(0, .ref m0), (1, .int (nI k)), (2, .int (nI k)), (3, .int (nI d)), (4, .int r1.2.2), (5, .int r1.2.2), (6, .int (jb bb)), (7, .int (nI x))]) (st' := [.int (jb true)]) (ws' := [(m0, .inr (4, [.int th, .int (nI N), .ref tb, .ref md, .ref rw0, .int sz, .ref cs, .ref va, .int r1.2.1, .ref rn, .ref kp])), (tb, jaR g 10 (fun i => some (tr i))), (tr k, jaI g 253 (jrw n f)), (va, jaL g 4 r1.1), (cs, jaL g 6 cf), (kp, jaL g 4 r1.1)]) ?_ rfl rfl rfl rfl
            refine j_istore (L' := [(0, .ref m0), (1, .int (nI k)), (2, .int (nI k)), (3, .int (nI d)), (4, .int r1.2.2), (5, .int r1.2.2), (6, .int (jb true)), (7, .int (nI x))]) C dX5_isSame_105 (Nat.le_of_ble_eq_true rfl) rfl rfl ?_
            refine j_iinc (v := nI (x + 1)) (L' := [(0, .ref m0), (1, .int (nI k)), (2, .int (nI k)), (3, .int (nI d)), (4, .int r1.2.2), (5, .int r1.2.2), (6, .int (jb true)), (7, .int (nI (x + 1)))]) 7 C dX5_isSame_107 rfl (nI_add x 1) (Nat.le_of_ble_eq_true rfl) rfl rfl ?_
            refine j_goto (tgt := 65) C dX5_isSame_110 (by decide) ?_
            exact ih_10 (x + 1, true) ⟨(by omega), (by rw [← hI1, if_pos (by assumption), if_pos (by assumption), show 4 - x = (4 - (x + 1)) + 1 by omega]; first | (rw [jEqV_t (by assumption), ‹bb = true›]) | (rw [jEqV_f (by assumption), Bool.false_and, Bool.and_false]) | (rw [‹bb = false›, Bool.false_and, Bool.false_and]))⟩ (show 4 - (x + 1) < 4 - x from by omega)
set_option maxHeartbeats 4000000 in
set_option maxRecDepth 100000 in
theorem c_X5_whyCases_n (l : Launch) (g : jG) (m0 : Nat) (a b : Int32)  : jRi l yX5_whyCases wsX5_whyCases ({ frames := 4, cells := 0, slots := 0, locals := 200 }) g [.ref m0, .int (jb false), .int a, .int b] [] 1 := by
  refine j_enterR (cc := cX5_whyCases) (maxL := 4) (ret := (some .int)) (own := RX5) (L := [(0, .ref m0), (1, .int (jb false)), (2, .int a), (3, .int b)]) (by decide) rfl rfl (Nat.le_of_ble_eq_true rfl) rfl (fun p e s m args below meth c C hr => ?_)
  refine j_iload_n 1 C dX5_whyCases_0 rfl rfl ?_
  refine j_if_ne (tgt := 8) C dX5_whyCases_1 (by decide) (fun c_1 => ?_) (fun c_1 => ?_)
  · skip
    have c_1 : false = true := jb_1 c_1
    (first | exact absurd c_1 (by decide) | exact absurd c_1 (by omega) | simp_all)
  · skip
    have c_1 : false = false := jb_0 c_1
    refine j_iconst (v := 1) C dX5_whyCases_4 rfl ?_
    refine j_goto (tgt := 21) C dX5_whyCases_5 (by decide) ?_
    exact j_iretR (v := 1) C hr dX5_whyCases_21 rfl
set_option maxHeartbeats 4000000 in
set_option maxRecDepth 100000 in
theorem c_X5_whyCases_1 (l : Launch) (g : jG) (m0 : Nat) (a b : Int32) (h1 : jBt a 0 6 = false) : jRi l yX5_whyCases wsX5_whyCases ({ frames := 4, cells := 0, slots := 0, locals := 200 }) g [.ref m0, .int (jb true), .int a, .int b] [] 2 := by
  refine j_enterR (cc := cX5_whyCases) (maxL := 4) (ret := (some .int)) (own := RX5) (L := [(0, .ref m0), (1, .int (jb true)), (2, .int a), (3, .int b)]) (by decide) rfl rfl (Nat.le_of_ble_eq_true rfl) rfl (fun p e s m args below meth c C hr => ?_)
  refine j_iload_n 1 C dX5_whyCases_0 rfl rfl ?_
  refine j_if_ne (tgt := 8) C dX5_whyCases_1 (by decide) (fun c_1 => ?_) (fun c_1 => ?_)
  · skip
    have c_1 : true = true := jb_1 c_1
    refine j_iload_n 2 C dX5_whyCases_8 rfl rfl ?_
    refine j_iload_n 3 C dX5_whyCases_9 rfl rfl ?_
    refine j_callRi (v := jb false) (j_runS (As := [.int a, .int b]) (rest := []) [] C (c_X5_areCases_1 l g a b (by omega)) gX5_whyCases_X5_areCases rfl rfl rfl hd_X5_areCases ⟨Nat.le_of_ble_eq_true rfl, Nat.le_of_ble_eq_true rfl⟩ rfl rfl dX5_whyCases_10 rfl (Nat.le_of_ble_eq_true rfl) ⟨Nat.le_of_ble_eq_true rfl, Nat.le_of_ble_eq_true rfl⟩) ?_
    refine j_if_eq (tgt := 20) C dX5_whyCases_13 (by decide) (fun c_2 => ?_) (fun c_2 => ?_)
    · skip
      have c_2 : false = false := jb_0 c_2
      refine j_iconst (v := 2) C dX5_whyCases_20 rfl ?_
      exact j_iretR (v := 2) C hr dX5_whyCases_21 rfl
    · skip
      have c_2 : false = true := jb_1 c_2
      (first | exact absurd c_2 (by decide) | exact absurd c_2 (by omega) | simp_all)
  · skip
    have c_1 : true = false := jb_0 c_1
    (first | exact absurd c_1 (by decide) | exact absurd c_1 (by omega) | simp_all)
set_option maxHeartbeats 4000000 in
set_option maxRecDepth 100000 in
theorem c_X5_whyCases_2 (l : Launch) (g : jG) (m0 : Nat) (a b : Int32) (h2 : jBt b 1 4 = false) : jRi l yX5_whyCases wsX5_whyCases ({ frames := 4, cells := 0, slots := 0, locals := 200 }) g [.ref m0, .int (jb true), .int a, .int b] [] 2 := by
  refine j_enterR (cc := cX5_whyCases) (maxL := 4) (ret := (some .int)) (own := RX5) (L := [(0, .ref m0), (1, .int (jb true)), (2, .int a), (3, .int b)]) (by decide) rfl rfl (Nat.le_of_ble_eq_true rfl) rfl (fun p e s m args below meth c C hr => ?_)
  refine j_iload_n 1 C dX5_whyCases_0 rfl rfl ?_
  refine j_if_ne (tgt := 8) C dX5_whyCases_1 (by decide) (fun c_1 => ?_) (fun c_1 => ?_)
  · skip
    have c_1 : true = true := jb_1 c_1
    refine j_iload_n 2 C dX5_whyCases_8 rfl rfl ?_
    refine j_iload_n 3 C dX5_whyCases_9 rfl rfl ?_
    refine j_callRi (v := jb false) (j_runS (As := [.int a, .int b]) (rest := []) [] C (c_X5_areCases_2 l g a b (by omega)) gX5_whyCases_X5_areCases rfl rfl rfl hd_X5_areCases ⟨Nat.le_of_ble_eq_true rfl, Nat.le_of_ble_eq_true rfl⟩ rfl rfl dX5_whyCases_10 rfl (Nat.le_of_ble_eq_true rfl) ⟨Nat.le_of_ble_eq_true rfl, Nat.le_of_ble_eq_true rfl⟩) ?_
    refine j_if_eq (tgt := 20) C dX5_whyCases_13 (by decide) (fun c_2 => ?_) (fun c_2 => ?_)
    · skip
      have c_2 : false = false := jb_0 c_2
      refine j_iconst (v := 2) C dX5_whyCases_20 rfl ?_
      exact j_iretR (v := 2) C hr dX5_whyCases_21 rfl
    · skip
      have c_2 : false = true := jb_1 c_2
      (first | exact absurd c_2 (by decide) | exact absurd c_2 (by omega) | simp_all)
  · skip
    have c_1 : true = false := jb_0 c_1
    (first | exact absurd c_1 (by decide) | exact absurd c_1 (by omega) | simp_all)
set_option maxHeartbeats 4000000 in
set_option maxRecDepth 100000 in
theorem c_X5_whyCases_3 (l : Launch) (g : jG) (m0 : Nat)  : jRi l yX5_whyCases wsX5_whyCases ({ frames := 4, cells := 0, slots := 0, locals := 200 }) g [.ref m0, .int (jb true), .int 6, .int 4] [] 2 := by
  refine j_enterR (cc := cX5_whyCases) (maxL := 4) (ret := (some .int)) (own := RX5) (L := [(0, .ref m0), (1, .int (jb true)), (2, .int 6), (3, .int 4)]) (by decide) rfl rfl (Nat.le_of_ble_eq_true rfl) rfl (fun p e s m args below meth c C hr => ?_)
  refine j_iload_n 1 C dX5_whyCases_0 rfl rfl ?_
  refine j_if_ne (tgt := 8) C dX5_whyCases_1 (by decide) (fun c_1 => ?_) (fun c_1 => ?_)
  · skip
    have c_1 : true = true := jb_1 c_1
    refine j_iload_n 2 C dX5_whyCases_8 rfl rfl ?_
    refine j_iload_n 3 C dX5_whyCases_9 rfl rfl ?_
    refine j_callRi (v := jb false) (j_runS (As := [.int 6, .int 4]) (rest := []) [] C (c_X5_areCases_3 l g ) gX5_whyCases_X5_areCases rfl rfl rfl hd_X5_areCases ⟨Nat.le_of_ble_eq_true rfl, Nat.le_of_ble_eq_true rfl⟩ rfl rfl dX5_whyCases_10 rfl (Nat.le_of_ble_eq_true rfl) ⟨Nat.le_of_ble_eq_true rfl, Nat.le_of_ble_eq_true rfl⟩) ?_
    refine j_if_eq (tgt := 20) C dX5_whyCases_13 (by decide) (fun c_2 => ?_) (fun c_2 => ?_)
    · skip
      have c_2 : false = false := jb_0 c_2
      refine j_iconst (v := 2) C dX5_whyCases_20 rfl ?_
      exact j_iretR (v := 2) C hr dX5_whyCases_21 rfl
    · skip
      have c_2 : false = true := jb_1 c_2
      (first | exact absurd c_2 (by decide) | exact absurd c_2 (by omega) | simp_all)
  · skip
    have c_1 : true = false := jb_0 c_1
    (first | exact absurd c_1 (by decide) | exact absurd c_1 (by omega) | simp_all)
set_option maxHeartbeats 4000000 in
set_option maxRecDepth 100000 in
theorem c_X5_whyCases (l : Launch) (g : jG) (m0 d v : Nat) (hd : d ≤ 6) (hv : v ≤ 4) (hv1 : 1 ≤ v) (hp : v ^ d ≤ 1024) : jRi l yX5_whyCases wsX5_whyCases ({ frames := 4, cells := 0, slots := 0, locals := 200 }) g [.ref m0, .int (jb true), .int (nI d), .int (nI v)] [] 0 := by
  refine j_enterR (cc := cX5_whyCases) (maxL := 4) (ret := (some .int)) (own := RX5) (L := [(0, .ref m0), (1, .int (jb true)), (2, .int (nI d)), (3, .int (nI v))]) (by decide) rfl rfl (Nat.le_of_ble_eq_true rfl) rfl (fun p e s m args below meth c C hr => ?_)
  refine j_iload_n 1 C dX5_whyCases_0 rfl rfl ?_
  refine j_if_ne (tgt := 8) C dX5_whyCases_1 (by decide) (fun c_1 => ?_) (fun c_1 => ?_)
  · skip
    have c_1 : true = true := jb_1 c_1
    refine j_iload_n 2 C dX5_whyCases_8 rfl rfl ?_
    refine j_iload_n 3 C dX5_whyCases_9 rfl rfl ?_
    refine j_callRi (v := jb true) (j_runS (As := [.int (nI d), .int (nI v)]) (rest := []) [] C (c_X5_areCases l g d v (by omega) (by omega) (by omega) (by omega)) gX5_whyCases_X5_areCases rfl rfl rfl hd_X5_areCases ⟨Nat.le_of_ble_eq_true rfl, Nat.le_of_ble_eq_true rfl⟩ rfl rfl dX5_whyCases_10 rfl (Nat.le_of_ble_eq_true rfl) ⟨Nat.le_of_ble_eq_true rfl, Nat.le_of_ble_eq_true rfl⟩) ?_
    refine j_if_eq (tgt := 20) C dX5_whyCases_13 (by decide) (fun c_2 => ?_) (fun c_2 => ?_)
    · skip
      have c_2 : true = false := jb_0 c_2
      (first | exact absurd c_2 (by decide) | exact absurd c_2 (by omega) | simp_all)
    · skip
      have c_2 : true = true := jb_1 c_2
      refine j_iconst (v := 0) C dX5_whyCases_16 rfl ?_
      refine j_goto (tgt := 21) C dX5_whyCases_17 (by decide) ?_
      exact j_iretR (v := 0) C hr dX5_whyCases_21 rfl
  · skip
    have c_1 : true = false := jb_0 c_1
    (first | exact absurd c_1 (by decide) | exact absurd c_1 (by omega) | simp_all)
set_option maxHeartbeats 4000000 in
set_option maxRecDepth 100000 in
theorem c_X5_differ_p (l : Launch) (g : jG) (m0 : Nat) (th : Int32) (N tb md rw0 : Nat) (sz : Int32) (cs va : Nat) (lk : Int32) (rn kp : Nat) (x y a b : Int32) (hx : jBt x 0 (nI N - 1) = false) : jWi l yX5_differ wsX5_differ ({ frames := 5, cells := 0, slots := 0, locals := 223 }) g [.ref m0, .int x, .int y, .int a, .int b] [(m0, .inr (4, [.int th, .int (nI N), .ref tb, .ref md, .ref rw0, .int sz, .ref cs, .ref va, .int lk, .ref rn, .ref kp]))] [(m0, .inr (4, [.int 1, .int (nI N), .ref tb, .ref md, .ref rw0, .int sz, .ref cs, .ref va, .int lk, .ref rn, .ref kp]))] 0 := by
  refine j_enterW (Qc := fun sz_ => va_Qi (fun r (_ : Unit) => r = 0) (fun _ t => va_P g.1 vwCl [(m0, .inr (4, [.int 1, .int (nI N), .ref tb, .ref md, .ref rw0, .int sz, .ref cs, .ref va, .int lk, .ref rn, .ref kp]))] t.heap) (va_A [(m0, .inr (4, [.int th, .int (nI N), .ref tb, .ref md, .ref rw0, .int sz, .ref cs, .ref va, .int lk, .ref rn, .ref kp]))] sz_)) (cc := cX5_differ) (maxL := 7) (ret := (some .int)) (own := RX5) (L := [(0, .ref m0), (1, .int x), (2, .int y), (3, .int a), (4, .int b)]) (by decide) rfl rfl (Nat.le_of_ble_eq_true rfl) rfl (fun p e s m args below meth c C hr => ?_)
  refine j_aload_n 0 C dX5_differ_0 rfl rfl ?_
  refine j_aload_n 0 C dX5_differ_1 rfl rfl ?_
  refine j_aload_n 0 C dX5_differ_2 rfl rfl ?_
  refine j_iload_n 1 C dX5_differ_3 rfl rfl ?_
  refine j_callRi (v := jb (jBt x 0 ((nI N) - 1))) (j_runV (ci := 0) (As := [.int x]) (rest := [.ref m0, .ref m0]) [0] C (c_X5_isProgram l g m0 th (nI N) tb md rw0 sz cs va lk rn kp x) gX5_differ_X5_isProgram rfl rfl rfl hd_X5_isProgram ⟨Nat.le_of_ble_eq_true rfl, Nat.le_of_ble_eq_true rfl⟩ rfl rfl rfl rfl dX5_differ_4 rfl (Nat.le_of_ble_eq_true rfl) ⟨Nat.le_of_ble_eq_true rfl, Nat.le_of_ble_eq_true rfl⟩) ?_
  refine j_eq (pc' := 7) (L' := [(0, .ref m0), (1, .int x), (2, .int y), (3, .int a), (4, .int b)]) (st' := [.int (jb false), .ref m0, .ref m0]) (ws' := [(m0, .inr (4, [.int th, .int (nI N), .ref tb, .ref md, .ref rw0, .int sz, .ref cs, .ref va, .int lk, .ref rn, .ref kp]))]) ?_ rfl rfl (by rw [hx]) rfl
  refine j_if_eq (tgt := 22) C dX5_differ_7 (by decide) (fun c_1 => ?_) (fun c_1 => ?_)
  · skip
    have c_1 : false = false := jb_0 c_1
    refine j_iconst (v := 0) C dX5_differ_22 rfl ?_
    refine j_iload_n 3 C dX5_differ_23 rfl rfl ?_
    refine j_iload 4 C dX5_differ_24 rfl ?_
    refine j_callRi (v := 1) (j_runV (ci := 0) (As := [.int 0, .int a, .int b]) (rest := [.ref m0]) [] C (c_X5_whyCases_n l g m0 a b) gX5_differ_X5_whyCases rfl rfl rfl hd_X5_whyCases ⟨Nat.le_of_ble_eq_true rfl, Nat.le_of_ble_eq_true rfl⟩ rfl rfl rfl rfl dX5_differ_26 rfl (Nat.le_of_ble_eq_true rfl) ⟨Nat.le_of_ble_eq_true rfl, Nat.le_of_ble_eq_true rfl⟩) ?_
    refine j_put (Cn := RX5) (T := TX5) (N := 11) (ws' := [(m0, .inr (4, [.int 1, .int (nI N), .ref tb, .ref md, .ref rw0, .int sz, .ref cs, .ref va, .int lk, .ref rn, .ref kp]))]) tyX5 0 0 C dX5_differ_29 hin_X5_differ_X5 tyX5_ok nmX5 rfl rfl (by decide) (List.mem_of_getElem? (i := 1) rfl) rfl (tyX5_ok 0 (by decide)) rfl rfl (Nat.le_of_ble_eq_true rfl) rfl ?_
    refine j_aload_n 0 C dX5_differ_32 rfl rfl ?_
    refine j_get (Cn := RX5) (T := TX5) (N := 11) 0 0 C dX5_differ_33 hin_X5_differ_X5 rfl rfl (by decide) (List.mem_of_getElem? (i := 1) rfl) rfl ?_
    refine j_if_eq (tgt := 41) C dX5_differ_36 (by decide) (fun c_2 => ?_) (fun c_2 => ?_)
    · skip
      exact absurd c_2 (by decide)
    · skip
      refine j_iconst (v := 0) C dX5_differ_39 rfl ?_
      exact j_iretW (v := 0) C hr dX5_differ_40 () rfl rfl
  · skip
    have c_1 : false = true := jb_1 c_1
    (first | exact absurd c_1 (by decide) | exact absurd c_1 (by omega) | simp_all)
set_option maxHeartbeats 4000000 in
set_option maxRecDepth 100000 in
theorem c_X5_differ_q (l : Launch) (g : jG) (m0 : Nat) (th : Int32) (N tb md rw0 : Nat) (sz : Int32) (cs va : Nat) (lk : Int32) (rn kp : Nat) (k : Nat) (y a b : Int32) (hk : k < N) (hN : N ≤ 10) (hy : jBt y 0 (nI N - 1) = false) : jWi l yX5_differ wsX5_differ ({ frames := 5, cells := 0, slots := 0, locals := 223 }) g [.ref m0, .int (nI k), .int y, .int a, .int b] [(m0, .inr (4, [.int th, .int (nI N), .ref tb, .ref md, .ref rw0, .int sz, .ref cs, .ref va, .int lk, .ref rn, .ref kp]))] [(m0, .inr (4, [.int 1, .int (nI N), .ref tb, .ref md, .ref rw0, .int sz, .ref cs, .ref va, .int lk, .ref rn, .ref kp]))] 0 := by
  refine j_enterW (Qc := fun sz_ => va_Qi (fun r (_ : Unit) => r = 0) (fun _ t => va_P g.1 vwCl [(m0, .inr (4, [.int 1, .int (nI N), .ref tb, .ref md, .ref rw0, .int sz, .ref cs, .ref va, .int lk, .ref rn, .ref kp]))] t.heap) (va_A [(m0, .inr (4, [.int th, .int (nI N), .ref tb, .ref md, .ref rw0, .int sz, .ref cs, .ref va, .int lk, .ref rn, .ref kp]))] sz_)) (cc := cX5_differ) (maxL := 7) (ret := (some .int)) (own := RX5) (L := [(0, .ref m0), (1, .int (nI k)), (2, .int y), (3, .int a), (4, .int b)]) (by decide) rfl rfl (Nat.le_of_ble_eq_true rfl) rfl (fun p e s m args below meth c C hr => ?_)
  refine j_aload_n 0 C dX5_differ_0 rfl rfl ?_
  refine j_aload_n 0 C dX5_differ_1 rfl rfl ?_
  refine j_aload_n 0 C dX5_differ_2 rfl rfl ?_
  refine j_iload_n 1 C dX5_differ_3 rfl rfl ?_
  refine j_callRi (v := jb (jBt (nI k) 0 ((nI N) - 1))) (j_runV (ci := 0) (As := [.int (nI k)]) (rest := [.ref m0, .ref m0]) [0] C (c_X5_isProgram l g m0 th (nI N) tb md rw0 sz cs va lk rn kp (nI k)) gX5_differ_X5_isProgram rfl rfl rfl hd_X5_isProgram ⟨Nat.le_of_ble_eq_true rfl, Nat.le_of_ble_eq_true rfl⟩ rfl rfl rfl rfl dX5_differ_4 rfl (Nat.le_of_ble_eq_true rfl) ⟨Nat.le_of_ble_eq_true rfl, Nat.le_of_ble_eq_true rfl⟩) ?_
  refine j_eq (pc' := 7) (L' := [(0, .ref m0), (1, .int (nI k)), (2, .int y), (3, .int a), (4, .int b)]) (st' := [.int (jb true), .ref m0, .ref m0]) (ws' := [(m0, .inr (4, [.int th, .int (nI N), .ref tb, .ref md, .ref rw0, .int sz, .ref cs, .ref va, .int lk, .ref rn, .ref kp]))]) ?_ rfl rfl (by rw [jBt_n hk (by omega)]) rfl
  refine j_if_eq (tgt := 22) C dX5_differ_7 (by decide) (fun c_1 => ?_) (fun c_1 => ?_)
  · skip
    have c_1 : true = false := jb_0 c_1
    (first | exact absurd c_1 (by decide) | exact absurd c_1 (by omega) | simp_all)
  · skip
    have c_1 : true = true := jb_1 c_1
    refine j_aload_n 0 C dX5_differ_10 rfl rfl ?_
    refine j_iload_n 2 C dX5_differ_11 rfl rfl ?_
    refine j_callRi (v := jb (jBt y 0 ((nI N) - 1))) (j_runV (ci := 0) (As := [.int y]) (rest := [.ref m0, .ref m0]) [0] C (c_X5_isProgram l g m0 th (nI N) tb md rw0 sz cs va lk rn kp y) gX5_differ_X5_isProgram rfl rfl rfl hd_X5_isProgram ⟨Nat.le_of_ble_eq_true rfl, Nat.le_of_ble_eq_true rfl⟩ rfl rfl rfl rfl dX5_differ_12 rfl (Nat.le_of_ble_eq_true rfl) ⟨Nat.le_of_ble_eq_true rfl, Nat.le_of_ble_eq_true rfl⟩) ?_
    refine j_eq (pc' := 15) (L' := [(0, .ref m0), (1, .int (nI k)), (2, .int y), (3, .int a), (4, .int b)]) (st' := [.int (jb false), .ref m0, .ref m0]) (ws' := [(m0, .inr (4, [.int th, .int (nI N), .ref tb, .ref md, .ref rw0, .int sz, .ref cs, .ref va, .int lk, .ref rn, .ref kp]))]) ?_ rfl rfl (by rw [hy]) rfl
    refine j_if_eq (tgt := 22) C dX5_differ_15 (by decide) (fun c_2 => ?_) (fun c_2 => ?_)
    · skip
      have c_2 : false = false := jb_0 c_2
      refine j_iconst (v := 0) C dX5_differ_22 rfl ?_
      refine j_iload_n 3 C dX5_differ_23 rfl rfl ?_
      refine j_iload 4 C dX5_differ_24 rfl ?_
      refine j_callRi (v := 1) (j_runV (ci := 0) (As := [.int 0, .int a, .int b]) (rest := [.ref m0]) [] C (c_X5_whyCases_n l g m0 a b) gX5_differ_X5_whyCases rfl rfl rfl hd_X5_whyCases ⟨Nat.le_of_ble_eq_true rfl, Nat.le_of_ble_eq_true rfl⟩ rfl rfl rfl rfl dX5_differ_26 rfl (Nat.le_of_ble_eq_true rfl) ⟨Nat.le_of_ble_eq_true rfl, Nat.le_of_ble_eq_true rfl⟩) ?_
      refine j_put (Cn := RX5) (T := TX5) (N := 11) (ws' := [(m0, .inr (4, [.int 1, .int (nI N), .ref tb, .ref md, .ref rw0, .int sz, .ref cs, .ref va, .int lk, .ref rn, .ref kp]))]) tyX5 0 0 C dX5_differ_29 hin_X5_differ_X5 tyX5_ok nmX5 rfl rfl (by decide) (List.mem_of_getElem? (i := 1) rfl) rfl (tyX5_ok 0 (by decide)) rfl rfl (Nat.le_of_ble_eq_true rfl) rfl ?_
      refine j_aload_n 0 C dX5_differ_32 rfl rfl ?_
      refine j_get (Cn := RX5) (T := TX5) (N := 11) 0 0 C dX5_differ_33 hin_X5_differ_X5 rfl rfl (by decide) (List.mem_of_getElem? (i := 1) rfl) rfl ?_
      refine j_if_eq (tgt := 41) C dX5_differ_36 (by decide) (fun c_3 => ?_) (fun c_3 => ?_)
      · skip
        exact absurd c_3 (by decide)
      · skip
        refine j_iconst (v := 0) C dX5_differ_39 rfl ?_
        exact j_iretW (v := 0) C hr dX5_differ_40 () rfl rfl
    · skip
      have c_2 : false = true := jb_1 c_2
      (first | exact absurd c_2 (by decide) | exact absurd c_2 (by omega) | simp_all)
set_option maxHeartbeats 4000000 in
set_option maxRecDepth 100000 in
theorem c_X5_differ_1 (l : Launch) (g : jG) (m0 : Nat) (th : Int32) (N tb md rw0 : Nat) (sz : Int32) (cs va : Nat) (lk : Int32) (rn kp : Nat) (k k2 : Nat) (a b : Int32) (hk : k < N) (hk2 : k2 < N) (hN : N ≤ 10) (h1 : jBt a 0 6 = false) : jWi l yX5_differ wsX5_differ ({ frames := 5, cells := 0, slots := 0, locals := 223 }) g [.ref m0, .int (nI k), .int (nI k2), .int a, .int b] [(m0, .inr (4, [.int th, .int (nI N), .ref tb, .ref md, .ref rw0, .int sz, .ref cs, .ref va, .int lk, .ref rn, .ref kp]))] [(m0, .inr (4, [.int 2, .int (nI N), .ref tb, .ref md, .ref rw0, .int sz, .ref cs, .ref va, .int lk, .ref rn, .ref kp]))] 0 := by
  refine j_enterW (Qc := fun sz_ => va_Qi (fun r (_ : Unit) => r = 0) (fun _ t => va_P g.1 vwCl [(m0, .inr (4, [.int 2, .int (nI N), .ref tb, .ref md, .ref rw0, .int sz, .ref cs, .ref va, .int lk, .ref rn, .ref kp]))] t.heap) (va_A [(m0, .inr (4, [.int th, .int (nI N), .ref tb, .ref md, .ref rw0, .int sz, .ref cs, .ref va, .int lk, .ref rn, .ref kp]))] sz_)) (cc := cX5_differ) (maxL := 7) (ret := (some .int)) (own := RX5) (L := [(0, .ref m0), (1, .int (nI k)), (2, .int (nI k2)), (3, .int a), (4, .int b)]) (by decide) rfl rfl (Nat.le_of_ble_eq_true rfl) rfl (fun p e s m args below meth c C hr => ?_)
  refine j_aload_n 0 C dX5_differ_0 rfl rfl ?_
  refine j_aload_n 0 C dX5_differ_1 rfl rfl ?_
  refine j_aload_n 0 C dX5_differ_2 rfl rfl ?_
  refine j_iload_n 1 C dX5_differ_3 rfl rfl ?_
  refine j_callRi (v := jb (jBt (nI k) 0 ((nI N) - 1))) (j_runV (ci := 0) (As := [.int (nI k)]) (rest := [.ref m0, .ref m0]) [0] C (c_X5_isProgram l g m0 th (nI N) tb md rw0 sz cs va lk rn kp (nI k)) gX5_differ_X5_isProgram rfl rfl rfl hd_X5_isProgram ⟨Nat.le_of_ble_eq_true rfl, Nat.le_of_ble_eq_true rfl⟩ rfl rfl rfl rfl dX5_differ_4 rfl (Nat.le_of_ble_eq_true rfl) ⟨Nat.le_of_ble_eq_true rfl, Nat.le_of_ble_eq_true rfl⟩) ?_
  refine j_eq (pc' := 7) (L' := [(0, .ref m0), (1, .int (nI k)), (2, .int (nI k2)), (3, .int a), (4, .int b)]) (st' := [.int (jb true), .ref m0, .ref m0]) (ws' := [(m0, .inr (4, [.int th, .int (nI N), .ref tb, .ref md, .ref rw0, .int sz, .ref cs, .ref va, .int lk, .ref rn, .ref kp]))]) ?_ rfl rfl (by rw [jBt_n hk (by omega)]) rfl
  refine j_if_eq (tgt := 22) C dX5_differ_7 (by decide) (fun c_1 => ?_) (fun c_1 => ?_)
  · skip
    have c_1 : true = false := jb_0 c_1
    (first | exact absurd c_1 (by decide) | exact absurd c_1 (by omega) | simp_all)
  · skip
    have c_1 : true = true := jb_1 c_1
    refine j_aload_n 0 C dX5_differ_10 rfl rfl ?_
    refine j_iload_n 2 C dX5_differ_11 rfl rfl ?_
    refine j_callRi (v := jb (jBt (nI k2) 0 ((nI N) - 1))) (j_runV (ci := 0) (As := [.int (nI k2)]) (rest := [.ref m0, .ref m0]) [0] C (c_X5_isProgram l g m0 th (nI N) tb md rw0 sz cs va lk rn kp (nI k2)) gX5_differ_X5_isProgram rfl rfl rfl hd_X5_isProgram ⟨Nat.le_of_ble_eq_true rfl, Nat.le_of_ble_eq_true rfl⟩ rfl rfl rfl rfl dX5_differ_12 rfl (Nat.le_of_ble_eq_true rfl) ⟨Nat.le_of_ble_eq_true rfl, Nat.le_of_ble_eq_true rfl⟩) ?_
    refine j_eq (pc' := 15) (L' := [(0, .ref m0), (1, .int (nI k)), (2, .int (nI k2)), (3, .int a), (4, .int b)]) (st' := [.int (jb true), .ref m0, .ref m0]) (ws' := [(m0, .inr (4, [.int th, .int (nI N), .ref tb, .ref md, .ref rw0, .int sz, .ref cs, .ref va, .int lk, .ref rn, .ref kp]))]) ?_ rfl rfl (by rw [jBt_n hk2 (by omega)]) rfl
    refine j_if_eq (tgt := 22) C dX5_differ_15 (by decide) (fun c_2 => ?_) (fun c_2 => ?_)
    · skip
      have c_2 : true = false := jb_0 c_2
      (first | exact absurd c_2 (by decide) | exact absurd c_2 (by omega) | simp_all)
    · skip
      have c_2 : true = true := jb_1 c_2
      refine j_iconst (v := 1) C dX5_differ_18 rfl ?_
      refine j_goto (tgt := 23) C dX5_differ_19 (by decide) ?_
      refine j_iload_n 3 C dX5_differ_23 rfl rfl ?_
      refine j_iload 4 C dX5_differ_24 rfl ?_
      refine j_callRi (v := 2) (j_runV (ci := 0) (As := [.int 1, .int a, .int b]) (rest := [.ref m0]) [] C (c_X5_whyCases_1 l g m0 a b (by omega)) gX5_differ_X5_whyCases rfl rfl rfl hd_X5_whyCases ⟨Nat.le_of_ble_eq_true rfl, Nat.le_of_ble_eq_true rfl⟩ rfl rfl rfl rfl dX5_differ_26 rfl (Nat.le_of_ble_eq_true rfl) ⟨Nat.le_of_ble_eq_true rfl, Nat.le_of_ble_eq_true rfl⟩) ?_
      refine j_put (Cn := RX5) (T := TX5) (N := 11) (ws' := [(m0, .inr (4, [.int 2, .int (nI N), .ref tb, .ref md, .ref rw0, .int sz, .ref cs, .ref va, .int lk, .ref rn, .ref kp]))]) tyX5 0 0 C dX5_differ_29 hin_X5_differ_X5 tyX5_ok nmX5 rfl rfl (by decide) (List.mem_of_getElem? (i := 1) rfl) rfl (tyX5_ok 0 (by decide)) rfl rfl (Nat.le_of_ble_eq_true rfl) rfl ?_
      refine j_aload_n 0 C dX5_differ_32 rfl rfl ?_
      refine j_get (Cn := RX5) (T := TX5) (N := 11) 0 0 C dX5_differ_33 hin_X5_differ_X5 rfl rfl (by decide) (List.mem_of_getElem? (i := 1) rfl) rfl ?_
      refine j_if_eq (tgt := 41) C dX5_differ_36 (by decide) (fun c_3 => ?_) (fun c_3 => ?_)
      · skip
        exact absurd c_3 (by decide)
      · skip
        refine j_iconst (v := 0) C dX5_differ_39 rfl ?_
        exact j_iretW (v := 0) C hr dX5_differ_40 () rfl rfl
set_option maxHeartbeats 4000000 in
set_option maxRecDepth 100000 in
theorem c_X5_differ_2 (l : Launch) (g : jG) (m0 : Nat) (th : Int32) (N tb md rw0 : Nat) (sz : Int32) (cs va : Nat) (lk : Int32) (rn kp : Nat) (k k2 : Nat) (a b : Int32) (hk : k < N) (hk2 : k2 < N) (hN : N ≤ 10) (h2 : jBt b 1 4 = false) : jWi l yX5_differ wsX5_differ ({ frames := 5, cells := 0, slots := 0, locals := 223 }) g [.ref m0, .int (nI k), .int (nI k2), .int a, .int b] [(m0, .inr (4, [.int th, .int (nI N), .ref tb, .ref md, .ref rw0, .int sz, .ref cs, .ref va, .int lk, .ref rn, .ref kp]))] [(m0, .inr (4, [.int 2, .int (nI N), .ref tb, .ref md, .ref rw0, .int sz, .ref cs, .ref va, .int lk, .ref rn, .ref kp]))] 0 := by
  refine j_enterW (Qc := fun sz_ => va_Qi (fun r (_ : Unit) => r = 0) (fun _ t => va_P g.1 vwCl [(m0, .inr (4, [.int 2, .int (nI N), .ref tb, .ref md, .ref rw0, .int sz, .ref cs, .ref va, .int lk, .ref rn, .ref kp]))] t.heap) (va_A [(m0, .inr (4, [.int th, .int (nI N), .ref tb, .ref md, .ref rw0, .int sz, .ref cs, .ref va, .int lk, .ref rn, .ref kp]))] sz_)) (cc := cX5_differ) (maxL := 7) (ret := (some .int)) (own := RX5) (L := [(0, .ref m0), (1, .int (nI k)), (2, .int (nI k2)), (3, .int a), (4, .int b)]) (by decide) rfl rfl (Nat.le_of_ble_eq_true rfl) rfl (fun p e s m args below meth c C hr => ?_)
  refine j_aload_n 0 C dX5_differ_0 rfl rfl ?_
  refine j_aload_n 0 C dX5_differ_1 rfl rfl ?_
  refine j_aload_n 0 C dX5_differ_2 rfl rfl ?_
  refine j_iload_n 1 C dX5_differ_3 rfl rfl ?_
  refine j_callRi (v := jb (jBt (nI k) 0 ((nI N) - 1))) (j_runV (ci := 0) (As := [.int (nI k)]) (rest := [.ref m0, .ref m0]) [0] C (c_X5_isProgram l g m0 th (nI N) tb md rw0 sz cs va lk rn kp (nI k)) gX5_differ_X5_isProgram rfl rfl rfl hd_X5_isProgram ⟨Nat.le_of_ble_eq_true rfl, Nat.le_of_ble_eq_true rfl⟩ rfl rfl rfl rfl dX5_differ_4 rfl (Nat.le_of_ble_eq_true rfl) ⟨Nat.le_of_ble_eq_true rfl, Nat.le_of_ble_eq_true rfl⟩) ?_
  refine j_eq (pc' := 7) (L' := [(0, .ref m0), (1, .int (nI k)), (2, .int (nI k2)), (3, .int a), (4, .int b)]) (st' := [.int (jb true), .ref m0, .ref m0]) (ws' := [(m0, .inr (4, [.int th, .int (nI N), .ref tb, .ref md, .ref rw0, .int sz, .ref cs, .ref va, .int lk, .ref rn, .ref kp]))]) ?_ rfl rfl (by rw [jBt_n hk (by omega)]) rfl
  refine j_if_eq (tgt := 22) C dX5_differ_7 (by decide) (fun c_1 => ?_) (fun c_1 => ?_)
  · skip
    have c_1 : true = false := jb_0 c_1
    (first | exact absurd c_1 (by decide) | exact absurd c_1 (by omega) | simp_all)
  · skip
    have c_1 : true = true := jb_1 c_1
    refine j_aload_n 0 C dX5_differ_10 rfl rfl ?_
    refine j_iload_n 2 C dX5_differ_11 rfl rfl ?_
    refine j_callRi (v := jb (jBt (nI k2) 0 ((nI N) - 1))) (j_runV (ci := 0) (As := [.int (nI k2)]) (rest := [.ref m0, .ref m0]) [0] C (c_X5_isProgram l g m0 th (nI N) tb md rw0 sz cs va lk rn kp (nI k2)) gX5_differ_X5_isProgram rfl rfl rfl hd_X5_isProgram ⟨Nat.le_of_ble_eq_true rfl, Nat.le_of_ble_eq_true rfl⟩ rfl rfl rfl rfl dX5_differ_12 rfl (Nat.le_of_ble_eq_true rfl) ⟨Nat.le_of_ble_eq_true rfl, Nat.le_of_ble_eq_true rfl⟩) ?_
    refine j_eq (pc' := 15) (L' := [(0, .ref m0), (1, .int (nI k)), (2, .int (nI k2)), (3, .int a), (4, .int b)]) (st' := [.int (jb true), .ref m0, .ref m0]) (ws' := [(m0, .inr (4, [.int th, .int (nI N), .ref tb, .ref md, .ref rw0, .int sz, .ref cs, .ref va, .int lk, .ref rn, .ref kp]))]) ?_ rfl rfl (by rw [jBt_n hk2 (by omega)]) rfl
    refine j_if_eq (tgt := 22) C dX5_differ_15 (by decide) (fun c_2 => ?_) (fun c_2 => ?_)
    · skip
      have c_2 : true = false := jb_0 c_2
      (first | exact absurd c_2 (by decide) | exact absurd c_2 (by omega) | simp_all)
    · skip
      have c_2 : true = true := jb_1 c_2
      refine j_iconst (v := 1) C dX5_differ_18 rfl ?_
      refine j_goto (tgt := 23) C dX5_differ_19 (by decide) ?_
      refine j_iload_n 3 C dX5_differ_23 rfl rfl ?_
      refine j_iload 4 C dX5_differ_24 rfl ?_
      refine j_callRi (v := 2) (j_runV (ci := 0) (As := [.int 1, .int a, .int b]) (rest := [.ref m0]) [] C (c_X5_whyCases_2 l g m0 a b (by omega)) gX5_differ_X5_whyCases rfl rfl rfl hd_X5_whyCases ⟨Nat.le_of_ble_eq_true rfl, Nat.le_of_ble_eq_true rfl⟩ rfl rfl rfl rfl dX5_differ_26 rfl (Nat.le_of_ble_eq_true rfl) ⟨Nat.le_of_ble_eq_true rfl, Nat.le_of_ble_eq_true rfl⟩) ?_
      refine j_put (Cn := RX5) (T := TX5) (N := 11) (ws' := [(m0, .inr (4, [.int 2, .int (nI N), .ref tb, .ref md, .ref rw0, .int sz, .ref cs, .ref va, .int lk, .ref rn, .ref kp]))]) tyX5 0 0 C dX5_differ_29 hin_X5_differ_X5 tyX5_ok nmX5 rfl rfl (by decide) (List.mem_of_getElem? (i := 1) rfl) rfl (tyX5_ok 0 (by decide)) rfl rfl (Nat.le_of_ble_eq_true rfl) rfl ?_
      refine j_aload_n 0 C dX5_differ_32 rfl rfl ?_
      refine j_get (Cn := RX5) (T := TX5) (N := 11) 0 0 C dX5_differ_33 hin_X5_differ_X5 rfl rfl (by decide) (List.mem_of_getElem? (i := 1) rfl) rfl ?_
      refine j_if_eq (tgt := 41) C dX5_differ_36 (by decide) (fun c_3 => ?_) (fun c_3 => ?_)
      · skip
        exact absurd c_3 (by decide)
      · skip
        refine j_iconst (v := 0) C dX5_differ_39 rfl ?_
        exact j_iretW (v := 0) C hr dX5_differ_40 () rfl rfl
set_option maxHeartbeats 4000000 in
set_option maxRecDepth 100000 in
theorem c_X5_differ_3 (l : Launch) (g : jG) (m0 : Nat) (th : Int32) (N tb md rw0 : Nat) (sz : Int32) (cs va : Nat) (lk : Int32) (rn kp : Nat) (k k2 : Nat) (hk : k < N) (hk2 : k2 < N) (hN : N ≤ 10)  : jWi l yX5_differ wsX5_differ ({ frames := 5, cells := 0, slots := 0, locals := 223 }) g [.ref m0, .int (nI k), .int (nI k2), .int 6, .int 4] [(m0, .inr (4, [.int th, .int (nI N), .ref tb, .ref md, .ref rw0, .int sz, .ref cs, .ref va, .int lk, .ref rn, .ref kp]))] [(m0, .inr (4, [.int 2, .int (nI N), .ref tb, .ref md, .ref rw0, .int sz, .ref cs, .ref va, .int lk, .ref rn, .ref kp]))] 0 := by
  refine j_enterW (Qc := fun sz_ => va_Qi (fun r (_ : Unit) => r = 0) (fun _ t => va_P g.1 vwCl [(m0, .inr (4, [.int 2, .int (nI N), .ref tb, .ref md, .ref rw0, .int sz, .ref cs, .ref va, .int lk, .ref rn, .ref kp]))] t.heap) (va_A [(m0, .inr (4, [.int th, .int (nI N), .ref tb, .ref md, .ref rw0, .int sz, .ref cs, .ref va, .int lk, .ref rn, .ref kp]))] sz_)) (cc := cX5_differ) (maxL := 7) (ret := (some .int)) (own := RX5) (L := [(0, .ref m0), (1, .int (nI k)), (2, .int (nI k2)), (3, .int 6), (4, .int 4)]) (by decide) rfl rfl (Nat.le_of_ble_eq_true rfl) rfl (fun p e s m args below meth c C hr => ?_)
  refine j_aload_n 0 C dX5_differ_0 rfl rfl ?_
  refine j_aload_n 0 C dX5_differ_1 rfl rfl ?_
  refine j_aload_n 0 C dX5_differ_2 rfl rfl ?_
  refine j_iload_n 1 C dX5_differ_3 rfl rfl ?_
  refine j_callRi (v := jb (jBt (nI k) 0 ((nI N) - 1))) (j_runV (ci := 0) (As := [.int (nI k)]) (rest := [.ref m0, .ref m0]) [0] C (c_X5_isProgram l g m0 th (nI N) tb md rw0 sz cs va lk rn kp (nI k)) gX5_differ_X5_isProgram rfl rfl rfl hd_X5_isProgram ⟨Nat.le_of_ble_eq_true rfl, Nat.le_of_ble_eq_true rfl⟩ rfl rfl rfl rfl dX5_differ_4 rfl (Nat.le_of_ble_eq_true rfl) ⟨Nat.le_of_ble_eq_true rfl, Nat.le_of_ble_eq_true rfl⟩) ?_
  refine j_eq (pc' := 7) (L' := [(0, .ref m0), (1, .int (nI k)), (2, .int (nI k2)), (3, .int 6), (4, .int 4)]) (st' := [.int (jb true), .ref m0, .ref m0]) (ws' := [(m0, .inr (4, [.int th, .int (nI N), .ref tb, .ref md, .ref rw0, .int sz, .ref cs, .ref va, .int lk, .ref rn, .ref kp]))]) ?_ rfl rfl (by rw [jBt_n hk (by omega)]) rfl
  refine j_if_eq (tgt := 22) C dX5_differ_7 (by decide) (fun c_1 => ?_) (fun c_1 => ?_)
  · skip
    have c_1 : true = false := jb_0 c_1
    (first | exact absurd c_1 (by decide) | exact absurd c_1 (by omega) | simp_all)
  · skip
    have c_1 : true = true := jb_1 c_1
    refine j_aload_n 0 C dX5_differ_10 rfl rfl ?_
    refine j_iload_n 2 C dX5_differ_11 rfl rfl ?_
    refine j_callRi (v := jb (jBt (nI k2) 0 ((nI N) - 1))) (j_runV (ci := 0) (As := [.int (nI k2)]) (rest := [.ref m0, .ref m0]) [0] C (c_X5_isProgram l g m0 th (nI N) tb md rw0 sz cs va lk rn kp (nI k2)) gX5_differ_X5_isProgram rfl rfl rfl hd_X5_isProgram ⟨Nat.le_of_ble_eq_true rfl, Nat.le_of_ble_eq_true rfl⟩ rfl rfl rfl rfl dX5_differ_12 rfl (Nat.le_of_ble_eq_true rfl) ⟨Nat.le_of_ble_eq_true rfl, Nat.le_of_ble_eq_true rfl⟩) ?_
    refine j_eq (pc' := 15) (L' := [(0, .ref m0), (1, .int (nI k)), (2, .int (nI k2)), (3, .int 6), (4, .int 4)]) (st' := [.int (jb true), .ref m0, .ref m0]) (ws' := [(m0, .inr (4, [.int th, .int (nI N), .ref tb, .ref md, .ref rw0, .int sz, .ref cs, .ref va, .int lk, .ref rn, .ref kp]))]) ?_ rfl rfl (by rw [jBt_n hk2 (by omega)]) rfl
    refine j_if_eq (tgt := 22) C dX5_differ_15 (by decide) (fun c_2 => ?_) (fun c_2 => ?_)
    · skip
      have c_2 : true = false := jb_0 c_2
      (first | exact absurd c_2 (by decide) | exact absurd c_2 (by omega) | simp_all)
    · skip
      have c_2 : true = true := jb_1 c_2
      refine j_iconst (v := 1) C dX5_differ_18 rfl ?_
      refine j_goto (tgt := 23) C dX5_differ_19 (by decide) ?_
      refine j_iload_n 3 C dX5_differ_23 rfl rfl ?_
      refine j_iload 4 C dX5_differ_24 rfl ?_
      refine j_callRi (v := 2) (j_runV (ci := 0) (As := [.int 1, .int 6, .int 4]) (rest := [.ref m0]) [] C (c_X5_whyCases_3 l g m0) gX5_differ_X5_whyCases rfl rfl rfl hd_X5_whyCases ⟨Nat.le_of_ble_eq_true rfl, Nat.le_of_ble_eq_true rfl⟩ rfl rfl rfl rfl dX5_differ_26 rfl (Nat.le_of_ble_eq_true rfl) ⟨Nat.le_of_ble_eq_true rfl, Nat.le_of_ble_eq_true rfl⟩) ?_
      refine j_put (Cn := RX5) (T := TX5) (N := 11) (ws' := [(m0, .inr (4, [.int 2, .int (nI N), .ref tb, .ref md, .ref rw0, .int sz, .ref cs, .ref va, .int lk, .ref rn, .ref kp]))]) tyX5 0 0 C dX5_differ_29 hin_X5_differ_X5 tyX5_ok nmX5 rfl rfl (by decide) (List.mem_of_getElem? (i := 1) rfl) rfl (tyX5_ok 0 (by decide)) rfl rfl (Nat.le_of_ble_eq_true rfl) rfl ?_
      refine j_aload_n 0 C dX5_differ_32 rfl rfl ?_
      refine j_get (Cn := RX5) (T := TX5) (N := 11) 0 0 C dX5_differ_33 hin_X5_differ_X5 rfl rfl (by decide) (List.mem_of_getElem? (i := 1) rfl) rfl ?_
      refine j_if_eq (tgt := 41) C dX5_differ_36 (by decide) (fun c_3 => ?_) (fun c_3 => ?_)
      · skip
        exact absurd c_3 (by decide)
      · skip
        refine j_iconst (v := 0) C dX5_differ_39 rfl ?_
        exact j_iretW (v := 0) C hr dX5_differ_40 () rfl rfl
set_option maxHeartbeats 4000000 in
set_option maxRecDepth 100000 in
theorem c_X5_firstCase_p (l : Launch) (g : jG) (m0 : Nat) (th : Int32) (N tb md rw0 : Nat) (sz : Int32) (cs va : Nat) (lk : Int32) (rn kp : Nat) (x y a b : Int32) (hx : jBt x 0 (nI N - 1) = false) : jWi l yX5_firstCase wsX5_firstCase ({ frames := 5, cells := 0, slots := 0, locals := 223 }) g [.ref m0, .int x, .int y, .int a, .int b] [(m0, .inr (4, [.int th, .int (nI N), .ref tb, .ref md, .ref rw0, .int sz, .ref cs, .ref va, .int lk, .ref rn, .ref kp]))] [(m0, .inr (4, [.int 1, .int (nI N), .ref tb, .ref md, .ref rw0, .int sz, .ref cs, .ref va, .int lk, .ref rn, .ref kp]))] 0 := by
  refine j_enterW (Qc := fun sz_ => va_Qi (fun r (_ : Unit) => r = 0) (fun _ t => va_P g.1 vwCl [(m0, .inr (4, [.int 1, .int (nI N), .ref tb, .ref md, .ref rw0, .int sz, .ref cs, .ref va, .int lk, .ref rn, .ref kp]))] t.heap) (va_A [(m0, .inr (4, [.int th, .int (nI N), .ref tb, .ref md, .ref rw0, .int sz, .ref cs, .ref va, .int lk, .ref rn, .ref kp]))] sz_)) (cc := cX5_firstCase) (maxL := 6) (ret := (some .int)) (own := RX5) (L := [(0, .ref m0), (1, .int x), (2, .int y), (3, .int a), (4, .int b)]) (by decide) rfl rfl (Nat.le_of_ble_eq_true rfl) rfl (fun p e s m args below meth c C hr => ?_)
  refine j_aload_n 0 C dX5_firstCase_0 rfl rfl ?_
  refine j_aload_n 0 C dX5_firstCase_1 rfl rfl ?_
  refine j_aload_n 0 C dX5_firstCase_2 rfl rfl ?_
  refine j_iload_n 1 C dX5_firstCase_3 rfl rfl ?_
  refine j_callRi (v := jb (jBt x 0 ((nI N) - 1))) (j_runV (ci := 0) (As := [.int x]) (rest := [.ref m0, .ref m0]) [0] C (c_X5_isProgram l g m0 th (nI N) tb md rw0 sz cs va lk rn kp x) gX5_firstCase_X5_isProgram rfl rfl rfl hd_X5_isProgram ⟨Nat.le_of_ble_eq_true rfl, Nat.le_of_ble_eq_true rfl⟩ rfl rfl rfl rfl dX5_firstCase_4 rfl (Nat.le_of_ble_eq_true rfl) ⟨Nat.le_of_ble_eq_true rfl, Nat.le_of_ble_eq_true rfl⟩) ?_
  refine j_eq (pc' := 7) (L' := [(0, .ref m0), (1, .int x), (2, .int y), (3, .int a), (4, .int b)]) (st' := [.int (jb false), .ref m0, .ref m0]) (ws' := [(m0, .inr (4, [.int th, .int (nI N), .ref tb, .ref md, .ref rw0, .int sz, .ref cs, .ref va, .int lk, .ref rn, .ref kp]))]) ?_ rfl rfl (by rw [hx]) rfl
  refine j_if_eq (tgt := 22) C dX5_firstCase_7 (by decide) (fun c_1 => ?_) (fun c_1 => ?_)
  · skip
    have c_1 : false = false := jb_0 c_1
    refine j_iconst (v := 0) C dX5_firstCase_22 rfl ?_
    refine j_iload_n 3 C dX5_firstCase_23 rfl rfl ?_
    refine j_iload 4 C dX5_firstCase_24 rfl ?_
    refine j_callRi (v := 1) (j_runV (ci := 0) (As := [.int 0, .int a, .int b]) (rest := [.ref m0]) [] C (c_X5_whyCases_n l g m0 a b) gX5_firstCase_X5_whyCases rfl rfl rfl hd_X5_whyCases ⟨Nat.le_of_ble_eq_true rfl, Nat.le_of_ble_eq_true rfl⟩ rfl rfl rfl rfl dX5_firstCase_26 rfl (Nat.le_of_ble_eq_true rfl) ⟨Nat.le_of_ble_eq_true rfl, Nat.le_of_ble_eq_true rfl⟩) ?_
    refine j_put (Cn := RX5) (T := TX5) (N := 11) (ws' := [(m0, .inr (4, [.int 1, .int (nI N), .ref tb, .ref md, .ref rw0, .int sz, .ref cs, .ref va, .int lk, .ref rn, .ref kp]))]) tyX5 0 0 C dX5_firstCase_29 hin_X5_firstCase_X5 tyX5_ok nmX5 rfl rfl (by decide) (List.mem_of_getElem? (i := 1) rfl) rfl (tyX5_ok 0 (by decide)) rfl rfl (Nat.le_of_ble_eq_true rfl) rfl ?_
    refine j_aload_n 0 C dX5_firstCase_32 rfl rfl ?_
    refine j_get (Cn := RX5) (T := TX5) (N := 11) 0 0 C dX5_firstCase_33 hin_X5_firstCase_X5 rfl rfl (by decide) (List.mem_of_getElem? (i := 1) rfl) rfl ?_
    refine j_if_eq (tgt := 41) C dX5_firstCase_36 (by decide) (fun c_2 => ?_) (fun c_2 => ?_)
    · skip
      exact absurd c_2 (by decide)
    · skip
      refine j_iconst (v := 0) C dX5_firstCase_39 rfl ?_
      exact j_iretW (v := 0) C hr dX5_firstCase_40 () rfl rfl
  · skip
    have c_1 : false = true := jb_1 c_1
    (first | exact absurd c_1 (by decide) | exact absurd c_1 (by omega) | simp_all)
set_option maxHeartbeats 4000000 in
set_option maxRecDepth 100000 in
theorem c_X5_firstCase_q (l : Launch) (g : jG) (m0 : Nat) (th : Int32) (N tb md rw0 : Nat) (sz : Int32) (cs va : Nat) (lk : Int32) (rn kp : Nat) (k : Nat) (y a b : Int32) (hk : k < N) (hN : N ≤ 10) (hy : jBt y 0 (nI N - 1) = false) : jWi l yX5_firstCase wsX5_firstCase ({ frames := 5, cells := 0, slots := 0, locals := 223 }) g [.ref m0, .int (nI k), .int y, .int a, .int b] [(m0, .inr (4, [.int th, .int (nI N), .ref tb, .ref md, .ref rw0, .int sz, .ref cs, .ref va, .int lk, .ref rn, .ref kp]))] [(m0, .inr (4, [.int 1, .int (nI N), .ref tb, .ref md, .ref rw0, .int sz, .ref cs, .ref va, .int lk, .ref rn, .ref kp]))] 0 := by
  refine j_enterW (Qc := fun sz_ => va_Qi (fun r (_ : Unit) => r = 0) (fun _ t => va_P g.1 vwCl [(m0, .inr (4, [.int 1, .int (nI N), .ref tb, .ref md, .ref rw0, .int sz, .ref cs, .ref va, .int lk, .ref rn, .ref kp]))] t.heap) (va_A [(m0, .inr (4, [.int th, .int (nI N), .ref tb, .ref md, .ref rw0, .int sz, .ref cs, .ref va, .int lk, .ref rn, .ref kp]))] sz_)) (cc := cX5_firstCase) (maxL := 6) (ret := (some .int)) (own := RX5) (L := [(0, .ref m0), (1, .int (nI k)), (2, .int y), (3, .int a), (4, .int b)]) (by decide) rfl rfl (Nat.le_of_ble_eq_true rfl) rfl (fun p e s m args below meth c C hr => ?_)
  refine j_aload_n 0 C dX5_firstCase_0 rfl rfl ?_
  refine j_aload_n 0 C dX5_firstCase_1 rfl rfl ?_
  refine j_aload_n 0 C dX5_firstCase_2 rfl rfl ?_
  refine j_iload_n 1 C dX5_firstCase_3 rfl rfl ?_
  refine j_callRi (v := jb (jBt (nI k) 0 ((nI N) - 1))) (j_runV (ci := 0) (As := [.int (nI k)]) (rest := [.ref m0, .ref m0]) [0] C (c_X5_isProgram l g m0 th (nI N) tb md rw0 sz cs va lk rn kp (nI k)) gX5_firstCase_X5_isProgram rfl rfl rfl hd_X5_isProgram ⟨Nat.le_of_ble_eq_true rfl, Nat.le_of_ble_eq_true rfl⟩ rfl rfl rfl rfl dX5_firstCase_4 rfl (Nat.le_of_ble_eq_true rfl) ⟨Nat.le_of_ble_eq_true rfl, Nat.le_of_ble_eq_true rfl⟩) ?_
  refine j_eq (pc' := 7) (L' := [(0, .ref m0), (1, .int (nI k)), (2, .int y), (3, .int a), (4, .int b)]) (st' := [.int (jb true), .ref m0, .ref m0]) (ws' := [(m0, .inr (4, [.int th, .int (nI N), .ref tb, .ref md, .ref rw0, .int sz, .ref cs, .ref va, .int lk, .ref rn, .ref kp]))]) ?_ rfl rfl (by rw [jBt_n hk (by omega)]) rfl
  refine j_if_eq (tgt := 22) C dX5_firstCase_7 (by decide) (fun c_1 => ?_) (fun c_1 => ?_)
  · skip
    have c_1 : true = false := jb_0 c_1
    (first | exact absurd c_1 (by decide) | exact absurd c_1 (by omega) | simp_all)
  · skip
    have c_1 : true = true := jb_1 c_1
    refine j_aload_n 0 C dX5_firstCase_10 rfl rfl ?_
    refine j_iload_n 2 C dX5_firstCase_11 rfl rfl ?_
    refine j_callRi (v := jb (jBt y 0 ((nI N) - 1))) (j_runV (ci := 0) (As := [.int y]) (rest := [.ref m0, .ref m0]) [0] C (c_X5_isProgram l g m0 th (nI N) tb md rw0 sz cs va lk rn kp y) gX5_firstCase_X5_isProgram rfl rfl rfl hd_X5_isProgram ⟨Nat.le_of_ble_eq_true rfl, Nat.le_of_ble_eq_true rfl⟩ rfl rfl rfl rfl dX5_firstCase_12 rfl (Nat.le_of_ble_eq_true rfl) ⟨Nat.le_of_ble_eq_true rfl, Nat.le_of_ble_eq_true rfl⟩) ?_
    refine j_eq (pc' := 15) (L' := [(0, .ref m0), (1, .int (nI k)), (2, .int y), (3, .int a), (4, .int b)]) (st' := [.int (jb false), .ref m0, .ref m0]) (ws' := [(m0, .inr (4, [.int th, .int (nI N), .ref tb, .ref md, .ref rw0, .int sz, .ref cs, .ref va, .int lk, .ref rn, .ref kp]))]) ?_ rfl rfl (by rw [hy]) rfl
    refine j_if_eq (tgt := 22) C dX5_firstCase_15 (by decide) (fun c_2 => ?_) (fun c_2 => ?_)
    · skip
      have c_2 : false = false := jb_0 c_2
      refine j_iconst (v := 0) C dX5_firstCase_22 rfl ?_
      refine j_iload_n 3 C dX5_firstCase_23 rfl rfl ?_
      refine j_iload 4 C dX5_firstCase_24 rfl ?_
      refine j_callRi (v := 1) (j_runV (ci := 0) (As := [.int 0, .int a, .int b]) (rest := [.ref m0]) [] C (c_X5_whyCases_n l g m0 a b) gX5_firstCase_X5_whyCases rfl rfl rfl hd_X5_whyCases ⟨Nat.le_of_ble_eq_true rfl, Nat.le_of_ble_eq_true rfl⟩ rfl rfl rfl rfl dX5_firstCase_26 rfl (Nat.le_of_ble_eq_true rfl) ⟨Nat.le_of_ble_eq_true rfl, Nat.le_of_ble_eq_true rfl⟩) ?_
      refine j_put (Cn := RX5) (T := TX5) (N := 11) (ws' := [(m0, .inr (4, [.int 1, .int (nI N), .ref tb, .ref md, .ref rw0, .int sz, .ref cs, .ref va, .int lk, .ref rn, .ref kp]))]) tyX5 0 0 C dX5_firstCase_29 hin_X5_firstCase_X5 tyX5_ok nmX5 rfl rfl (by decide) (List.mem_of_getElem? (i := 1) rfl) rfl (tyX5_ok 0 (by decide)) rfl rfl (Nat.le_of_ble_eq_true rfl) rfl ?_
      refine j_aload_n 0 C dX5_firstCase_32 rfl rfl ?_
      refine j_get (Cn := RX5) (T := TX5) (N := 11) 0 0 C dX5_firstCase_33 hin_X5_firstCase_X5 rfl rfl (by decide) (List.mem_of_getElem? (i := 1) rfl) rfl ?_
      refine j_if_eq (tgt := 41) C dX5_firstCase_36 (by decide) (fun c_3 => ?_) (fun c_3 => ?_)
      · skip
        exact absurd c_3 (by decide)
      · skip
        refine j_iconst (v := 0) C dX5_firstCase_39 rfl ?_
        exact j_iretW (v := 0) C hr dX5_firstCase_40 () rfl rfl
    · skip
      have c_2 : false = true := jb_1 c_2
      (first | exact absurd c_2 (by decide) | exact absurd c_2 (by omega) | simp_all)
set_option maxHeartbeats 4000000 in
set_option maxRecDepth 100000 in
theorem c_X5_firstCase_1 (l : Launch) (g : jG) (m0 : Nat) (th : Int32) (N tb md rw0 : Nat) (sz : Int32) (cs va : Nat) (lk : Int32) (rn kp : Nat) (k k2 : Nat) (a b : Int32) (hk : k < N) (hk2 : k2 < N) (hN : N ≤ 10) (h1 : jBt a 0 6 = false) : jWi l yX5_firstCase wsX5_firstCase ({ frames := 5, cells := 0, slots := 0, locals := 223 }) g [.ref m0, .int (nI k), .int (nI k2), .int a, .int b] [(m0, .inr (4, [.int th, .int (nI N), .ref tb, .ref md, .ref rw0, .int sz, .ref cs, .ref va, .int lk, .ref rn, .ref kp]))] [(m0, .inr (4, [.int 2, .int (nI N), .ref tb, .ref md, .ref rw0, .int sz, .ref cs, .ref va, .int lk, .ref rn, .ref kp]))] 0 := by
  refine j_enterW (Qc := fun sz_ => va_Qi (fun r (_ : Unit) => r = 0) (fun _ t => va_P g.1 vwCl [(m0, .inr (4, [.int 2, .int (nI N), .ref tb, .ref md, .ref rw0, .int sz, .ref cs, .ref va, .int lk, .ref rn, .ref kp]))] t.heap) (va_A [(m0, .inr (4, [.int th, .int (nI N), .ref tb, .ref md, .ref rw0, .int sz, .ref cs, .ref va, .int lk, .ref rn, .ref kp]))] sz_)) (cc := cX5_firstCase) (maxL := 6) (ret := (some .int)) (own := RX5) (L := [(0, .ref m0), (1, .int (nI k)), (2, .int (nI k2)), (3, .int a), (4, .int b)]) (by decide) rfl rfl (Nat.le_of_ble_eq_true rfl) rfl (fun p e s m args below meth c C hr => ?_)
  refine j_aload_n 0 C dX5_firstCase_0 rfl rfl ?_
  refine j_aload_n 0 C dX5_firstCase_1 rfl rfl ?_
  refine j_aload_n 0 C dX5_firstCase_2 rfl rfl ?_
  refine j_iload_n 1 C dX5_firstCase_3 rfl rfl ?_
  refine j_callRi (v := jb (jBt (nI k) 0 ((nI N) - 1))) (j_runV (ci := 0) (As := [.int (nI k)]) (rest := [.ref m0, .ref m0]) [0] C (c_X5_isProgram l g m0 th (nI N) tb md rw0 sz cs va lk rn kp (nI k)) gX5_firstCase_X5_isProgram rfl rfl rfl hd_X5_isProgram ⟨Nat.le_of_ble_eq_true rfl, Nat.le_of_ble_eq_true rfl⟩ rfl rfl rfl rfl dX5_firstCase_4 rfl (Nat.le_of_ble_eq_true rfl) ⟨Nat.le_of_ble_eq_true rfl, Nat.le_of_ble_eq_true rfl⟩) ?_
  refine j_eq (pc' := 7) (L' := [(0, .ref m0), (1, .int (nI k)), (2, .int (nI k2)), (3, .int a), (4, .int b)]) (st' := [.int (jb true), .ref m0, .ref m0]) (ws' := [(m0, .inr (4, [.int th, .int (nI N), .ref tb, .ref md, .ref rw0, .int sz, .ref cs, .ref va, .int lk, .ref rn, .ref kp]))]) ?_ rfl rfl (by rw [jBt_n hk (by omega)]) rfl
  refine j_if_eq (tgt := 22) C dX5_firstCase_7 (by decide) (fun c_1 => ?_) (fun c_1 => ?_)
  · skip
    have c_1 : true = false := jb_0 c_1
    (first | exact absurd c_1 (by decide) | exact absurd c_1 (by omega) | simp_all)
  · skip
    have c_1 : true = true := jb_1 c_1
    refine j_aload_n 0 C dX5_firstCase_10 rfl rfl ?_
    refine j_iload_n 2 C dX5_firstCase_11 rfl rfl ?_
    refine j_callRi (v := jb (jBt (nI k2) 0 ((nI N) - 1))) (j_runV (ci := 0) (As := [.int (nI k2)]) (rest := [.ref m0, .ref m0]) [0] C (c_X5_isProgram l g m0 th (nI N) tb md rw0 sz cs va lk rn kp (nI k2)) gX5_firstCase_X5_isProgram rfl rfl rfl hd_X5_isProgram ⟨Nat.le_of_ble_eq_true rfl, Nat.le_of_ble_eq_true rfl⟩ rfl rfl rfl rfl dX5_firstCase_12 rfl (Nat.le_of_ble_eq_true rfl) ⟨Nat.le_of_ble_eq_true rfl, Nat.le_of_ble_eq_true rfl⟩) ?_
    refine j_eq (pc' := 15) (L' := [(0, .ref m0), (1, .int (nI k)), (2, .int (nI k2)), (3, .int a), (4, .int b)]) (st' := [.int (jb true), .ref m0, .ref m0]) (ws' := [(m0, .inr (4, [.int th, .int (nI N), .ref tb, .ref md, .ref rw0, .int sz, .ref cs, .ref va, .int lk, .ref rn, .ref kp]))]) ?_ rfl rfl (by rw [jBt_n hk2 (by omega)]) rfl
    refine j_if_eq (tgt := 22) C dX5_firstCase_15 (by decide) (fun c_2 => ?_) (fun c_2 => ?_)
    · skip
      have c_2 : true = false := jb_0 c_2
      (first | exact absurd c_2 (by decide) | exact absurd c_2 (by omega) | simp_all)
    · skip
      have c_2 : true = true := jb_1 c_2
      refine j_iconst (v := 1) C dX5_firstCase_18 rfl ?_
      refine j_goto (tgt := 23) C dX5_firstCase_19 (by decide) ?_
      refine j_iload_n 3 C dX5_firstCase_23 rfl rfl ?_
      refine j_iload 4 C dX5_firstCase_24 rfl ?_
      refine j_callRi (v := 2) (j_runV (ci := 0) (As := [.int 1, .int a, .int b]) (rest := [.ref m0]) [] C (c_X5_whyCases_1 l g m0 a b (by omega)) gX5_firstCase_X5_whyCases rfl rfl rfl hd_X5_whyCases ⟨Nat.le_of_ble_eq_true rfl, Nat.le_of_ble_eq_true rfl⟩ rfl rfl rfl rfl dX5_firstCase_26 rfl (Nat.le_of_ble_eq_true rfl) ⟨Nat.le_of_ble_eq_true rfl, Nat.le_of_ble_eq_true rfl⟩) ?_
      refine j_put (Cn := RX5) (T := TX5) (N := 11) (ws' := [(m0, .inr (4, [.int 2, .int (nI N), .ref tb, .ref md, .ref rw0, .int sz, .ref cs, .ref va, .int lk, .ref rn, .ref kp]))]) tyX5 0 0 C dX5_firstCase_29 hin_X5_firstCase_X5 tyX5_ok nmX5 rfl rfl (by decide) (List.mem_of_getElem? (i := 1) rfl) rfl (tyX5_ok 0 (by decide)) rfl rfl (Nat.le_of_ble_eq_true rfl) rfl ?_
      refine j_aload_n 0 C dX5_firstCase_32 rfl rfl ?_
      refine j_get (Cn := RX5) (T := TX5) (N := 11) 0 0 C dX5_firstCase_33 hin_X5_firstCase_X5 rfl rfl (by decide) (List.mem_of_getElem? (i := 1) rfl) rfl ?_
      refine j_if_eq (tgt := 41) C dX5_firstCase_36 (by decide) (fun c_3 => ?_) (fun c_3 => ?_)
      · skip
        exact absurd c_3 (by decide)
      · skip
        refine j_iconst (v := 0) C dX5_firstCase_39 rfl ?_
        exact j_iretW (v := 0) C hr dX5_firstCase_40 () rfl rfl
set_option maxHeartbeats 4000000 in
set_option maxRecDepth 100000 in
theorem c_X5_firstCase_2 (l : Launch) (g : jG) (m0 : Nat) (th : Int32) (N tb md rw0 : Nat) (sz : Int32) (cs va : Nat) (lk : Int32) (rn kp : Nat) (k k2 : Nat) (a b : Int32) (hk : k < N) (hk2 : k2 < N) (hN : N ≤ 10) (h2 : jBt b 1 4 = false) : jWi l yX5_firstCase wsX5_firstCase ({ frames := 5, cells := 0, slots := 0, locals := 223 }) g [.ref m0, .int (nI k), .int (nI k2), .int a, .int b] [(m0, .inr (4, [.int th, .int (nI N), .ref tb, .ref md, .ref rw0, .int sz, .ref cs, .ref va, .int lk, .ref rn, .ref kp]))] [(m0, .inr (4, [.int 2, .int (nI N), .ref tb, .ref md, .ref rw0, .int sz, .ref cs, .ref va, .int lk, .ref rn, .ref kp]))] 0 := by
  refine j_enterW (Qc := fun sz_ => va_Qi (fun r (_ : Unit) => r = 0) (fun _ t => va_P g.1 vwCl [(m0, .inr (4, [.int 2, .int (nI N), .ref tb, .ref md, .ref rw0, .int sz, .ref cs, .ref va, .int lk, .ref rn, .ref kp]))] t.heap) (va_A [(m0, .inr (4, [.int th, .int (nI N), .ref tb, .ref md, .ref rw0, .int sz, .ref cs, .ref va, .int lk, .ref rn, .ref kp]))] sz_)) (cc := cX5_firstCase) (maxL := 6) (ret := (some .int)) (own := RX5) (L := [(0, .ref m0), (1, .int (nI k)), (2, .int (nI k2)), (3, .int a), (4, .int b)]) (by decide) rfl rfl (Nat.le_of_ble_eq_true rfl) rfl (fun p e s m args below meth c C hr => ?_)
  refine j_aload_n 0 C dX5_firstCase_0 rfl rfl ?_
  refine j_aload_n 0 C dX5_firstCase_1 rfl rfl ?_
  refine j_aload_n 0 C dX5_firstCase_2 rfl rfl ?_
  refine j_iload_n 1 C dX5_firstCase_3 rfl rfl ?_
  refine j_callRi (v := jb (jBt (nI k) 0 ((nI N) - 1))) (j_runV (ci := 0) (As := [.int (nI k)]) (rest := [.ref m0, .ref m0]) [0] C (c_X5_isProgram l g m0 th (nI N) tb md rw0 sz cs va lk rn kp (nI k)) gX5_firstCase_X5_isProgram rfl rfl rfl hd_X5_isProgram ⟨Nat.le_of_ble_eq_true rfl, Nat.le_of_ble_eq_true rfl⟩ rfl rfl rfl rfl dX5_firstCase_4 rfl (Nat.le_of_ble_eq_true rfl) ⟨Nat.le_of_ble_eq_true rfl, Nat.le_of_ble_eq_true rfl⟩) ?_
  refine j_eq (pc' := 7) (L' := [(0, .ref m0), (1, .int (nI k)), (2, .int (nI k2)), (3, .int a), (4, .int b)]) (st' := [.int (jb true), .ref m0, .ref m0]) (ws' := [(m0, .inr (4, [.int th, .int (nI N), .ref tb, .ref md, .ref rw0, .int sz, .ref cs, .ref va, .int lk, .ref rn, .ref kp]))]) ?_ rfl rfl (by rw [jBt_n hk (by omega)]) rfl
  refine j_if_eq (tgt := 22) C dX5_firstCase_7 (by decide) (fun c_1 => ?_) (fun c_1 => ?_)
  · skip
    have c_1 : true = false := jb_0 c_1
    (first | exact absurd c_1 (by decide) | exact absurd c_1 (by omega) | simp_all)
  · skip
    have c_1 : true = true := jb_1 c_1
    refine j_aload_n 0 C dX5_firstCase_10 rfl rfl ?_
    refine j_iload_n 2 C dX5_firstCase_11 rfl rfl ?_
    refine j_callRi (v := jb (jBt (nI k2) 0 ((nI N) - 1))) (j_runV (ci := 0) (As := [.int (nI k2)]) (rest := [.ref m0, .ref m0]) [0] C (c_X5_isProgram l g m0 th (nI N) tb md rw0 sz cs va lk rn kp (nI k2)) gX5_firstCase_X5_isProgram rfl rfl rfl hd_X5_isProgram ⟨Nat.le_of_ble_eq_true rfl, Nat.le_of_ble_eq_true rfl⟩ rfl rfl rfl rfl dX5_firstCase_12 rfl (Nat.le_of_ble_eq_true rfl) ⟨Nat.le_of_ble_eq_true rfl, Nat.le_of_ble_eq_true rfl⟩) ?_
    refine j_eq (pc' := 15) (L' := [(0, .ref m0), (1, .int (nI k)), (2, .int (nI k2)), (3, .int a), (4, .int b)]) (st' := [.int (jb true), .ref m0, .ref m0]) (ws' := [(m0, .inr (4, [.int th, .int (nI N), .ref tb, .ref md, .ref rw0, .int sz, .ref cs, .ref va, .int lk, .ref rn, .ref kp]))]) ?_ rfl rfl (by rw [jBt_n hk2 (by omega)]) rfl
    refine j_if_eq (tgt := 22) C dX5_firstCase_15 (by decide) (fun c_2 => ?_) (fun c_2 => ?_)
    · skip
      have c_2 : true = false := jb_0 c_2
      (first | exact absurd c_2 (by decide) | exact absurd c_2 (by omega) | simp_all)
    · skip
      have c_2 : true = true := jb_1 c_2
      refine j_iconst (v := 1) C dX5_firstCase_18 rfl ?_
      refine j_goto (tgt := 23) C dX5_firstCase_19 (by decide) ?_
      refine j_iload_n 3 C dX5_firstCase_23 rfl rfl ?_
      refine j_iload 4 C dX5_firstCase_24 rfl ?_
      refine j_callRi (v := 2) (j_runV (ci := 0) (As := [.int 1, .int a, .int b]) (rest := [.ref m0]) [] C (c_X5_whyCases_2 l g m0 a b (by omega)) gX5_firstCase_X5_whyCases rfl rfl rfl hd_X5_whyCases ⟨Nat.le_of_ble_eq_true rfl, Nat.le_of_ble_eq_true rfl⟩ rfl rfl rfl rfl dX5_firstCase_26 rfl (Nat.le_of_ble_eq_true rfl) ⟨Nat.le_of_ble_eq_true rfl, Nat.le_of_ble_eq_true rfl⟩) ?_
      refine j_put (Cn := RX5) (T := TX5) (N := 11) (ws' := [(m0, .inr (4, [.int 2, .int (nI N), .ref tb, .ref md, .ref rw0, .int sz, .ref cs, .ref va, .int lk, .ref rn, .ref kp]))]) tyX5 0 0 C dX5_firstCase_29 hin_X5_firstCase_X5 tyX5_ok nmX5 rfl rfl (by decide) (List.mem_of_getElem? (i := 1) rfl) rfl (tyX5_ok 0 (by decide)) rfl rfl (Nat.le_of_ble_eq_true rfl) rfl ?_
      refine j_aload_n 0 C dX5_firstCase_32 rfl rfl ?_
      refine j_get (Cn := RX5) (T := TX5) (N := 11) 0 0 C dX5_firstCase_33 hin_X5_firstCase_X5 rfl rfl (by decide) (List.mem_of_getElem? (i := 1) rfl) rfl ?_
      refine j_if_eq (tgt := 41) C dX5_firstCase_36 (by decide) (fun c_3 => ?_) (fun c_3 => ?_)
      · skip
        exact absurd c_3 (by decide)
      · skip
        refine j_iconst (v := 0) C dX5_firstCase_39 rfl ?_
        exact j_iretW (v := 0) C hr dX5_firstCase_40 () rfl rfl
set_option maxHeartbeats 4000000 in
set_option maxRecDepth 100000 in
theorem c_X5_firstCase_3 (l : Launch) (g : jG) (m0 : Nat) (th : Int32) (N tb md rw0 : Nat) (sz : Int32) (cs va : Nat) (lk : Int32) (rn kp : Nat) (k k2 : Nat) (hk : k < N) (hk2 : k2 < N) (hN : N ≤ 10)  : jWi l yX5_firstCase wsX5_firstCase ({ frames := 5, cells := 0, slots := 0, locals := 223 }) g [.ref m0, .int (nI k), .int (nI k2), .int 6, .int 4] [(m0, .inr (4, [.int th, .int (nI N), .ref tb, .ref md, .ref rw0, .int sz, .ref cs, .ref va, .int lk, .ref rn, .ref kp]))] [(m0, .inr (4, [.int 2, .int (nI N), .ref tb, .ref md, .ref rw0, .int sz, .ref cs, .ref va, .int lk, .ref rn, .ref kp]))] 0 := by
  refine j_enterW (Qc := fun sz_ => va_Qi (fun r (_ : Unit) => r = 0) (fun _ t => va_P g.1 vwCl [(m0, .inr (4, [.int 2, .int (nI N), .ref tb, .ref md, .ref rw0, .int sz, .ref cs, .ref va, .int lk, .ref rn, .ref kp]))] t.heap) (va_A [(m0, .inr (4, [.int th, .int (nI N), .ref tb, .ref md, .ref rw0, .int sz, .ref cs, .ref va, .int lk, .ref rn, .ref kp]))] sz_)) (cc := cX5_firstCase) (maxL := 6) (ret := (some .int)) (own := RX5) (L := [(0, .ref m0), (1, .int (nI k)), (2, .int (nI k2)), (3, .int 6), (4, .int 4)]) (by decide) rfl rfl (Nat.le_of_ble_eq_true rfl) rfl (fun p e s m args below meth c C hr => ?_)
  refine j_aload_n 0 C dX5_firstCase_0 rfl rfl ?_
  refine j_aload_n 0 C dX5_firstCase_1 rfl rfl ?_
  refine j_aload_n 0 C dX5_firstCase_2 rfl rfl ?_
  refine j_iload_n 1 C dX5_firstCase_3 rfl rfl ?_
  refine j_callRi (v := jb (jBt (nI k) 0 ((nI N) - 1))) (j_runV (ci := 0) (As := [.int (nI k)]) (rest := [.ref m0, .ref m0]) [0] C (c_X5_isProgram l g m0 th (nI N) tb md rw0 sz cs va lk rn kp (nI k)) gX5_firstCase_X5_isProgram rfl rfl rfl hd_X5_isProgram ⟨Nat.le_of_ble_eq_true rfl, Nat.le_of_ble_eq_true rfl⟩ rfl rfl rfl rfl dX5_firstCase_4 rfl (Nat.le_of_ble_eq_true rfl) ⟨Nat.le_of_ble_eq_true rfl, Nat.le_of_ble_eq_true rfl⟩) ?_
  refine j_eq (pc' := 7) (L' := [(0, .ref m0), (1, .int (nI k)), (2, .int (nI k2)), (3, .int 6), (4, .int 4)]) (st' := [.int (jb true), .ref m0, .ref m0]) (ws' := [(m0, .inr (4, [.int th, .int (nI N), .ref tb, .ref md, .ref rw0, .int sz, .ref cs, .ref va, .int lk, .ref rn, .ref kp]))]) ?_ rfl rfl (by rw [jBt_n hk (by omega)]) rfl
  refine j_if_eq (tgt := 22) C dX5_firstCase_7 (by decide) (fun c_1 => ?_) (fun c_1 => ?_)
  · skip
    have c_1 : true = false := jb_0 c_1
    (first | exact absurd c_1 (by decide) | exact absurd c_1 (by omega) | simp_all)
  · skip
    have c_1 : true = true := jb_1 c_1
    refine j_aload_n 0 C dX5_firstCase_10 rfl rfl ?_
    refine j_iload_n 2 C dX5_firstCase_11 rfl rfl ?_
    refine j_callRi (v := jb (jBt (nI k2) 0 ((nI N) - 1))) (j_runV (ci := 0) (As := [.int (nI k2)]) (rest := [.ref m0, .ref m0]) [0] C (c_X5_isProgram l g m0 th (nI N) tb md rw0 sz cs va lk rn kp (nI k2)) gX5_firstCase_X5_isProgram rfl rfl rfl hd_X5_isProgram ⟨Nat.le_of_ble_eq_true rfl, Nat.le_of_ble_eq_true rfl⟩ rfl rfl rfl rfl dX5_firstCase_12 rfl (Nat.le_of_ble_eq_true rfl) ⟨Nat.le_of_ble_eq_true rfl, Nat.le_of_ble_eq_true rfl⟩) ?_
    refine j_eq (pc' := 15) (L' := [(0, .ref m0), (1, .int (nI k)), (2, .int (nI k2)), (3, .int 6), (4, .int 4)]) (st' := [.int (jb true), .ref m0, .ref m0]) (ws' := [(m0, .inr (4, [.int th, .int (nI N), .ref tb, .ref md, .ref rw0, .int sz, .ref cs, .ref va, .int lk, .ref rn, .ref kp]))]) ?_ rfl rfl (by rw [jBt_n hk2 (by omega)]) rfl
    refine j_if_eq (tgt := 22) C dX5_firstCase_15 (by decide) (fun c_2 => ?_) (fun c_2 => ?_)
    · skip
      have c_2 : true = false := jb_0 c_2
      (first | exact absurd c_2 (by decide) | exact absurd c_2 (by omega) | simp_all)
    · skip
      have c_2 : true = true := jb_1 c_2
      refine j_iconst (v := 1) C dX5_firstCase_18 rfl ?_
      refine j_goto (tgt := 23) C dX5_firstCase_19 (by decide) ?_
      refine j_iload_n 3 C dX5_firstCase_23 rfl rfl ?_
      refine j_iload 4 C dX5_firstCase_24 rfl ?_
      refine j_callRi (v := 2) (j_runV (ci := 0) (As := [.int 1, .int 6, .int 4]) (rest := [.ref m0]) [] C (c_X5_whyCases_3 l g m0) gX5_firstCase_X5_whyCases rfl rfl rfl hd_X5_whyCases ⟨Nat.le_of_ble_eq_true rfl, Nat.le_of_ble_eq_true rfl⟩ rfl rfl rfl rfl dX5_firstCase_26 rfl (Nat.le_of_ble_eq_true rfl) ⟨Nat.le_of_ble_eq_true rfl, Nat.le_of_ble_eq_true rfl⟩) ?_
      refine j_put (Cn := RX5) (T := TX5) (N := 11) (ws' := [(m0, .inr (4, [.int 2, .int (nI N), .ref tb, .ref md, .ref rw0, .int sz, .ref cs, .ref va, .int lk, .ref rn, .ref kp]))]) tyX5 0 0 C dX5_firstCase_29 hin_X5_firstCase_X5 tyX5_ok nmX5 rfl rfl (by decide) (List.mem_of_getElem? (i := 1) rfl) rfl (tyX5_ok 0 (by decide)) rfl rfl (Nat.le_of_ble_eq_true rfl) rfl ?_
      refine j_aload_n 0 C dX5_firstCase_32 rfl rfl ?_
      refine j_get (Cn := RX5) (T := TX5) (N := 11) 0 0 C dX5_firstCase_33 hin_X5_firstCase_X5 rfl rfl (by decide) (List.mem_of_getElem? (i := 1) rfl) rfl ?_
      refine j_if_eq (tgt := 41) C dX5_firstCase_36 (by decide) (fun c_3 => ?_) (fun c_3 => ?_)
      · skip
        exact absurd c_3 (by decide)
      · skip
        refine j_iconst (v := 0) C dX5_firstCase_39 rfl ?_
        exact j_iretW (v := 0) C hr dX5_firstCase_40 () rfl rfl
set_option maxHeartbeats 4000000 in
set_option maxRecDepth 100000 in
theorem c_X5_cost_p (l : Launch) (g : jG) (m0 : Nat) (th : Int32) (N tb md rw0 : Nat) (sz : Int32) (cs va : Nat) (lk : Int32) (rn kp : Nat) (x a b : Int32) (ob : Bool) (hx : jBt x 0 (nI N - 1) = false) : jWi l yX5_cost wsX5_cost ({ frames := 5, cells := 0, slots := 0, locals := 223 }) g [.ref m0, .int x, .int a, .int b, .int (jb ob)] [(m0, .inr (4, [.int th, .int (nI N), .ref tb, .ref md, .ref rw0, .int sz, .ref cs, .ref va, .int lk, .ref rn, .ref kp]))] [(m0, .inr (4, [.int 1, .int (nI N), .ref tb, .ref md, .ref rw0, .int sz, .ref cs, .ref va, .int lk, .ref rn, .ref kp]))] 0 := by
  refine j_enterW (Qc := fun sz_ => va_Qi (fun r (_ : Unit) => r = 0) (fun _ t => va_P g.1 vwCl [(m0, .inr (4, [.int 1, .int (nI N), .ref tb, .ref md, .ref rw0, .int sz, .ref cs, .ref va, .int lk, .ref rn, .ref kp]))] t.heap) (va_A [(m0, .inr (4, [.int th, .int (nI N), .ref tb, .ref md, .ref rw0, .int sz, .ref cs, .ref va, .int lk, .ref rn, .ref kp]))] sz_)) (cc := cX5_cost) (maxL := 7) (ret := (some .int)) (own := RX5) (L := [(0, .ref m0), (1, .int x), (2, .int a), (3, .int b), (4, .int (jb ob))]) (by decide) rfl rfl (Nat.le_of_ble_eq_true rfl) rfl (fun p e s m args below meth c C hr => ?_)
  refine j_aload_n 0 C dX5_cost_0 rfl rfl ?_
  refine j_aload_n 0 C dX5_cost_1 rfl rfl ?_
  refine j_aload_n 0 C dX5_cost_2 rfl rfl ?_
  refine j_iload_n 1 C dX5_cost_3 rfl rfl ?_
  refine j_callRi (v := jb (jBt x 0 ((nI N) - 1))) (j_runV (ci := 0) (As := [.int x]) (rest := [.ref m0, .ref m0]) [0] C (c_X5_isProgram l g m0 th (nI N) tb md rw0 sz cs va lk rn kp x) gX5_cost_X5_isProgram rfl rfl rfl hd_X5_isProgram ⟨Nat.le_of_ble_eq_true rfl, Nat.le_of_ble_eq_true rfl⟩ rfl rfl rfl rfl dX5_cost_4 rfl (Nat.le_of_ble_eq_true rfl) ⟨Nat.le_of_ble_eq_true rfl, Nat.le_of_ble_eq_true rfl⟩) ?_
  refine j_eq (pc' := 7) (L' := [(0, .ref m0), (1, .int x), (2, .int a), (3, .int b), (4, .int (jb ob))]) (st' := [.int (jb false), .ref m0, .ref m0]) (ws' := [(m0, .inr (4, [.int th, .int (nI N), .ref tb, .ref md, .ref rw0, .int sz, .ref cs, .ref va, .int lk, .ref rn, .ref kp]))]) ?_ rfl rfl (by rw [hx]) rfl
  refine j_iload_n 2 C dX5_cost_7 rfl rfl ?_
  refine j_iload_n 3 C dX5_cost_8 rfl rfl ?_
  refine j_callRi (v := 1) (j_runV (ci := 0) (As := [.int (jb false), .int a, .int b]) (rest := [.ref m0]) [] C (c_X5_whyCases_n l g m0 a b) gX5_cost_X5_whyCases rfl rfl rfl hd_X5_whyCases ⟨Nat.le_of_ble_eq_true rfl, Nat.le_of_ble_eq_true rfl⟩ rfl rfl rfl rfl dX5_cost_9 rfl (Nat.le_of_ble_eq_true rfl) ⟨Nat.le_of_ble_eq_true rfl, Nat.le_of_ble_eq_true rfl⟩) ?_
  refine j_put (Cn := RX5) (T := TX5) (N := 11) (ws' := [(m0, .inr (4, [.int 1, .int (nI N), .ref tb, .ref md, .ref rw0, .int sz, .ref cs, .ref va, .int lk, .ref rn, .ref kp]))]) tyX5 0 0 C dX5_cost_12 hin_X5_cost_X5 tyX5_ok nmX5 rfl rfl (by decide) (List.mem_of_getElem? (i := 1) rfl) rfl (tyX5_ok 0 (by decide)) rfl rfl (Nat.le_of_ble_eq_true rfl) rfl ?_
  refine j_aload_n 0 C dX5_cost_15 rfl rfl ?_
  refine j_get (Cn := RX5) (T := TX5) (N := 11) 0 0 C dX5_cost_16 hin_X5_cost_X5 rfl rfl (by decide) (List.mem_of_getElem? (i := 1) rfl) rfl ?_
  refine j_if_eq (tgt := 24) C dX5_cost_19 (by decide) (fun c_1 => ?_) (fun c_1 => ?_)
  · skip
    exact absurd c_1 (by decide)
  · skip
    refine j_iconst (v := 0) C dX5_cost_22 rfl ?_
    exact j_iretW (v := 0) C hr dX5_cost_23 () rfl rfl
set_option maxHeartbeats 4000000 in
set_option maxRecDepth 100000 in
theorem c_X5_cost_1 (l : Launch) (g : jG) (m0 : Nat) (th : Int32) (N tb md rw0 : Nat) (sz : Int32) (cs va : Nat) (lk : Int32) (rn kp : Nat) (k : Nat) (a b : Int32) (ob : Bool) (hk : k < N) (hN : N ≤ 10) (h1 : jBt a 0 6 = false) : jWi l yX5_cost wsX5_cost ({ frames := 5, cells := 0, slots := 0, locals := 223 }) g [.ref m0, .int (nI k), .int a, .int b, .int (jb ob)] [(m0, .inr (4, [.int th, .int (nI N), .ref tb, .ref md, .ref rw0, .int sz, .ref cs, .ref va, .int lk, .ref rn, .ref kp]))] [(m0, .inr (4, [.int 2, .int (nI N), .ref tb, .ref md, .ref rw0, .int sz, .ref cs, .ref va, .int lk, .ref rn, .ref kp]))] 0 := by
  refine j_enterW (Qc := fun sz_ => va_Qi (fun r (_ : Unit) => r = 0) (fun _ t => va_P g.1 vwCl [(m0, .inr (4, [.int 2, .int (nI N), .ref tb, .ref md, .ref rw0, .int sz, .ref cs, .ref va, .int lk, .ref rn, .ref kp]))] t.heap) (va_A [(m0, .inr (4, [.int th, .int (nI N), .ref tb, .ref md, .ref rw0, .int sz, .ref cs, .ref va, .int lk, .ref rn, .ref kp]))] sz_)) (cc := cX5_cost) (maxL := 7) (ret := (some .int)) (own := RX5) (L := [(0, .ref m0), (1, .int (nI k)), (2, .int a), (3, .int b), (4, .int (jb ob))]) (by decide) rfl rfl (Nat.le_of_ble_eq_true rfl) rfl (fun p e s m args below meth c C hr => ?_)
  refine j_aload_n 0 C dX5_cost_0 rfl rfl ?_
  refine j_aload_n 0 C dX5_cost_1 rfl rfl ?_
  refine j_aload_n 0 C dX5_cost_2 rfl rfl ?_
  refine j_iload_n 1 C dX5_cost_3 rfl rfl ?_
  refine j_callRi (v := jb (jBt (nI k) 0 ((nI N) - 1))) (j_runV (ci := 0) (As := [.int (nI k)]) (rest := [.ref m0, .ref m0]) [0] C (c_X5_isProgram l g m0 th (nI N) tb md rw0 sz cs va lk rn kp (nI k)) gX5_cost_X5_isProgram rfl rfl rfl hd_X5_isProgram ⟨Nat.le_of_ble_eq_true rfl, Nat.le_of_ble_eq_true rfl⟩ rfl rfl rfl rfl dX5_cost_4 rfl (Nat.le_of_ble_eq_true rfl) ⟨Nat.le_of_ble_eq_true rfl, Nat.le_of_ble_eq_true rfl⟩) ?_
  refine j_eq (pc' := 7) (L' := [(0, .ref m0), (1, .int (nI k)), (2, .int a), (3, .int b), (4, .int (jb ob))]) (st' := [.int (jb true), .ref m0, .ref m0]) (ws' := [(m0, .inr (4, [.int th, .int (nI N), .ref tb, .ref md, .ref rw0, .int sz, .ref cs, .ref va, .int lk, .ref rn, .ref kp]))]) ?_ rfl rfl (by rw [jBt_n hk (by omega)]) rfl
  refine j_iload_n 2 C dX5_cost_7 rfl rfl ?_
  refine j_iload_n 3 C dX5_cost_8 rfl rfl ?_
  refine j_callRi (v := 2) (j_runV (ci := 0) (As := [.int (jb true), .int a, .int b]) (rest := [.ref m0]) [] C (c_X5_whyCases_1 l g m0 a b (by omega)) gX5_cost_X5_whyCases rfl rfl rfl hd_X5_whyCases ⟨Nat.le_of_ble_eq_true rfl, Nat.le_of_ble_eq_true rfl⟩ rfl rfl rfl rfl dX5_cost_9 rfl (Nat.le_of_ble_eq_true rfl) ⟨Nat.le_of_ble_eq_true rfl, Nat.le_of_ble_eq_true rfl⟩) ?_
  refine j_put (Cn := RX5) (T := TX5) (N := 11) (ws' := [(m0, .inr (4, [.int 2, .int (nI N), .ref tb, .ref md, .ref rw0, .int sz, .ref cs, .ref va, .int lk, .ref rn, .ref kp]))]) tyX5 0 0 C dX5_cost_12 hin_X5_cost_X5 tyX5_ok nmX5 rfl rfl (by decide) (List.mem_of_getElem? (i := 1) rfl) rfl (tyX5_ok 0 (by decide)) rfl rfl (Nat.le_of_ble_eq_true rfl) rfl ?_
  refine j_aload_n 0 C dX5_cost_15 rfl rfl ?_
  refine j_get (Cn := RX5) (T := TX5) (N := 11) 0 0 C dX5_cost_16 hin_X5_cost_X5 rfl rfl (by decide) (List.mem_of_getElem? (i := 1) rfl) rfl ?_
  refine j_if_eq (tgt := 24) C dX5_cost_19 (by decide) (fun c_1 => ?_) (fun c_1 => ?_)
  · skip
    exact absurd c_1 (by decide)
  · skip
    refine j_iconst (v := 0) C dX5_cost_22 rfl ?_
    exact j_iretW (v := 0) C hr dX5_cost_23 () rfl rfl
set_option maxHeartbeats 4000000 in
set_option maxRecDepth 100000 in
theorem c_X5_cost_2 (l : Launch) (g : jG) (m0 : Nat) (th : Int32) (N tb md rw0 : Nat) (sz : Int32) (cs va : Nat) (lk : Int32) (rn kp : Nat) (k : Nat) (a b : Int32) (ob : Bool) (hk : k < N) (hN : N ≤ 10) (h2 : jBt b 1 4 = false) : jWi l yX5_cost wsX5_cost ({ frames := 5, cells := 0, slots := 0, locals := 223 }) g [.ref m0, .int (nI k), .int a, .int b, .int (jb ob)] [(m0, .inr (4, [.int th, .int (nI N), .ref tb, .ref md, .ref rw0, .int sz, .ref cs, .ref va, .int lk, .ref rn, .ref kp]))] [(m0, .inr (4, [.int 2, .int (nI N), .ref tb, .ref md, .ref rw0, .int sz, .ref cs, .ref va, .int lk, .ref rn, .ref kp]))] 0 := by
  refine j_enterW (Qc := fun sz_ => va_Qi (fun r (_ : Unit) => r = 0) (fun _ t => va_P g.1 vwCl [(m0, .inr (4, [.int 2, .int (nI N), .ref tb, .ref md, .ref rw0, .int sz, .ref cs, .ref va, .int lk, .ref rn, .ref kp]))] t.heap) (va_A [(m0, .inr (4, [.int th, .int (nI N), .ref tb, .ref md, .ref rw0, .int sz, .ref cs, .ref va, .int lk, .ref rn, .ref kp]))] sz_)) (cc := cX5_cost) (maxL := 7) (ret := (some .int)) (own := RX5) (L := [(0, .ref m0), (1, .int (nI k)), (2, .int a), (3, .int b), (4, .int (jb ob))]) (by decide) rfl rfl (Nat.le_of_ble_eq_true rfl) rfl (fun p e s m args below meth c C hr => ?_)
  refine j_aload_n 0 C dX5_cost_0 rfl rfl ?_
  refine j_aload_n 0 C dX5_cost_1 rfl rfl ?_
  refine j_aload_n 0 C dX5_cost_2 rfl rfl ?_
  refine j_iload_n 1 C dX5_cost_3 rfl rfl ?_
  refine j_callRi (v := jb (jBt (nI k) 0 ((nI N) - 1))) (j_runV (ci := 0) (As := [.int (nI k)]) (rest := [.ref m0, .ref m0]) [0] C (c_X5_isProgram l g m0 th (nI N) tb md rw0 sz cs va lk rn kp (nI k)) gX5_cost_X5_isProgram rfl rfl rfl hd_X5_isProgram ⟨Nat.le_of_ble_eq_true rfl, Nat.le_of_ble_eq_true rfl⟩ rfl rfl rfl rfl dX5_cost_4 rfl (Nat.le_of_ble_eq_true rfl) ⟨Nat.le_of_ble_eq_true rfl, Nat.le_of_ble_eq_true rfl⟩) ?_
  refine j_eq (pc' := 7) (L' := [(0, .ref m0), (1, .int (nI k)), (2, .int a), (3, .int b), (4, .int (jb ob))]) (st' := [.int (jb true), .ref m0, .ref m0]) (ws' := [(m0, .inr (4, [.int th, .int (nI N), .ref tb, .ref md, .ref rw0, .int sz, .ref cs, .ref va, .int lk, .ref rn, .ref kp]))]) ?_ rfl rfl (by rw [jBt_n hk (by omega)]) rfl
  refine j_iload_n 2 C dX5_cost_7 rfl rfl ?_
  refine j_iload_n 3 C dX5_cost_8 rfl rfl ?_
  refine j_callRi (v := 2) (j_runV (ci := 0) (As := [.int (jb true), .int a, .int b]) (rest := [.ref m0]) [] C (c_X5_whyCases_2 l g m0 a b (by omega)) gX5_cost_X5_whyCases rfl rfl rfl hd_X5_whyCases ⟨Nat.le_of_ble_eq_true rfl, Nat.le_of_ble_eq_true rfl⟩ rfl rfl rfl rfl dX5_cost_9 rfl (Nat.le_of_ble_eq_true rfl) ⟨Nat.le_of_ble_eq_true rfl, Nat.le_of_ble_eq_true rfl⟩) ?_
  refine j_put (Cn := RX5) (T := TX5) (N := 11) (ws' := [(m0, .inr (4, [.int 2, .int (nI N), .ref tb, .ref md, .ref rw0, .int sz, .ref cs, .ref va, .int lk, .ref rn, .ref kp]))]) tyX5 0 0 C dX5_cost_12 hin_X5_cost_X5 tyX5_ok nmX5 rfl rfl (by decide) (List.mem_of_getElem? (i := 1) rfl) rfl (tyX5_ok 0 (by decide)) rfl rfl (Nat.le_of_ble_eq_true rfl) rfl ?_
  refine j_aload_n 0 C dX5_cost_15 rfl rfl ?_
  refine j_get (Cn := RX5) (T := TX5) (N := 11) 0 0 C dX5_cost_16 hin_X5_cost_X5 rfl rfl (by decide) (List.mem_of_getElem? (i := 1) rfl) rfl ?_
  refine j_if_eq (tgt := 24) C dX5_cost_19 (by decide) (fun c_1 => ?_) (fun c_1 => ?_)
  · skip
    exact absurd c_1 (by decide)
  · skip
    refine j_iconst (v := 0) C dX5_cost_22 rfl ?_
    exact j_iretW (v := 0) C hr dX5_cost_23 () rfl rfl
set_option maxHeartbeats 4000000 in
set_option maxRecDepth 100000 in
theorem c_X5_cost_3 (l : Launch) (g : jG) (m0 : Nat) (th : Int32) (N tb md rw0 : Nat) (sz : Int32) (cs va : Nat) (lk : Int32) (rn kp : Nat) (k : Nat) (ob : Bool) (hk : k < N) (hN : N ≤ 10)  : jWi l yX5_cost wsX5_cost ({ frames := 5, cells := 0, slots := 0, locals := 223 }) g [.ref m0, .int (nI k), .int 6, .int 4, .int (jb ob)] [(m0, .inr (4, [.int th, .int (nI N), .ref tb, .ref md, .ref rw0, .int sz, .ref cs, .ref va, .int lk, .ref rn, .ref kp]))] [(m0, .inr (4, [.int 2, .int (nI N), .ref tb, .ref md, .ref rw0, .int sz, .ref cs, .ref va, .int lk, .ref rn, .ref kp]))] 0 := by
  refine j_enterW (Qc := fun sz_ => va_Qi (fun r (_ : Unit) => r = 0) (fun _ t => va_P g.1 vwCl [(m0, .inr (4, [.int 2, .int (nI N), .ref tb, .ref md, .ref rw0, .int sz, .ref cs, .ref va, .int lk, .ref rn, .ref kp]))] t.heap) (va_A [(m0, .inr (4, [.int th, .int (nI N), .ref tb, .ref md, .ref rw0, .int sz, .ref cs, .ref va, .int lk, .ref rn, .ref kp]))] sz_)) (cc := cX5_cost) (maxL := 7) (ret := (some .int)) (own := RX5) (L := [(0, .ref m0), (1, .int (nI k)), (2, .int 6), (3, .int 4), (4, .int (jb ob))]) (by decide) rfl rfl (Nat.le_of_ble_eq_true rfl) rfl (fun p e s m args below meth c C hr => ?_)
  refine j_aload_n 0 C dX5_cost_0 rfl rfl ?_
  refine j_aload_n 0 C dX5_cost_1 rfl rfl ?_
  refine j_aload_n 0 C dX5_cost_2 rfl rfl ?_
  refine j_iload_n 1 C dX5_cost_3 rfl rfl ?_
  refine j_callRi (v := jb (jBt (nI k) 0 ((nI N) - 1))) (j_runV (ci := 0) (As := [.int (nI k)]) (rest := [.ref m0, .ref m0]) [0] C (c_X5_isProgram l g m0 th (nI N) tb md rw0 sz cs va lk rn kp (nI k)) gX5_cost_X5_isProgram rfl rfl rfl hd_X5_isProgram ⟨Nat.le_of_ble_eq_true rfl, Nat.le_of_ble_eq_true rfl⟩ rfl rfl rfl rfl dX5_cost_4 rfl (Nat.le_of_ble_eq_true rfl) ⟨Nat.le_of_ble_eq_true rfl, Nat.le_of_ble_eq_true rfl⟩) ?_
  refine j_eq (pc' := 7) (L' := [(0, .ref m0), (1, .int (nI k)), (2, .int 6), (3, .int 4), (4, .int (jb ob))]) (st' := [.int (jb true), .ref m0, .ref m0]) (ws' := [(m0, .inr (4, [.int th, .int (nI N), .ref tb, .ref md, .ref rw0, .int sz, .ref cs, .ref va, .int lk, .ref rn, .ref kp]))]) ?_ rfl rfl (by rw [jBt_n hk (by omega)]) rfl
  refine j_iload_n 2 C dX5_cost_7 rfl rfl ?_
  refine j_iload_n 3 C dX5_cost_8 rfl rfl ?_
  refine j_callRi (v := 2) (j_runV (ci := 0) (As := [.int (jb true), .int 6, .int 4]) (rest := [.ref m0]) [] C (c_X5_whyCases_3 l g m0) gX5_cost_X5_whyCases rfl rfl rfl hd_X5_whyCases ⟨Nat.le_of_ble_eq_true rfl, Nat.le_of_ble_eq_true rfl⟩ rfl rfl rfl rfl dX5_cost_9 rfl (Nat.le_of_ble_eq_true rfl) ⟨Nat.le_of_ble_eq_true rfl, Nat.le_of_ble_eq_true rfl⟩) ?_
  refine j_put (Cn := RX5) (T := TX5) (N := 11) (ws' := [(m0, .inr (4, [.int 2, .int (nI N), .ref tb, .ref md, .ref rw0, .int sz, .ref cs, .ref va, .int lk, .ref rn, .ref kp]))]) tyX5 0 0 C dX5_cost_12 hin_X5_cost_X5 tyX5_ok nmX5 rfl rfl (by decide) (List.mem_of_getElem? (i := 1) rfl) rfl (tyX5_ok 0 (by decide)) rfl rfl (Nat.le_of_ble_eq_true rfl) rfl ?_
  refine j_aload_n 0 C dX5_cost_15 rfl rfl ?_
  refine j_get (Cn := RX5) (T := TX5) (N := 11) 0 0 C dX5_cost_16 hin_X5_cost_X5 rfl rfl (by decide) (List.mem_of_getElem? (i := 1) rfl) rfl ?_
  refine j_if_eq (tgt := 24) C dX5_cost_19 (by decide) (fun c_1 => ?_) (fun c_1 => ?_)
  · skip
    exact absurd c_1 (by decide)
  · skip
    refine j_iconst (v := 0) C dX5_cost_22 rfl ?_
    exact j_iretW (v := 0) C hr dX5_cost_23 () rfl rfl
set_option maxHeartbeats 4000000 in
set_option maxRecDepth 100000 in
theorem c_X5_exits_p (l : Launch) (g : jG) (m0 : Nat) (th : Int32) (N tb md rw0 : Nat) (sz : Int32) (cs va : Nat) (lk : Int32) (rn kp : Nat) (x a b : Int32) (hx : jBt x 0 (nI N - 1) = false) : jWd l yX5_exits wsX5_exits ({ frames := 5, cells := 0, slots := 0, locals := 223 }) g [.ref m0, .int x, .int a, .int b] [(m0, .inr (4, [.int th, .int (nI N), .ref tb, .ref md, .ref rw0, .int sz, .ref cs, .ref va, .int lk, .ref rn, .ref kp]))] [(m0, .inr (4, [.int 1, .int (nI N), .ref tb, .ref md, .ref rw0, .int sz, .ref cs, .ref va, .int lk, .ref rn, .ref kp]))] FP.dconst0 := by
  refine j_enterW (Qc := fun sz_ => va_Qd (fun r (_ : Unit) => r = FP.dconst0) (fun _ t => va_P g.1 vwCl [(m0, .inr (4, [.int 1, .int (nI N), .ref tb, .ref md, .ref rw0, .int sz, .ref cs, .ref va, .int lk, .ref rn, .ref kp]))] t.heap) (va_A [(m0, .inr (4, [.int th, .int (nI N), .ref tb, .ref md, .ref rw0, .int sz, .ref cs, .ref va, .int lk, .ref rn, .ref kp]))] sz_)) (cc := cX5_exits) (maxL := 6) (ret := (some .double)) (own := RX5) (L := [(0, .ref m0), (1, .int x), (2, .int a), (3, .int b)]) (by decide) rfl rfl (Nat.le_of_ble_eq_true rfl) rfl (fun p e s m args below meth c C hr => ?_)
  refine j_aload_n 0 C dX5_exits_0 rfl rfl ?_
  refine j_aload_n 0 C dX5_exits_1 rfl rfl ?_
  refine j_aload_n 0 C dX5_exits_2 rfl rfl ?_
  refine j_iload_n 1 C dX5_exits_3 rfl rfl ?_
  refine j_callRi (v := jb (jBt x 0 ((nI N) - 1))) (j_runV (ci := 0) (As := [.int x]) (rest := [.ref m0, .ref m0]) [0] C (c_X5_isProgram l g m0 th (nI N) tb md rw0 sz cs va lk rn kp x) gX5_exits_X5_isProgram rfl rfl rfl hd_X5_isProgram ⟨Nat.le_of_ble_eq_true rfl, Nat.le_of_ble_eq_true rfl⟩ rfl rfl rfl rfl dX5_exits_4 rfl (Nat.le_of_ble_eq_true rfl) ⟨Nat.le_of_ble_eq_true rfl, Nat.le_of_ble_eq_true rfl⟩) ?_
  refine j_eq (pc' := 7) (L' := [(0, .ref m0), (1, .int x), (2, .int a), (3, .int b)]) (st' := [.int (jb false), .ref m0, .ref m0]) (ws' := [(m0, .inr (4, [.int th, .int (nI N), .ref tb, .ref md, .ref rw0, .int sz, .ref cs, .ref va, .int lk, .ref rn, .ref kp]))]) ?_ rfl rfl (by rw [hx]) rfl
  refine j_iload_n 2 C dX5_exits_7 rfl rfl ?_
  refine j_iload_n 3 C dX5_exits_8 rfl rfl ?_
  refine j_callRi (v := 1) (j_runV (ci := 0) (As := [.int (jb false), .int a, .int b]) (rest := [.ref m0]) [] C (c_X5_whyCases_n l g m0 a b) gX5_exits_X5_whyCases rfl rfl rfl hd_X5_whyCases ⟨Nat.le_of_ble_eq_true rfl, Nat.le_of_ble_eq_true rfl⟩ rfl rfl rfl rfl dX5_exits_9 rfl (Nat.le_of_ble_eq_true rfl) ⟨Nat.le_of_ble_eq_true rfl, Nat.le_of_ble_eq_true rfl⟩) ?_
  refine j_put (Cn := RX5) (T := TX5) (N := 11) (ws' := [(m0, .inr (4, [.int 1, .int (nI N), .ref tb, .ref md, .ref rw0, .int sz, .ref cs, .ref va, .int lk, .ref rn, .ref kp]))]) tyX5 0 0 C dX5_exits_12 hin_X5_exits_X5 tyX5_ok nmX5 rfl rfl (by decide) (List.mem_of_getElem? (i := 1) rfl) rfl (tyX5_ok 0 (by decide)) rfl rfl (Nat.le_of_ble_eq_true rfl) rfl ?_
  refine j_aload_n 0 C dX5_exits_15 rfl rfl ?_
  refine j_get (Cn := RX5) (T := TX5) (N := 11) 0 0 C dX5_exits_16 hin_X5_exits_X5 rfl rfl (by decide) (List.mem_of_getElem? (i := 1) rfl) rfl ?_
  refine j_if_eq (tgt := 24) C dX5_exits_19 (by decide) (fun c_1 => ?_) (fun c_1 => ?_)
  · skip
    exact absurd c_1 (by decide)
  · skip
    refine j_dconst0 C dX5_exits_22 ?_
    exact j_dretW (v := FP.dconst0) C hr dX5_exits_23 () rfl rfl
set_option maxHeartbeats 4000000 in
set_option maxRecDepth 100000 in
theorem c_X5_exits_1 (l : Launch) (g : jG) (m0 : Nat) (th : Int32) (N tb md rw0 : Nat) (sz : Int32) (cs va : Nat) (lk : Int32) (rn kp : Nat) (k : Nat) (a b : Int32) (hk : k < N) (hN : N ≤ 10) (h1 : jBt a 0 6 = false) : jWd l yX5_exits wsX5_exits ({ frames := 5, cells := 0, slots := 0, locals := 223 }) g [.ref m0, .int (nI k), .int a, .int b] [(m0, .inr (4, [.int th, .int (nI N), .ref tb, .ref md, .ref rw0, .int sz, .ref cs, .ref va, .int lk, .ref rn, .ref kp]))] [(m0, .inr (4, [.int 2, .int (nI N), .ref tb, .ref md, .ref rw0, .int sz, .ref cs, .ref va, .int lk, .ref rn, .ref kp]))] FP.dconst0 := by
  refine j_enterW (Qc := fun sz_ => va_Qd (fun r (_ : Unit) => r = FP.dconst0) (fun _ t => va_P g.1 vwCl [(m0, .inr (4, [.int 2, .int (nI N), .ref tb, .ref md, .ref rw0, .int sz, .ref cs, .ref va, .int lk, .ref rn, .ref kp]))] t.heap) (va_A [(m0, .inr (4, [.int th, .int (nI N), .ref tb, .ref md, .ref rw0, .int sz, .ref cs, .ref va, .int lk, .ref rn, .ref kp]))] sz_)) (cc := cX5_exits) (maxL := 6) (ret := (some .double)) (own := RX5) (L := [(0, .ref m0), (1, .int (nI k)), (2, .int a), (3, .int b)]) (by decide) rfl rfl (Nat.le_of_ble_eq_true rfl) rfl (fun p e s m args below meth c C hr => ?_)
  refine j_aload_n 0 C dX5_exits_0 rfl rfl ?_
  refine j_aload_n 0 C dX5_exits_1 rfl rfl ?_
  refine j_aload_n 0 C dX5_exits_2 rfl rfl ?_
  refine j_iload_n 1 C dX5_exits_3 rfl rfl ?_
  refine j_callRi (v := jb (jBt (nI k) 0 ((nI N) - 1))) (j_runV (ci := 0) (As := [.int (nI k)]) (rest := [.ref m0, .ref m0]) [0] C (c_X5_isProgram l g m0 th (nI N) tb md rw0 sz cs va lk rn kp (nI k)) gX5_exits_X5_isProgram rfl rfl rfl hd_X5_isProgram ⟨Nat.le_of_ble_eq_true rfl, Nat.le_of_ble_eq_true rfl⟩ rfl rfl rfl rfl dX5_exits_4 rfl (Nat.le_of_ble_eq_true rfl) ⟨Nat.le_of_ble_eq_true rfl, Nat.le_of_ble_eq_true rfl⟩) ?_
  refine j_eq (pc' := 7) (L' := [(0, .ref m0), (1, .int (nI k)), (2, .int a), (3, .int b)]) (st' := [.int (jb true), .ref m0, .ref m0]) (ws' := [(m0, .inr (4, [.int th, .int (nI N), .ref tb, .ref md, .ref rw0, .int sz, .ref cs, .ref va, .int lk, .ref rn, .ref kp]))]) ?_ rfl rfl (by rw [jBt_n hk (by omega)]) rfl
  refine j_iload_n 2 C dX5_exits_7 rfl rfl ?_
  refine j_iload_n 3 C dX5_exits_8 rfl rfl ?_
  refine j_callRi (v := 2) (j_runV (ci := 0) (As := [.int (jb true), .int a, .int b]) (rest := [.ref m0]) [] C (c_X5_whyCases_1 l g m0 a b (by omega)) gX5_exits_X5_whyCases rfl rfl rfl hd_X5_whyCases ⟨Nat.le_of_ble_eq_true rfl, Nat.le_of_ble_eq_true rfl⟩ rfl rfl rfl rfl dX5_exits_9 rfl (Nat.le_of_ble_eq_true rfl) ⟨Nat.le_of_ble_eq_true rfl, Nat.le_of_ble_eq_true rfl⟩) ?_
  refine j_put (Cn := RX5) (T := TX5) (N := 11) (ws' := [(m0, .inr (4, [.int 2, .int (nI N), .ref tb, .ref md, .ref rw0, .int sz, .ref cs, .ref va, .int lk, .ref rn, .ref kp]))]) tyX5 0 0 C dX5_exits_12 hin_X5_exits_X5 tyX5_ok nmX5 rfl rfl (by decide) (List.mem_of_getElem? (i := 1) rfl) rfl (tyX5_ok 0 (by decide)) rfl rfl (Nat.le_of_ble_eq_true rfl) rfl ?_
  refine j_aload_n 0 C dX5_exits_15 rfl rfl ?_
  refine j_get (Cn := RX5) (T := TX5) (N := 11) 0 0 C dX5_exits_16 hin_X5_exits_X5 rfl rfl (by decide) (List.mem_of_getElem? (i := 1) rfl) rfl ?_
  refine j_if_eq (tgt := 24) C dX5_exits_19 (by decide) (fun c_1 => ?_) (fun c_1 => ?_)
  · skip
    exact absurd c_1 (by decide)
  · skip
    refine j_dconst0 C dX5_exits_22 ?_
    exact j_dretW (v := FP.dconst0) C hr dX5_exits_23 () rfl rfl
set_option maxHeartbeats 4000000 in
set_option maxRecDepth 100000 in
theorem c_X5_exits_2 (l : Launch) (g : jG) (m0 : Nat) (th : Int32) (N tb md rw0 : Nat) (sz : Int32) (cs va : Nat) (lk : Int32) (rn kp : Nat) (k : Nat) (a b : Int32) (hk : k < N) (hN : N ≤ 10) (h2 : jBt b 1 4 = false) : jWd l yX5_exits wsX5_exits ({ frames := 5, cells := 0, slots := 0, locals := 223 }) g [.ref m0, .int (nI k), .int a, .int b] [(m0, .inr (4, [.int th, .int (nI N), .ref tb, .ref md, .ref rw0, .int sz, .ref cs, .ref va, .int lk, .ref rn, .ref kp]))] [(m0, .inr (4, [.int 2, .int (nI N), .ref tb, .ref md, .ref rw0, .int sz, .ref cs, .ref va, .int lk, .ref rn, .ref kp]))] FP.dconst0 := by
  refine j_enterW (Qc := fun sz_ => va_Qd (fun r (_ : Unit) => r = FP.dconst0) (fun _ t => va_P g.1 vwCl [(m0, .inr (4, [.int 2, .int (nI N), .ref tb, .ref md, .ref rw0, .int sz, .ref cs, .ref va, .int lk, .ref rn, .ref kp]))] t.heap) (va_A [(m0, .inr (4, [.int th, .int (nI N), .ref tb, .ref md, .ref rw0, .int sz, .ref cs, .ref va, .int lk, .ref rn, .ref kp]))] sz_)) (cc := cX5_exits) (maxL := 6) (ret := (some .double)) (own := RX5) (L := [(0, .ref m0), (1, .int (nI k)), (2, .int a), (3, .int b)]) (by decide) rfl rfl (Nat.le_of_ble_eq_true rfl) rfl (fun p e s m args below meth c C hr => ?_)
  refine j_aload_n 0 C dX5_exits_0 rfl rfl ?_
  refine j_aload_n 0 C dX5_exits_1 rfl rfl ?_
  refine j_aload_n 0 C dX5_exits_2 rfl rfl ?_
  refine j_iload_n 1 C dX5_exits_3 rfl rfl ?_
  refine j_callRi (v := jb (jBt (nI k) 0 ((nI N) - 1))) (j_runV (ci := 0) (As := [.int (nI k)]) (rest := [.ref m0, .ref m0]) [0] C (c_X5_isProgram l g m0 th (nI N) tb md rw0 sz cs va lk rn kp (nI k)) gX5_exits_X5_isProgram rfl rfl rfl hd_X5_isProgram ⟨Nat.le_of_ble_eq_true rfl, Nat.le_of_ble_eq_true rfl⟩ rfl rfl rfl rfl dX5_exits_4 rfl (Nat.le_of_ble_eq_true rfl) ⟨Nat.le_of_ble_eq_true rfl, Nat.le_of_ble_eq_true rfl⟩) ?_
  refine j_eq (pc' := 7) (L' := [(0, .ref m0), (1, .int (nI k)), (2, .int a), (3, .int b)]) (st' := [.int (jb true), .ref m0, .ref m0]) (ws' := [(m0, .inr (4, [.int th, .int (nI N), .ref tb, .ref md, .ref rw0, .int sz, .ref cs, .ref va, .int lk, .ref rn, .ref kp]))]) ?_ rfl rfl (by rw [jBt_n hk (by omega)]) rfl
  refine j_iload_n 2 C dX5_exits_7 rfl rfl ?_
  refine j_iload_n 3 C dX5_exits_8 rfl rfl ?_
  refine j_callRi (v := 2) (j_runV (ci := 0) (As := [.int (jb true), .int a, .int b]) (rest := [.ref m0]) [] C (c_X5_whyCases_2 l g m0 a b (by omega)) gX5_exits_X5_whyCases rfl rfl rfl hd_X5_whyCases ⟨Nat.le_of_ble_eq_true rfl, Nat.le_of_ble_eq_true rfl⟩ rfl rfl rfl rfl dX5_exits_9 rfl (Nat.le_of_ble_eq_true rfl) ⟨Nat.le_of_ble_eq_true rfl, Nat.le_of_ble_eq_true rfl⟩) ?_
  refine j_put (Cn := RX5) (T := TX5) (N := 11) (ws' := [(m0, .inr (4, [.int 2, .int (nI N), .ref tb, .ref md, .ref rw0, .int sz, .ref cs, .ref va, .int lk, .ref rn, .ref kp]))]) tyX5 0 0 C dX5_exits_12 hin_X5_exits_X5 tyX5_ok nmX5 rfl rfl (by decide) (List.mem_of_getElem? (i := 1) rfl) rfl (tyX5_ok 0 (by decide)) rfl rfl (Nat.le_of_ble_eq_true rfl) rfl ?_
  refine j_aload_n 0 C dX5_exits_15 rfl rfl ?_
  refine j_get (Cn := RX5) (T := TX5) (N := 11) 0 0 C dX5_exits_16 hin_X5_exits_X5 rfl rfl (by decide) (List.mem_of_getElem? (i := 1) rfl) rfl ?_
  refine j_if_eq (tgt := 24) C dX5_exits_19 (by decide) (fun c_1 => ?_) (fun c_1 => ?_)
  · skip
    exact absurd c_1 (by decide)
  · skip
    refine j_dconst0 C dX5_exits_22 ?_
    exact j_dretW (v := FP.dconst0) C hr dX5_exits_23 () rfl rfl
set_option maxHeartbeats 4000000 in
set_option maxRecDepth 100000 in
theorem c_X5_exits_3 (l : Launch) (g : jG) (m0 : Nat) (th : Int32) (N tb md rw0 : Nat) (sz : Int32) (cs va : Nat) (lk : Int32) (rn kp : Nat) (k : Nat) (hk : k < N) (hN : N ≤ 10)  : jWd l yX5_exits wsX5_exits ({ frames := 5, cells := 0, slots := 0, locals := 223 }) g [.ref m0, .int (nI k), .int 6, .int 4] [(m0, .inr (4, [.int th, .int (nI N), .ref tb, .ref md, .ref rw0, .int sz, .ref cs, .ref va, .int lk, .ref rn, .ref kp]))] [(m0, .inr (4, [.int 2, .int (nI N), .ref tb, .ref md, .ref rw0, .int sz, .ref cs, .ref va, .int lk, .ref rn, .ref kp]))] FP.dconst0 := by
  refine j_enterW (Qc := fun sz_ => va_Qd (fun r (_ : Unit) => r = FP.dconst0) (fun _ t => va_P g.1 vwCl [(m0, .inr (4, [.int 2, .int (nI N), .ref tb, .ref md, .ref rw0, .int sz, .ref cs, .ref va, .int lk, .ref rn, .ref kp]))] t.heap) (va_A [(m0, .inr (4, [.int th, .int (nI N), .ref tb, .ref md, .ref rw0, .int sz, .ref cs, .ref va, .int lk, .ref rn, .ref kp]))] sz_)) (cc := cX5_exits) (maxL := 6) (ret := (some .double)) (own := RX5) (L := [(0, .ref m0), (1, .int (nI k)), (2, .int 6), (3, .int 4)]) (by decide) rfl rfl (Nat.le_of_ble_eq_true rfl) rfl (fun p e s m args below meth c C hr => ?_)
  refine j_aload_n 0 C dX5_exits_0 rfl rfl ?_
  refine j_aload_n 0 C dX5_exits_1 rfl rfl ?_
  refine j_aload_n 0 C dX5_exits_2 rfl rfl ?_
  refine j_iload_n 1 C dX5_exits_3 rfl rfl ?_
  refine j_callRi (v := jb (jBt (nI k) 0 ((nI N) - 1))) (j_runV (ci := 0) (As := [.int (nI k)]) (rest := [.ref m0, .ref m0]) [0] C (c_X5_isProgram l g m0 th (nI N) tb md rw0 sz cs va lk rn kp (nI k)) gX5_exits_X5_isProgram rfl rfl rfl hd_X5_isProgram ⟨Nat.le_of_ble_eq_true rfl, Nat.le_of_ble_eq_true rfl⟩ rfl rfl rfl rfl dX5_exits_4 rfl (Nat.le_of_ble_eq_true rfl) ⟨Nat.le_of_ble_eq_true rfl, Nat.le_of_ble_eq_true rfl⟩) ?_
  refine j_eq (pc' := 7) (L' := [(0, .ref m0), (1, .int (nI k)), (2, .int 6), (3, .int 4)]) (st' := [.int (jb true), .ref m0, .ref m0]) (ws' := [(m0, .inr (4, [.int th, .int (nI N), .ref tb, .ref md, .ref rw0, .int sz, .ref cs, .ref va, .int lk, .ref rn, .ref kp]))]) ?_ rfl rfl (by rw [jBt_n hk (by omega)]) rfl
  refine j_iload_n 2 C dX5_exits_7 rfl rfl ?_
  refine j_iload_n 3 C dX5_exits_8 rfl rfl ?_
  refine j_callRi (v := 2) (j_runV (ci := 0) (As := [.int (jb true), .int 6, .int 4]) (rest := [.ref m0]) [] C (c_X5_whyCases_3 l g m0) gX5_exits_X5_whyCases rfl rfl rfl hd_X5_whyCases ⟨Nat.le_of_ble_eq_true rfl, Nat.le_of_ble_eq_true rfl⟩ rfl rfl rfl rfl dX5_exits_9 rfl (Nat.le_of_ble_eq_true rfl) ⟨Nat.le_of_ble_eq_true rfl, Nat.le_of_ble_eq_true rfl⟩) ?_
  refine j_put (Cn := RX5) (T := TX5) (N := 11) (ws' := [(m0, .inr (4, [.int 2, .int (nI N), .ref tb, .ref md, .ref rw0, .int sz, .ref cs, .ref va, .int lk, .ref rn, .ref kp]))]) tyX5 0 0 C dX5_exits_12 hin_X5_exits_X5 tyX5_ok nmX5 rfl rfl (by decide) (List.mem_of_getElem? (i := 1) rfl) rfl (tyX5_ok 0 (by decide)) rfl rfl (Nat.le_of_ble_eq_true rfl) rfl ?_
  refine j_aload_n 0 C dX5_exits_15 rfl rfl ?_
  refine j_get (Cn := RX5) (T := TX5) (N := 11) 0 0 C dX5_exits_16 hin_X5_exits_X5 rfl rfl (by decide) (List.mem_of_getElem? (i := 1) rfl) rfl ?_
  refine j_if_eq (tgt := 24) C dX5_exits_19 (by decide) (fun c_1 => ?_) (fun c_1 => ?_)
  · skip
    exact absurd c_1 (by decide)
  · skip
    refine j_dconst0 C dX5_exits_22 ?_
    exact j_dretW (v := FP.dconst0) C hr dX5_exits_23 () rfl rfl
set_option maxHeartbeats 4000000 in
set_option maxRecDepth 100000 in
theorem c_X5_differ (l : Launch) (g : jG) (m0 : Nat) (th : Int32) (N tb md rw0 : Nat) (sz : Int32) (cs va : Nat) (lk : Int32) (rn kp : Nat) (tr : Nat → Nat) (k n : Nat) (f : Nat → Int32) (k2 n2 : Nat) (f2 : Nat → Int32) (vv cf kf : Nat → Int64) (d v : Nat) (hk : k < N) (hN : N ≤ 10) (hok : jOk n f) (hk2 : k2 < N) (hok2 : jOk n2 f2) (hd : d ≤ 6) (hv : v ≤ 4) (hv1 : 1 ≤ v) (hp : v ^ d ≤ 1024) : jXi l yX5_differ wsX5_differ ({ frames := 6, cells := 0, slots := 0, locals := 223 }) g [.ref m0, .int (nI k), .int (nI k2), .int (nI d), .int (nI v)] [(m0, .inr (4, [.int th, .int (nI N), .ref tb, .ref md, .ref rw0, .int sz, .ref cs, .ref va, .int lk, .ref rn, .ref kp])), (tb, jaR g 10 (fun i => some (tr i))), (tr k, jaI g 253 (jrw n f)), (tr k2, jaI g 253 (jrw n2 f2)), (va, jaL g 4 vv), (cs, jaL g 6 cf), (kp, jaL g 4 kf)] (fun (u9_ : Int32 × (Nat → Int64) × (Nat → Int64) × (Nat → Int64)) => [(m0, .inr (4, [.int 0, .int (nI N), .ref tb, .ref md, .ref rw0, .int sz, .ref cs, .ref va, .int u9_.1, .ref rn, .ref kp])), (tb, jaR g 10 (fun i => some (tr i))), (tr k, jaI g 253 (jrw n f)), (tr k2, jaI g 253 (jrw n2 f2)), (va, jaL g 4 u9_.2.1), (cs, jaL g 6 u9_.2.2.2), (kp, jaL g 4 u9_.2.2.1)]) (nI (jDf (jSm n f n2 f2 d v) (v ^ d) 0 0)) := by
  refine j_enterW (y := yX5_differ) (wsy := wsX5_differ) (rm := { frames := 6, cells := 0, slots := 0, locals := 223 }) (g := g) (As := [.ref m0, .int (nI k), .int (nI k2), .int (nI d), .int (nI v)]) (wc := [(m0, .inr (4, [.int th, .int (nI N), .ref tb, .ref md, .ref rw0, .int sz, .ref cs, .ref va, .int lk, .ref rn, .ref kp])), (tb, jaR g 10 (fun i => some (tr i))), (tr k, jaI g 253 (jrw n f)), (tr k2, jaI g 253 (jrw n2 f2)), (va, jaL g 4 vv), (cs, jaL g 6 cf), (kp, jaL g 4 kf)]) (mc := 0) (ms := 0) (Qc := fun sz_ => va_Qi (fun r (_ : Int32 × (Nat → Int64) × (Nat → Int64) × (Nat → Int64)) => r = nI (jDf (jSm n f n2 f2 d v) (v ^ d) 0 0)) (fun u t => va_P g.1 vwCl ((fun (u9_ : Int32 × (Nat → Int64) × (Nat → Int64) × (Nat → Int64)) => [(m0, .inr (4, [.int 0, .int (nI N), .ref tb, .ref md, .ref rw0, .int sz, .ref cs, .ref va, .int u9_.1, .ref rn, .ref kp])), (tb, jaR g 10 (fun i => some (tr i))), (tr k, jaI g 253 (jrw n f)), (tr k2, jaI g 253 (jrw n2 f2)), (va, jaL g 4 u9_.2.1), (cs, jaL g 6 u9_.2.2.2), (kp, jaL g 4 u9_.2.2.1)]) u) t.heap) (va_A [(m0, .inr (4, [.int th, .int (nI N), .ref tb, .ref md, .ref rw0, .int sz, .ref cs, .ref va, .int lk, .ref rn, .ref kp])), (tb, jaR g 10 (fun i => some (tr i))), (tr k, jaI g 253 (jrw n f)), (tr k2, jaI g 253 (jrw n2 f2)), (va, jaL g 4 vv), (cs, jaL g 6 cf), (kp, jaL g 4 kf)] sz_)) (cc := cX5_differ) (maxL := 7) (ret := (some .int)) (own := RX5) (L := [(0, .ref m0), (1, .int (nI k)), (2, .int (nI k2)), (3, .int (nI d)), (4, .int (nI v))]) (by decide) rfl rfl (Nat.le_of_ble_eq_true rfl) rfl (fun p e s m args below meth c C hr => ?_)
  refine j_aload_n 0 C dX5_differ_0 rfl rfl ?_
  refine j_aload_n 0 C dX5_differ_1 rfl rfl ?_
  refine j_aload_n 0 C dX5_differ_2 rfl rfl ?_
  refine j_iload_n 1 C dX5_differ_3 rfl rfl ?_
  refine j_callRi (v := jb (jBt (nI k) 0 ((nI N) - 1))) (j_runV (ci := 0) (As := [.int (nI k)]) (rest := [.ref m0, .ref m0]) [0] C (c_X5_isProgram l g m0 th (nI N) tb md rw0 sz cs va lk rn kp (nI k)) gX5_differ_X5_isProgram rfl rfl rfl hd_X5_isProgram ⟨Nat.le_of_ble_eq_true rfl, Nat.le_of_ble_eq_true rfl⟩ rfl rfl rfl rfl dX5_differ_4 rfl (Nat.le_of_ble_eq_true rfl) ⟨Nat.le_of_ble_eq_true rfl, Nat.le_of_ble_eq_true rfl⟩) ?_
  refine j_eq (pc' := 7) (L' := [(0, .ref m0), (1, .int (nI k)), (2, .int (nI k2)), (3, .int (nI d)), (4, .int (nI v))]) (st' := [.int (jb true), .ref m0, .ref m0]) (ws' := [(m0, .inr (4, [.int th, .int (nI N), .ref tb, .ref md, .ref rw0, .int sz, .ref cs, .ref va, .int lk, .ref rn, .ref kp])), (tb, jaR g 10 (fun i => some (tr i))), (tr k, jaI g 253 (jrw n f)), (tr k2, jaI g 253 (jrw n2 f2)), (va, jaL g 4 vv), (cs, jaL g 6 cf), (kp, jaL g 4 kf)]) ?_ rfl rfl (by rw [jBt_n hk (by omega)]) rfl
  refine j_if_eq (tgt := 22) C dX5_differ_7 (by decide) (fun c_1 => ?_) (fun c_1 => ?_)
  · skip
    have c_1 : true = false := jb_0 c_1
    (first | exact absurd c_1 (by decide) | exact absurd c_1 (by omega) | simp_all)
  · skip
    have c_1 : true = true := jb_1 c_1
    refine j_aload_n 0 C dX5_differ_10 rfl rfl ?_
    refine j_iload_n 2 C dX5_differ_11 rfl rfl ?_
    refine j_callRi (v := jb (jBt (nI k2) 0 ((nI N) - 1))) (j_runV (ci := 0) (As := [.int (nI k2)]) (rest := [.ref m0, .ref m0]) [0] C (c_X5_isProgram l g m0 th (nI N) tb md rw0 sz cs va lk rn kp (nI k2)) gX5_differ_X5_isProgram rfl rfl rfl hd_X5_isProgram ⟨Nat.le_of_ble_eq_true rfl, Nat.le_of_ble_eq_true rfl⟩ rfl rfl rfl rfl dX5_differ_12 rfl (Nat.le_of_ble_eq_true rfl) ⟨Nat.le_of_ble_eq_true rfl, Nat.le_of_ble_eq_true rfl⟩) ?_
    refine j_eq (pc' := 15) (L' := [(0, .ref m0), (1, .int (nI k)), (2, .int (nI k2)), (3, .int (nI d)), (4, .int (nI v))]) (st' := [.int (jb true), .ref m0, .ref m0]) (ws' := [(m0, .inr (4, [.int th, .int (nI N), .ref tb, .ref md, .ref rw0, .int sz, .ref cs, .ref va, .int lk, .ref rn, .ref kp])), (tb, jaR g 10 (fun i => some (tr i))), (tr k, jaI g 253 (jrw n f)), (tr k2, jaI g 253 (jrw n2 f2)), (va, jaL g 4 vv), (cs, jaL g 6 cf), (kp, jaL g 4 kf)]) ?_ rfl rfl (by rw [jBt_n hk2 (by omega)]) rfl
    refine j_if_eq (tgt := 22) C dX5_differ_15 (by decide) (fun c_2 => ?_) (fun c_2 => ?_)
    · skip
      have c_2 : true = false := jb_0 c_2
      (first | exact absurd c_2 (by decide) | exact absurd c_2 (by omega) | simp_all)
    · skip
      have c_2 : true = true := jb_1 c_2
      refine j_iconst (v := 1) C dX5_differ_18 rfl ?_
      refine j_goto (tgt := 23) C dX5_differ_19 (by decide) ?_
      refine j_iload_n 3 C dX5_differ_23 rfl rfl ?_
      refine j_iload 4 C dX5_differ_24 rfl ?_
      refine j_callRi (v := 0) (j_runV (ci := 0) (As := [.int 1, .int (nI d), .int (nI v)]) (rest := [.ref m0]) [] C (c_X5_whyCases l g m0 d v (by omega) (by omega) (by omega) (by omega)) gX5_differ_X5_whyCases rfl rfl rfl hd_X5_whyCases ⟨Nat.le_of_ble_eq_true rfl, Nat.le_of_ble_eq_true rfl⟩ rfl rfl rfl rfl dX5_differ_26 rfl (Nat.le_of_ble_eq_true rfl) ⟨Nat.le_of_ble_eq_true rfl, Nat.le_of_ble_eq_true rfl⟩) ?_
      refine j_put (Cn := RX5) (T := TX5) (N := 11) (ws' := [(m0, .inr (4, [.int 0, .int (nI N), .ref tb, .ref md, .ref rw0, .int sz, .ref cs, .ref va, .int lk, .ref rn, .ref kp])), (tb, jaR g 10 (fun i => some (tr i))), (tr k, jaI g 253 (jrw n f)), (tr k2, jaI g 253 (jrw n2 f2)), (va, jaL g 4 vv), (cs, jaL g 6 cf), (kp, jaL g 4 kf)]) tyX5 0 0 C dX5_differ_29 hin_X5_differ_X5 tyX5_ok nmX5 rfl rfl (by decide) (List.mem_of_getElem? (i := 1) rfl) rfl (tyX5_ok 0 (by decide)) rfl rfl (Nat.le_of_ble_eq_true rfl) rfl ?_
      refine j_aload_n 0 C dX5_differ_32 rfl rfl ?_
      refine j_get (Cn := RX5) (T := TX5) (N := 11) 0 0 C dX5_differ_33 hin_X5_differ_X5 rfl rfl (by decide) (List.mem_of_getElem? (i := 1) rfl) rfl ?_
      refine j_if_eq (tgt := 41) C dX5_differ_36 (by decide) (fun c_3 => ?_) (fun c_3 => ?_)
      · skip
        refine j_iconst (v := 0) C dX5_differ_41 rfl ?_
        refine j_istore (L' := [(0, .ref m0), (1, .int (nI k)), (2, .int (nI k2)), (3, .int (nI d)), (4, .int (nI v)), (5, .int 0)]) C dX5_differ_42 (Nat.le_of_ble_eq_true rfl) rfl rfl ?_
        refine j_iconst (v := 0) C dX5_differ_44 rfl ?_
        refine j_istore (L' := [(0, .ref m0), (1, .int (nI k)), (2, .int (nI k2)), (3, .int (nI d)), (4, .int (nI v)), (5, .int 0), (6, .int 0)]) C dX5_differ_45 (Nat.le_of_ble_eq_true rfl) rfl rfl ?_
        refine j_loop (σ := Nat × Nat × Int32 × (Nat → Int64) × (Nat → Int64) × (Nat → Int64)) (fun (x9_ : Nat × Nat × Int32 × (Nat → Int64) × (Nat → Int64) × (Nat → Int64)) => match x9_ with | (x, q, lk1, w1, k1, c1) => [(0, .ref m0), (1, .int (nI k)), (2, .int (nI k2)), (3, .int (nI d)), (4, .int (nI v)), (5, .int (nI q)), (6, .int (nI x))]) (fun (x9_ : Nat × Nat × Int32 × (Nat → Int64) × (Nat → Int64) × (Nat → Int64)) => match x9_ with | (x, q, lk1, w1, k1, c1) => [(m0, .inr (4, [.int 0, .int (nI N), .ref tb, .ref md, .ref rw0, .int sz, .ref cs, .ref va, .int lk1, .ref rn, .ref kp])), (tb, jaR g 10 (fun i => some (tr i))), (tr k, jaI g 253 (jrw n f)), (tr k2, jaI g 253 (jrw n2 f2)), (va, jaL g 4 w1), (cs, jaL g 6 c1), (kp, jaL g 4 k1)]) (fun (x9_ : Nat × Nat × Int32 × (Nat → Int64) × (Nat → Int64) × (Nat → Int64)) => match x9_ with | (x, q, lk1, w1, k1, c1) => (x ≤ v ^ d) ∧ (jDf (jSm n f n2 f2 d v) (v ^ d - x) x q = jDf (jSm n f n2 f2 d v) (v ^ d) 0 0)) (fun (x9_ : Nat × Nat × Int32 × (Nat → Int64) × (Nat → Int64) × (Nat → Int64)) => match x9_ with | (x, q, lk1, w1, k1, c1) => v ^ d - x) (fun x_ hi_5 ih_4 => ?_) (0, 0, lk, vv, kf, cf) ⟨(by omega), rfl⟩ rfl rfl
        obtain ⟨x, q, lk1, w1, k1, c1⟩ := x_
        obtain ⟨hI0, hI1⟩ := (show (x ≤ v ^ d) ∧ (jDf (jSm n f n2 f2 d v) (v ^ d - x) x q = jDf (jSm n f n2 f2 d v) (v ^ d) 0 0) from hi_5)
        refine j_eq (pc' := 47) (L' := [(0, .ref m0), (1, .int (nI k)), (2, .int (nI k2)), (3, .int (nI d)), (4, .int (nI v)), (5, .int (nI q)), (6, .int (nI x))]) (st' := []) (ws' := [(m0, .inr (4, [.int 0, .int (nI N), .ref tb, .ref md, .ref rw0, .int sz, .ref cs, .ref va, .int lk1, .ref rn, .ref kp])), (tb, jaR g 10 (fun i => some (tr i))), (tr k, jaI g 253 (jrw n f)), (tr k2, jaI g 253 (jrw n2 f2)), (va, jaL g 4 w1), (cs, jaL g 6 c1), (kp, jaL g 4 k1)]) ?_ rfl rfl rfl rfl
        refine j_iload 6 C dX5_differ_47 rfl ?_
        refine j_iload_n 3 C dX5_differ_49 rfl rfl ?_
        refine j_iload 4 C dX5_differ_50 rfl ?_
        refine j_callRi (v := nI (v ^ d)) (j_runS (As := [.int (nI d), .int (nI v)]) (rest := [.int (nI x)]) [] C (c_X5_rows l g d v (by omega) (by omega) (by omega) (by omega)) gX5_differ_X5_rows rfl rfl rfl hd_X5_rows ⟨Nat.le_of_ble_eq_true rfl, Nat.le_of_ble_eq_true rfl⟩ rfl rfl dX5_differ_52 rfl (Nat.le_of_ble_eq_true rfl) ⟨Nat.le_of_ble_eq_true rfl, Nat.le_of_ble_eq_true rfl⟩) ?_
        refine j_icmp_ge (tgt := 93) C dX5_differ_55 (by decide) (fun c_6 => ?_) (fun c_6 => ?_)
        · skip
          have c_6 : (v ^ d) ≤ x := (nI_leI (a := v ^ d) (b := x) (by omega) (by omega)).mp c_6
          refine j_iload 5 C dX5_differ_93 rfl ?_
          exact j_iretW (v := nI q) C hr dX5_differ_95 (lk1, w1, k1, c1) (by rw [← hI1, show v ^ d - x = 0 by omega]; rfl) rfl
        · skip
          have c_6 : ¬ (v ^ d) ≤ x := fun z => c_6 ((nI_leI (a := v ^ d) (b := x) (by omega) (by omega)).mpr z)
          obtain ⟨r1, hr1⟩ : ∃ r, jRn n f (jLy d v x 0 c1) d = r := ⟨_, rfl⟩
          obtain ⟨r2, hr2⟩ : ∃ r, jRn n2 f2 (jLy d v x 0 c1) d = r := ⟨_, rfl⟩
          have hS : jAL r1.1 r1.2.2 r2.1 r2.2.2 = (jSm n f n2 f2 d v) x := by rw [← hr1, ← hr2, jRn_cs, jRn_cs]; rfl
          refine j_aload_n 0 C dX5_differ_58 rfl rfl ?_
          refine j_iload 6 C dX5_differ_59 rfl ?_
          refine j_iload_n 3 C dX5_differ_61 rfl rfl ?_
          refine j_iload 4 C dX5_differ_62 rfl ?_
          refine j_callWv [0, 5] (fun _ => [(m0, .inr (4, [.int 0, .int (nI N), .ref tb, .ref md, .ref rw0, .int sz, .ref cs, .ref va, .int lk1, .ref rn, .ref kp])), (tb, jaR g 10 (fun i => some (tr i))), (tr k, jaI g 253 (jrw n f)), (tr k2, jaI g 253 (jrw n2 f2)), (va, jaL g 4 w1), (cs, jaL g 6 (jLy d v x 0 c1)), (kp, jaL g 4 k1)]) C (j_runV (ci := 0) (As := [.int (nI x), .int (nI d), .int (nI v)]) (rest := []) [0, 5] C (c_X5_layCase l g m0 0 (nI N) tb md rw0 sz cs va lk1 rn kp x d v c1 (by omega) (by omega) (by omega) (by omega)) gX5_differ_X5_layCase rfl rfl rfl hd_X5_layCase ⟨Nat.le_of_ble_eq_true rfl, Nat.le_of_ble_eq_true rfl⟩ rfl rfl rfl rfl dX5_differ_64 rfl (Nat.le_of_ble_eq_true rfl) ⟨Nat.le_of_ble_eq_true rfl, Nat.le_of_ble_eq_true rfl⟩) rfl (fun _ => rfl) (fun _ => rfl) (fun _ _ => ?_)
          refine j_iload 5 C dX5_differ_67 rfl ?_
          refine j_aload_n 0 C dX5_differ_69 rfl rfl ?_
          refine j_iload_n 1 C dX5_differ_70 rfl rfl ?_
          refine j_iload_n 2 C dX5_differ_71 rfl rfl ?_
          refine j_iload_n 3 C dX5_differ_72 rfl rfl ?_
          refine j_callWi [0, 1, 2, 3, 4, 5, 6] (fun _ => [(m0, .inr (4, [.int 0, .int (nI N), .ref tb, .ref md, .ref rw0, .int sz, .ref cs, .ref va, .int r2.2.1, .ref rn, .ref kp])), (tb, jaR g 10 (fun i => some (tr i))), (tr k, jaI g 253 (jrw n f)), (tr k2, jaI g 253 (jrw n2 f2)), (va, jaL g 4 r2.1), (cs, jaL g 6 (jLy d v x 0 c1)), (kp, jaL g 4 r1.1)]) C (j_runV (ci := 0) (As := [.int (nI k), .int (nI k2), .int (nI d)]) (rest := [.int (nI q)]) [0, 1, 2, 3, 4, 5, 6] C (c_X5_isSame l g m0 0 N tb md rw0 sz cs va lk1 rn kp tr k n f k2 n2 f2 w1 (jLy d v x 0 c1) k1 d r1 r2 (by omega) (by omega) (by omega) (by omega) (by omega) hr1 hr2) gX5_differ_X5_isSame rfl rfl rfl hd_X5_isSame ⟨Nat.le_of_ble_eq_true rfl, Nat.le_of_ble_eq_true rfl⟩ rfl rfl rfl rfl dX5_differ_73 rfl (Nat.le_of_ble_eq_true rfl) ⟨Nat.le_of_ble_eq_true rfl, Nat.le_of_ble_eq_true rfl⟩) rfl (fun _ => rfl) (fun _ => rfl) (fun z _ hz => ?_)
          subst hz
          refine j_eq (pc' := 76) (L' := [(0, .ref m0), (1, .int (nI k)), (2, .int (nI k2)), (3, .int (nI d)), (4, .int (nI v)), (5, .int (nI q)), (6, .int (nI x))]) (st' := [.int (jb ((jSm n f n2 f2 d v) x)), .int (nI q)]) (ws' := [(m0, .inr (4, [.int 0, .int (nI N), .ref tb, .ref md, .ref rw0, .int sz, .ref cs, .ref va, .int r2.2.1, .ref rn, .ref kp])), (tb, jaR g 10 (fun i => some (tr i))), (tr k, jaI g 253 (jrw n f)), (tr k2, jaI g 253 (jrw n2 f2)), (va, jaL g 4 r2.1), (cs, jaL g 6 (jLy d v x 0 c1)), (kp, jaL g 4 r1.1)]) ?_ rfl rfl (by rw [hS]) rfl
          refine j_if_eq (tgt := 83) C dX5_differ_76 (by decide) (fun c_8 => ?_) (fun c_8 => ?_)
          · skip
            have c_8 : ((jSm n f n2 f2 d v) x) = false := jb_0 c_8
            refine j_iconst (v := 1) C dX5_differ_83 rfl ?_
            refine j_iadd (x := nI q) (y := 1) (v := nI (q + 1)) C dX5_differ_84 (nI_add q 1) ?_
            refine j_istore (L' := [(0, .ref m0), (1, .int (nI k)), (2, .int (nI k2)), (3, .int (nI d)), (4, .int (nI v)), (5, .int (nI (q + 1))), (6, .int (nI x))]) C dX5_differ_85 (Nat.le_of_ble_eq_true rfl) rfl rfl ?_
            refine j_iinc (v := nI (x + 1)) (L' := [(0, .ref m0), (1, .int (nI k)), (2, .int (nI k2)), (3, .int (nI d)), (4, .int (nI v)), (5, .int (nI (q + 1))), (6, .int (nI (x + 1)))]) 6 C dX5_differ_87 rfl (nI_add x 1) (Nat.le_of_ble_eq_true rfl) rfl rfl ?_
            refine j_goto (tgt := 47) C dX5_differ_90 (by decide) ?_
            exact ih_4 (x + 1, q + 1, r2.2.1, r2.1, r1.1, (jLy d v x 0 c1)) ⟨(by omega), (by rw [← hI1, show v ^ d - x = (v ^ d - (x + 1)) + 1 by omega, jDf_s]; first | (rw [if_pos (by assumption)]; rfl) | rw [if_neg (by rw [‹(jSm n f n2 f2 d v) x = false›]; decide)])⟩ (show v ^ d - (x + 1) < v ^ d - x from by omega)
          · skip
            have c_8 : ((jSm n f n2 f2 d v) x) = true := jb_1 c_8
            refine j_iconst (v := 0) C dX5_differ_79 rfl ?_
            refine j_goto (tgt := 84) C dX5_differ_80 (by decide) ?_
            refine j_iadd (x := nI q) (y := 0) (v := nI (q + 0)) C dX5_differ_84 (nI_add q 0) ?_
            refine j_istore (L' := [(0, .ref m0), (1, .int (nI k)), (2, .int (nI k2)), (3, .int (nI d)), (4, .int (nI v)), (5, .int (nI (q + 0))), (6, .int (nI x))]) C dX5_differ_85 (Nat.le_of_ble_eq_true rfl) rfl rfl ?_
            refine j_iinc (v := nI (x + 1)) (L' := [(0, .ref m0), (1, .int (nI k)), (2, .int (nI k2)), (3, .int (nI d)), (4, .int (nI v)), (5, .int (nI (q + 0))), (6, .int (nI (x + 1)))]) 6 C dX5_differ_87 rfl (nI_add x 1) (Nat.le_of_ble_eq_true rfl) rfl rfl ?_
            refine j_goto (tgt := 47) C dX5_differ_90 (by decide) ?_
            exact ih_4 (x + 1, q + 0, r2.2.1, r2.1, r1.1, (jLy d v x 0 c1)) ⟨(by omega), (by rw [← hI1, show v ^ d - x = (v ^ d - (x + 1)) + 1 by omega, jDf_s]; first | (rw [if_pos (by assumption)]; rfl) | rw [if_neg (by rw [‹(jSm n f n2 f2 d v) x = false›]; decide)])⟩ (show v ^ d - (x + 1) < v ^ d - x from by omega)
      · skip
        exact absurd c_3 (by decide)
set_option maxHeartbeats 4000000 in
set_option maxRecDepth 100000 in
theorem c_X5_differ_e (l : Launch) (g : jG) (m0 : Nat) (th : Int32) (N tb md rw0 : Nat) (sz : Int32) (cs va : Nat) (lk : Int32) (rn kp : Nat) (tr : Nat → Nat) (k n : Nat) (f : Nat → Int32) (vv cf kf : Nat → Int64) (d v : Nat) (hk : k < N) (hN : N ≤ 10) (hok : jOk n f) (hd : d ≤ 6) (hv : v ≤ 4) (hv1 : 1 ≤ v) (hp : v ^ d ≤ 1024) : jXi l yX5_differ wsX5_differ ({ frames := 6, cells := 0, slots := 0, locals := 223 }) g [.ref m0, .int (nI k), .int (nI k), .int (nI d), .int (nI v)] [(m0, .inr (4, [.int th, .int (nI N), .ref tb, .ref md, .ref rw0, .int sz, .ref cs, .ref va, .int lk, .ref rn, .ref kp])), (tb, jaR g 10 (fun i => some (tr i))), (tr k, jaI g 253 (jrw n f)), (va, jaL g 4 vv), (cs, jaL g 6 cf), (kp, jaL g 4 kf)] (fun (u9_ : Int32 × (Nat → Int64) × (Nat → Int64) × (Nat → Int64)) => [(m0, .inr (4, [.int 0, .int (nI N), .ref tb, .ref md, .ref rw0, .int sz, .ref cs, .ref va, .int u9_.1, .ref rn, .ref kp])), (tb, jaR g 10 (fun i => some (tr i))), (tr k, jaI g 253 (jrw n f)), (va, jaL g 4 u9_.2.1), (cs, jaL g 6 u9_.2.2.2), (kp, jaL g 4 u9_.2.2.1)]) (nI (jDf (jSm n f n f d v) (v ^ d) 0 0)) := by
  refine j_enterW (y := yX5_differ) (wsy := wsX5_differ) (rm := { frames := 6, cells := 0, slots := 0, locals := 223 }) (g := g) (As := [.ref m0, .int (nI k), .int (nI k), .int (nI d), .int (nI v)]) (wc := [(m0, .inr (4, [.int th, .int (nI N), .ref tb, .ref md, .ref rw0, .int sz, .ref cs, .ref va, .int lk, .ref rn, .ref kp])), (tb, jaR g 10 (fun i => some (tr i))), (tr k, jaI g 253 (jrw n f)), (va, jaL g 4 vv), (cs, jaL g 6 cf), (kp, jaL g 4 kf)]) (mc := 0) (ms := 0) (Qc := fun sz_ => va_Qi (fun r (_ : Int32 × (Nat → Int64) × (Nat → Int64) × (Nat → Int64)) => r = nI (jDf (jSm n f n f d v) (v ^ d) 0 0)) (fun u t => va_P g.1 vwCl ((fun (u9_ : Int32 × (Nat → Int64) × (Nat → Int64) × (Nat → Int64)) => [(m0, .inr (4, [.int 0, .int (nI N), .ref tb, .ref md, .ref rw0, .int sz, .ref cs, .ref va, .int u9_.1, .ref rn, .ref kp])), (tb, jaR g 10 (fun i => some (tr i))), (tr k, jaI g 253 (jrw n f)), (va, jaL g 4 u9_.2.1), (cs, jaL g 6 u9_.2.2.2), (kp, jaL g 4 u9_.2.2.1)]) u) t.heap) (va_A [(m0, .inr (4, [.int th, .int (nI N), .ref tb, .ref md, .ref rw0, .int sz, .ref cs, .ref va, .int lk, .ref rn, .ref kp])), (tb, jaR g 10 (fun i => some (tr i))), (tr k, jaI g 253 (jrw n f)), (va, jaL g 4 vv), (cs, jaL g 6 cf), (kp, jaL g 4 kf)] sz_)) (cc := cX5_differ) (maxL := 7) (ret := (some .int)) (own := RX5) (L := [(0, .ref m0), (1, .int (nI k)), (2, .int (nI k)), (3, .int (nI d)), (4, .int (nI v))]) (by decide) rfl rfl (Nat.le_of_ble_eq_true rfl) rfl (fun p e s m args below meth c C hr => ?_)
  refine j_aload_n 0 C dX5_differ_0 rfl rfl ?_
  refine j_aload_n 0 C dX5_differ_1 rfl rfl ?_
  refine j_aload_n 0 C dX5_differ_2 rfl rfl ?_
  refine j_iload_n 1 C dX5_differ_3 rfl rfl ?_
  refine j_callRi (v := jb (jBt (nI k) 0 ((nI N) - 1))) (j_runV (ci := 0) (As := [.int (nI k)]) (rest := [.ref m0, .ref m0]) [0] C (c_X5_isProgram l g m0 th (nI N) tb md rw0 sz cs va lk rn kp (nI k)) gX5_differ_X5_isProgram rfl rfl rfl hd_X5_isProgram ⟨Nat.le_of_ble_eq_true rfl, Nat.le_of_ble_eq_true rfl⟩ rfl rfl rfl rfl dX5_differ_4 rfl (Nat.le_of_ble_eq_true rfl) ⟨Nat.le_of_ble_eq_true rfl, Nat.le_of_ble_eq_true rfl⟩) ?_
  refine j_eq (pc' := 7) (L' := [(0, .ref m0), (1, .int (nI k)), (2, .int (nI k)), (3, .int (nI d)), (4, .int (nI v))]) (st' := [.int (jb true), .ref m0, .ref m0]) (ws' := [(m0, .inr (4, [.int th, .int (nI N), .ref tb, .ref md, .ref rw0, .int sz, .ref cs, .ref va, .int lk, .ref rn, .ref kp])), (tb, jaR g 10 (fun i => some (tr i))), (tr k, jaI g 253 (jrw n f)), (va, jaL g 4 vv), (cs, jaL g 6 cf), (kp, jaL g 4 kf)]) ?_ rfl rfl (by rw [jBt_n hk (by omega)]) rfl
  refine j_if_eq (tgt := 22) C dX5_differ_7 (by decide) (fun c_1 => ?_) (fun c_1 => ?_)
  · skip
    have c_1 : true = false := jb_0 c_1
    (first | exact absurd c_1 (by decide) | exact absurd c_1 (by omega) | simp_all)
  · skip
    have c_1 : true = true := jb_1 c_1
    refine j_aload_n 0 C dX5_differ_10 rfl rfl ?_
    refine j_iload_n 2 C dX5_differ_11 rfl rfl ?_
    refine j_callRi (v := jb (jBt (nI k) 0 ((nI N) - 1))) (j_runV (ci := 0) (As := [.int (nI k)]) (rest := [.ref m0, .ref m0]) [0] C (c_X5_isProgram l g m0 th (nI N) tb md rw0 sz cs va lk rn kp (nI k)) gX5_differ_X5_isProgram rfl rfl rfl hd_X5_isProgram ⟨Nat.le_of_ble_eq_true rfl, Nat.le_of_ble_eq_true rfl⟩ rfl rfl rfl rfl dX5_differ_12 rfl (Nat.le_of_ble_eq_true rfl) ⟨Nat.le_of_ble_eq_true rfl, Nat.le_of_ble_eq_true rfl⟩) ?_
    refine j_eq (pc' := 15) (L' := [(0, .ref m0), (1, .int (nI k)), (2, .int (nI k)), (3, .int (nI d)), (4, .int (nI v))]) (st' := [.int (jb true), .ref m0, .ref m0]) (ws' := [(m0, .inr (4, [.int th, .int (nI N), .ref tb, .ref md, .ref rw0, .int sz, .ref cs, .ref va, .int lk, .ref rn, .ref kp])), (tb, jaR g 10 (fun i => some (tr i))), (tr k, jaI g 253 (jrw n f)), (va, jaL g 4 vv), (cs, jaL g 6 cf), (kp, jaL g 4 kf)]) ?_ rfl rfl (by rw [jBt_n hk (by omega)]) rfl
    refine j_if_eq (tgt := 22) C dX5_differ_15 (by decide) (fun c_2 => ?_) (fun c_2 => ?_)
    · skip
      have c_2 : true = false := jb_0 c_2
      (first | exact absurd c_2 (by decide) | exact absurd c_2 (by omega) | simp_all)
    · skip
      have c_2 : true = true := jb_1 c_2
      refine j_iconst (v := 1) C dX5_differ_18 rfl ?_
      refine j_goto (tgt := 23) C dX5_differ_19 (by decide) ?_
      refine j_iload_n 3 C dX5_differ_23 rfl rfl ?_
      refine j_iload 4 C dX5_differ_24 rfl ?_
      refine j_callRi (v := 0) (j_runV (ci := 0) (As := [.int 1, .int (nI d), .int (nI v)]) (rest := [.ref m0]) [] C (c_X5_whyCases l g m0 d v (by omega) (by omega) (by omega) (by omega)) gX5_differ_X5_whyCases rfl rfl rfl hd_X5_whyCases ⟨Nat.le_of_ble_eq_true rfl, Nat.le_of_ble_eq_true rfl⟩ rfl rfl rfl rfl dX5_differ_26 rfl (Nat.le_of_ble_eq_true rfl) ⟨Nat.le_of_ble_eq_true rfl, Nat.le_of_ble_eq_true rfl⟩) ?_
      refine j_put (Cn := RX5) (T := TX5) (N := 11) (ws' := [(m0, .inr (4, [.int 0, .int (nI N), .ref tb, .ref md, .ref rw0, .int sz, .ref cs, .ref va, .int lk, .ref rn, .ref kp])), (tb, jaR g 10 (fun i => some (tr i))), (tr k, jaI g 253 (jrw n f)), (va, jaL g 4 vv), (cs, jaL g 6 cf), (kp, jaL g 4 kf)]) tyX5 0 0 C dX5_differ_29 hin_X5_differ_X5 tyX5_ok nmX5 rfl rfl (by decide) (List.mem_of_getElem? (i := 1) rfl) rfl (tyX5_ok 0 (by decide)) rfl rfl (Nat.le_of_ble_eq_true rfl) rfl ?_
      refine j_aload_n 0 C dX5_differ_32 rfl rfl ?_
      refine j_get (Cn := RX5) (T := TX5) (N := 11) 0 0 C dX5_differ_33 hin_X5_differ_X5 rfl rfl (by decide) (List.mem_of_getElem? (i := 1) rfl) rfl ?_
      refine j_if_eq (tgt := 41) C dX5_differ_36 (by decide) (fun c_3 => ?_) (fun c_3 => ?_)
      · skip
        refine j_iconst (v := 0) C dX5_differ_41 rfl ?_
        refine j_istore (L' := [(0, .ref m0), (1, .int (nI k)), (2, .int (nI k)), (3, .int (nI d)), (4, .int (nI v)), (5, .int 0)]) C dX5_differ_42 (Nat.le_of_ble_eq_true rfl) rfl rfl ?_
        refine j_iconst (v := 0) C dX5_differ_44 rfl ?_
        refine j_istore (L' := [(0, .ref m0), (1, .int (nI k)), (2, .int (nI k)), (3, .int (nI d)), (4, .int (nI v)), (5, .int 0), (6, .int 0)]) C dX5_differ_45 (Nat.le_of_ble_eq_true rfl) rfl rfl ?_
        refine j_loop (σ := Nat × Nat × Int32 × (Nat → Int64) × (Nat → Int64) × (Nat → Int64)) (fun (x9_ : Nat × Nat × Int32 × (Nat → Int64) × (Nat → Int64) × (Nat → Int64)) => match x9_ with | (x, q, lk1, w1, k1, c1) => [(0, .ref m0), (1, .int (nI k)), (2, .int (nI k)), (3, .int (nI d)), (4, .int (nI v)), (5, .int (nI q)), (6, .int (nI x))]) (fun (x9_ : Nat × Nat × Int32 × (Nat → Int64) × (Nat → Int64) × (Nat → Int64)) => match x9_ with | (x, q, lk1, w1, k1, c1) => [(m0, .inr (4, [.int 0, .int (nI N), .ref tb, .ref md, .ref rw0, .int sz, .ref cs, .ref va, .int lk1, .ref rn, .ref kp])), (tb, jaR g 10 (fun i => some (tr i))), (tr k, jaI g 253 (jrw n f)), (va, jaL g 4 w1), (cs, jaL g 6 c1), (kp, jaL g 4 k1)]) (fun (x9_ : Nat × Nat × Int32 × (Nat → Int64) × (Nat → Int64) × (Nat → Int64)) => match x9_ with | (x, q, lk1, w1, k1, c1) => (x ≤ v ^ d) ∧ (jDf (jSm n f n f d v) (v ^ d - x) x q = jDf (jSm n f n f d v) (v ^ d) 0 0)) (fun (x9_ : Nat × Nat × Int32 × (Nat → Int64) × (Nat → Int64) × (Nat → Int64)) => match x9_ with | (x, q, lk1, w1, k1, c1) => v ^ d - x) (fun x_ hi_5 ih_4 => ?_) (0, 0, lk, vv, kf, cf) ⟨(by omega), rfl⟩ rfl rfl
        obtain ⟨x, q, lk1, w1, k1, c1⟩ := x_
        obtain ⟨hI0, hI1⟩ := (show (x ≤ v ^ d) ∧ (jDf (jSm n f n f d v) (v ^ d - x) x q = jDf (jSm n f n f d v) (v ^ d) 0 0) from hi_5)
        refine j_eq (pc' := 47) (L' := [(0, .ref m0), (1, .int (nI k)), (2, .int (nI k)), (3, .int (nI d)), (4, .int (nI v)), (5, .int (nI q)), (6, .int (nI x))]) (st' := []) (ws' := [(m0, .inr (4, [.int 0, .int (nI N), .ref tb, .ref md, .ref rw0, .int sz, .ref cs, .ref va, .int lk1, .ref rn, .ref kp])), (tb, jaR g 10 (fun i => some (tr i))), (tr k, jaI g 253 (jrw n f)), (va, jaL g 4 w1), (cs, jaL g 6 c1), (kp, jaL g 4 k1)]) ?_ rfl rfl rfl rfl
        refine j_iload 6 C dX5_differ_47 rfl ?_
        refine j_iload_n 3 C dX5_differ_49 rfl rfl ?_
        refine j_iload 4 C dX5_differ_50 rfl ?_
        refine j_callRi (v := nI (v ^ d)) (j_runS (As := [.int (nI d), .int (nI v)]) (rest := [.int (nI x)]) [] C (c_X5_rows l g d v (by omega) (by omega) (by omega) (by omega)) gX5_differ_X5_rows rfl rfl rfl hd_X5_rows ⟨Nat.le_of_ble_eq_true rfl, Nat.le_of_ble_eq_true rfl⟩ rfl rfl dX5_differ_52 rfl (Nat.le_of_ble_eq_true rfl) ⟨Nat.le_of_ble_eq_true rfl, Nat.le_of_ble_eq_true rfl⟩) ?_
        refine j_icmp_ge (tgt := 93) C dX5_differ_55 (by decide) (fun c_6 => ?_) (fun c_6 => ?_)
        · skip
          have c_6 : (v ^ d) ≤ x := (nI_leI (a := v ^ d) (b := x) (by omega) (by omega)).mp c_6
          refine j_iload 5 C dX5_differ_93 rfl ?_
          exact j_iretW (v := nI q) C hr dX5_differ_95 (lk1, w1, k1, c1) (by rw [← hI1, show v ^ d - x = 0 by omega]; rfl) rfl
        · skip
          have c_6 : ¬ (v ^ d) ≤ x := fun z => c_6 ((nI_leI (a := v ^ d) (b := x) (by omega) (by omega)).mpr z)
          obtain ⟨r1, hr1⟩ : ∃ r, jRn n f (jLy d v x 0 c1) d = r := ⟨_, rfl⟩
          have hS : jAL r1.1 r1.2.2 r1.1 r1.2.2 = (jSm n f n f d v) x := by rw [← hr1, jRn_cs]; rfl
          refine j_aload_n 0 C dX5_differ_58 rfl rfl ?_
          refine j_iload 6 C dX5_differ_59 rfl ?_
          refine j_iload_n 3 C dX5_differ_61 rfl rfl ?_
          refine j_iload 4 C dX5_differ_62 rfl ?_
          refine j_callWv [0, 4] (fun _ => [(m0, .inr (4, [.int 0, .int (nI N), .ref tb, .ref md, .ref rw0, .int sz, .ref cs, .ref va, .int lk1, .ref rn, .ref kp])), (tb, jaR g 10 (fun i => some (tr i))), (tr k, jaI g 253 (jrw n f)), (va, jaL g 4 w1), (cs, jaL g 6 (jLy d v x 0 c1)), (kp, jaL g 4 k1)]) C (j_runV (ci := 0) (As := [.int (nI x), .int (nI d), .int (nI v)]) (rest := []) [0, 4] C (c_X5_layCase l g m0 0 (nI N) tb md rw0 sz cs va lk1 rn kp x d v c1 (by omega) (by omega) (by omega) (by omega)) gX5_differ_X5_layCase rfl rfl rfl hd_X5_layCase ⟨Nat.le_of_ble_eq_true rfl, Nat.le_of_ble_eq_true rfl⟩ rfl rfl rfl rfl dX5_differ_64 rfl (Nat.le_of_ble_eq_true rfl) ⟨Nat.le_of_ble_eq_true rfl, Nat.le_of_ble_eq_true rfl⟩) rfl (fun _ => rfl) (fun _ => rfl) (fun _ _ => ?_)
          refine j_iload 5 C dX5_differ_67 rfl ?_
          refine j_aload_n 0 C dX5_differ_69 rfl rfl ?_
          refine j_iload_n 1 C dX5_differ_70 rfl rfl ?_
          refine j_iload_n 2 C dX5_differ_71 rfl rfl ?_
          refine j_iload_n 3 C dX5_differ_72 rfl rfl ?_
          refine j_callWi [0, 1, 2, 3, 4, 5] (fun _ => [(m0, .inr (4, [.int 0, .int (nI N), .ref tb, .ref md, .ref rw0, .int sz, .ref cs, .ref va, .int r1.2.1, .ref rn, .ref kp])), (tb, jaR g 10 (fun i => some (tr i))), (tr k, jaI g 253 (jrw n f)), (va, jaL g 4 r1.1), (cs, jaL g 6 (jLy d v x 0 c1)), (kp, jaL g 4 r1.1)]) C (j_runV (ci := 0) (As := [.int (nI k), .int (nI k), .int (nI d)]) (rest := [.int (nI q)]) [0, 1, 2, 3, 4, 5] C (c_X5_isSame_e l g m0 0 N tb md rw0 sz cs va lk1 rn kp tr k n f w1 (jLy d v x 0 c1) k1 d r1 (by omega) (by omega) (by omega) hr1) gX5_differ_X5_isSame rfl rfl rfl hd_X5_isSame ⟨Nat.le_of_ble_eq_true rfl, Nat.le_of_ble_eq_true rfl⟩ rfl rfl rfl rfl dX5_differ_73 rfl (Nat.le_of_ble_eq_true rfl) ⟨Nat.le_of_ble_eq_true rfl, Nat.le_of_ble_eq_true rfl⟩) rfl (fun _ => rfl) (fun _ => rfl) (fun z _ hz => ?_)
          subst hz
          refine j_eq (pc' := 76) (L' := [(0, .ref m0), (1, .int (nI k)), (2, .int (nI k)), (3, .int (nI d)), (4, .int (nI v)), (5, .int (nI q)), (6, .int (nI x))]) (st' := [.int (jb ((jSm n f n f d v) x)), .int (nI q)]) (ws' := [(m0, .inr (4, [.int 0, .int (nI N), .ref tb, .ref md, .ref rw0, .int sz, .ref cs, .ref va, .int r1.2.1, .ref rn, .ref kp])), (tb, jaR g 10 (fun i => some (tr i))), (tr k, jaI g 253 (jrw n f)), (va, jaL g 4 r1.1), (cs, jaL g 6 (jLy d v x 0 c1)), (kp, jaL g 4 r1.1)]) ?_ rfl rfl (by rw [hS]) rfl
          refine j_if_eq (tgt := 83) C dX5_differ_76 (by decide) (fun c_8 => ?_) (fun c_8 => ?_)
          · skip
            have c_8 : ((jSm n f n f d v) x) = false := jb_0 c_8
            refine j_iconst (v := 1) C dX5_differ_83 rfl ?_
            refine j_iadd (x := nI q) (y := 1) (v := nI (q + 1)) C dX5_differ_84 (nI_add q 1) ?_
            refine j_istore (L' := [(0, .ref m0), (1, .int (nI k)), (2, .int (nI k)), (3, .int (nI d)), (4, .int (nI v)), (5, .int (nI (q + 1))), (6, .int (nI x))]) C dX5_differ_85 (Nat.le_of_ble_eq_true rfl) rfl rfl ?_
            refine j_iinc (v := nI (x + 1)) (L' := [(0, .ref m0), (1, .int (nI k)), (2, .int (nI k)), (3, .int (nI d)), (4, .int (nI v)), (5, .int (nI (q + 1))), (6, .int (nI (x + 1)))]) 6 C dX5_differ_87 rfl (nI_add x 1) (Nat.le_of_ble_eq_true rfl) rfl rfl ?_
            refine j_goto (tgt := 47) C dX5_differ_90 (by decide) ?_
            exact ih_4 (x + 1, q + 1, r1.2.1, r1.1, r1.1, (jLy d v x 0 c1)) ⟨(by omega), (by rw [← hI1, show v ^ d - x = (v ^ d - (x + 1)) + 1 by omega, jDf_s]; first | (rw [if_pos (by assumption)]; rfl) | rw [if_neg (by rw [‹(jSm n f n f d v) x = false›]; decide)])⟩ (show v ^ d - (x + 1) < v ^ d - x from by omega)
          · skip
            have c_8 : ((jSm n f n f d v) x) = true := jb_1 c_8
            refine j_iconst (v := 0) C dX5_differ_79 rfl ?_
            refine j_goto (tgt := 84) C dX5_differ_80 (by decide) ?_
            refine j_iadd (x := nI q) (y := 0) (v := nI (q + 0)) C dX5_differ_84 (nI_add q 0) ?_
            refine j_istore (L' := [(0, .ref m0), (1, .int (nI k)), (2, .int (nI k)), (3, .int (nI d)), (4, .int (nI v)), (5, .int (nI (q + 0))), (6, .int (nI x))]) C dX5_differ_85 (Nat.le_of_ble_eq_true rfl) rfl rfl ?_
            refine j_iinc (v := nI (x + 1)) (L' := [(0, .ref m0), (1, .int (nI k)), (2, .int (nI k)), (3, .int (nI d)), (4, .int (nI v)), (5, .int (nI (q + 0))), (6, .int (nI (x + 1)))]) 6 C dX5_differ_87 rfl (nI_add x 1) (Nat.le_of_ble_eq_true rfl) rfl rfl ?_
            refine j_goto (tgt := 47) C dX5_differ_90 (by decide) ?_
            exact ih_4 (x + 1, q + 0, r1.2.1, r1.1, r1.1, (jLy d v x 0 c1)) ⟨(by omega), (by rw [← hI1, show v ^ d - x = (v ^ d - (x + 1)) + 1 by omega, jDf_s]; first | (rw [if_pos (by assumption)]; rfl) | rw [if_neg (by rw [‹(jSm n f n f d v) x = false›]; decide)])⟩ (show v ^ d - (x + 1) < v ^ d - x from by omega)
      · skip
        exact absurd c_3 (by decide)
set_option maxHeartbeats 4000000 in
set_option maxRecDepth 100000 in
theorem c_X5_firstCase (l : Launch) (g : jG) (m0 : Nat) (th : Int32) (N tb md rw0 : Nat) (sz : Int32) (cs va : Nat) (lk : Int32) (rn kp : Nat) (tr : Nat → Nat) (k n : Nat) (f : Nat → Int32) (k2 n2 : Nat) (f2 : Nat → Int32) (vv cf kf : Nat → Int64) (d v : Nat) (hk : k < N) (hN : N ≤ 10) (hok : jOk n f) (hk2 : k2 < N) (hok2 : jOk n2 f2) (hd : d ≤ 6) (hv : v ≤ 4) (hv1 : 1 ≤ v) (hp : v ^ d ≤ 1024) : jXi l yX5_firstCase wsX5_firstCase ({ frames := 6, cells := 0, slots := 0, locals := 223 }) g [.ref m0, .int (nI k), .int (nI k2), .int (nI d), .int (nI v)] [(m0, .inr (4, [.int th, .int (nI N), .ref tb, .ref md, .ref rw0, .int sz, .ref cs, .ref va, .int lk, .ref rn, .ref kp])), (tb, jaR g 10 (fun i => some (tr i))), (tr k, jaI g 253 (jrw n f)), (tr k2, jaI g 253 (jrw n2 f2)), (va, jaL g 4 vv), (cs, jaL g 6 cf), (kp, jaL g 4 kf)] (fun (u9_ : Int32 × (Nat → Int64) × (Nat → Int64) × (Nat → Int64)) => [(m0, .inr (4, [.int 0, .int (nI N), .ref tb, .ref md, .ref rw0, .int sz, .ref cs, .ref va, .int u9_.1, .ref rn, .ref kp])), (tb, jaR g 10 (fun i => some (tr i))), (tr k, jaI g 253 (jrw n f)), (tr k2, jaI g 253 (jrw n2 f2)), (va, jaL g 4 u9_.2.1), (cs, jaL g 6 u9_.2.2.2), (kp, jaL g 4 u9_.2.2.1)]) (jFc (jSm n f n2 f2 d v) (v ^ d) 0) := by
  refine j_enterW (y := yX5_firstCase) (wsy := wsX5_firstCase) (rm := { frames := 6, cells := 0, slots := 0, locals := 223 }) (g := g) (As := [.ref m0, .int (nI k), .int (nI k2), .int (nI d), .int (nI v)]) (wc := [(m0, .inr (4, [.int th, .int (nI N), .ref tb, .ref md, .ref rw0, .int sz, .ref cs, .ref va, .int lk, .ref rn, .ref kp])), (tb, jaR g 10 (fun i => some (tr i))), (tr k, jaI g 253 (jrw n f)), (tr k2, jaI g 253 (jrw n2 f2)), (va, jaL g 4 vv), (cs, jaL g 6 cf), (kp, jaL g 4 kf)]) (mc := 0) (ms := 0) (Qc := fun sz_ => va_Qi (fun r (_ : Int32 × (Nat → Int64) × (Nat → Int64) × (Nat → Int64)) => r = jFc (jSm n f n2 f2 d v) (v ^ d) 0) (fun u t => va_P g.1 vwCl ((fun (u9_ : Int32 × (Nat → Int64) × (Nat → Int64) × (Nat → Int64)) => [(m0, .inr (4, [.int 0, .int (nI N), .ref tb, .ref md, .ref rw0, .int sz, .ref cs, .ref va, .int u9_.1, .ref rn, .ref kp])), (tb, jaR g 10 (fun i => some (tr i))), (tr k, jaI g 253 (jrw n f)), (tr k2, jaI g 253 (jrw n2 f2)), (va, jaL g 4 u9_.2.1), (cs, jaL g 6 u9_.2.2.2), (kp, jaL g 4 u9_.2.2.1)]) u) t.heap) (va_A [(m0, .inr (4, [.int th, .int (nI N), .ref tb, .ref md, .ref rw0, .int sz, .ref cs, .ref va, .int lk, .ref rn, .ref kp])), (tb, jaR g 10 (fun i => some (tr i))), (tr k, jaI g 253 (jrw n f)), (tr k2, jaI g 253 (jrw n2 f2)), (va, jaL g 4 vv), (cs, jaL g 6 cf), (kp, jaL g 4 kf)] sz_)) (cc := cX5_firstCase) (maxL := 6) (ret := (some .int)) (own := RX5) (L := [(0, .ref m0), (1, .int (nI k)), (2, .int (nI k2)), (3, .int (nI d)), (4, .int (nI v))]) (by decide) rfl rfl (Nat.le_of_ble_eq_true rfl) rfl (fun p e s m args below meth c C hr => ?_)
  refine j_aload_n 0 C dX5_firstCase_0 rfl rfl ?_
  refine j_aload_n 0 C dX5_firstCase_1 rfl rfl ?_
  refine j_aload_n 0 C dX5_firstCase_2 rfl rfl ?_
  refine j_iload_n 1 C dX5_firstCase_3 rfl rfl ?_
  refine j_callRi (v := jb (jBt (nI k) 0 ((nI N) - 1))) (j_runV (ci := 0) (As := [.int (nI k)]) (rest := [.ref m0, .ref m0]) [0] C (c_X5_isProgram l g m0 th (nI N) tb md rw0 sz cs va lk rn kp (nI k)) gX5_firstCase_X5_isProgram rfl rfl rfl hd_X5_isProgram ⟨Nat.le_of_ble_eq_true rfl, Nat.le_of_ble_eq_true rfl⟩ rfl rfl rfl rfl dX5_firstCase_4 rfl (Nat.le_of_ble_eq_true rfl) ⟨Nat.le_of_ble_eq_true rfl, Nat.le_of_ble_eq_true rfl⟩) ?_
  refine j_eq (pc' := 7) (L' := [(0, .ref m0), (1, .int (nI k)), (2, .int (nI k2)), (3, .int (nI d)), (4, .int (nI v))]) (st' := [.int (jb true), .ref m0, .ref m0]) (ws' := [(m0, .inr (4, [.int th, .int (nI N), .ref tb, .ref md, .ref rw0, .int sz, .ref cs, .ref va, .int lk, .ref rn, .ref kp])), (tb, jaR g 10 (fun i => some (tr i))), (tr k, jaI g 253 (jrw n f)), (tr k2, jaI g 253 (jrw n2 f2)), (va, jaL g 4 vv), (cs, jaL g 6 cf), (kp, jaL g 4 kf)]) ?_ rfl rfl (by rw [jBt_n hk (by omega)]) rfl
  refine j_if_eq (tgt := 22) C dX5_firstCase_7 (by decide) (fun c_1 => ?_) (fun c_1 => ?_)
  · skip
    have c_1 : true = false := jb_0 c_1
    (first | exact absurd c_1 (by decide) | exact absurd c_1 (by omega) | simp_all)
  · skip
    have c_1 : true = true := jb_1 c_1
    refine j_aload_n 0 C dX5_firstCase_10 rfl rfl ?_
    refine j_iload_n 2 C dX5_firstCase_11 rfl rfl ?_
    refine j_callRi (v := jb (jBt (nI k2) 0 ((nI N) - 1))) (j_runV (ci := 0) (As := [.int (nI k2)]) (rest := [.ref m0, .ref m0]) [0] C (c_X5_isProgram l g m0 th (nI N) tb md rw0 sz cs va lk rn kp (nI k2)) gX5_firstCase_X5_isProgram rfl rfl rfl hd_X5_isProgram ⟨Nat.le_of_ble_eq_true rfl, Nat.le_of_ble_eq_true rfl⟩ rfl rfl rfl rfl dX5_firstCase_12 rfl (Nat.le_of_ble_eq_true rfl) ⟨Nat.le_of_ble_eq_true rfl, Nat.le_of_ble_eq_true rfl⟩) ?_
    refine j_eq (pc' := 15) (L' := [(0, .ref m0), (1, .int (nI k)), (2, .int (nI k2)), (3, .int (nI d)), (4, .int (nI v))]) (st' := [.int (jb true), .ref m0, .ref m0]) (ws' := [(m0, .inr (4, [.int th, .int (nI N), .ref tb, .ref md, .ref rw0, .int sz, .ref cs, .ref va, .int lk, .ref rn, .ref kp])), (tb, jaR g 10 (fun i => some (tr i))), (tr k, jaI g 253 (jrw n f)), (tr k2, jaI g 253 (jrw n2 f2)), (va, jaL g 4 vv), (cs, jaL g 6 cf), (kp, jaL g 4 kf)]) ?_ rfl rfl (by rw [jBt_n hk2 (by omega)]) rfl
    refine j_if_eq (tgt := 22) C dX5_firstCase_15 (by decide) (fun c_2 => ?_) (fun c_2 => ?_)
    · skip
      have c_2 : true = false := jb_0 c_2
      (first | exact absurd c_2 (by decide) | exact absurd c_2 (by omega) | simp_all)
    · skip
      have c_2 : true = true := jb_1 c_2
      refine j_iconst (v := 1) C dX5_firstCase_18 rfl ?_
      refine j_goto (tgt := 23) C dX5_firstCase_19 (by decide) ?_
      refine j_iload_n 3 C dX5_firstCase_23 rfl rfl ?_
      refine j_iload 4 C dX5_firstCase_24 rfl ?_
      refine j_callRi (v := 0) (j_runV (ci := 0) (As := [.int 1, .int (nI d), .int (nI v)]) (rest := [.ref m0]) [] C (c_X5_whyCases l g m0 d v (by omega) (by omega) (by omega) (by omega)) gX5_firstCase_X5_whyCases rfl rfl rfl hd_X5_whyCases ⟨Nat.le_of_ble_eq_true rfl, Nat.le_of_ble_eq_true rfl⟩ rfl rfl rfl rfl dX5_firstCase_26 rfl (Nat.le_of_ble_eq_true rfl) ⟨Nat.le_of_ble_eq_true rfl, Nat.le_of_ble_eq_true rfl⟩) ?_
      refine j_put (Cn := RX5) (T := TX5) (N := 11) (ws' := [(m0, .inr (4, [.int 0, .int (nI N), .ref tb, .ref md, .ref rw0, .int sz, .ref cs, .ref va, .int lk, .ref rn, .ref kp])), (tb, jaR g 10 (fun i => some (tr i))), (tr k, jaI g 253 (jrw n f)), (tr k2, jaI g 253 (jrw n2 f2)), (va, jaL g 4 vv), (cs, jaL g 6 cf), (kp, jaL g 4 kf)]) tyX5 0 0 C dX5_firstCase_29 hin_X5_firstCase_X5 tyX5_ok nmX5 rfl rfl (by decide) (List.mem_of_getElem? (i := 1) rfl) rfl (tyX5_ok 0 (by decide)) rfl rfl (Nat.le_of_ble_eq_true rfl) rfl ?_
      refine j_aload_n 0 C dX5_firstCase_32 rfl rfl ?_
      refine j_get (Cn := RX5) (T := TX5) (N := 11) 0 0 C dX5_firstCase_33 hin_X5_firstCase_X5 rfl rfl (by decide) (List.mem_of_getElem? (i := 1) rfl) rfl ?_
      refine j_if_eq (tgt := 41) C dX5_firstCase_36 (by decide) (fun c_3 => ?_) (fun c_3 => ?_)
      · skip
        refine j_iconst (v := 0) C dX5_firstCase_41 rfl ?_
        refine j_istore (L' := [(0, .ref m0), (1, .int (nI k)), (2, .int (nI k2)), (3, .int (nI d)), (4, .int (nI v)), (5, .int 0)]) C dX5_firstCase_42 (Nat.le_of_ble_eq_true rfl) rfl rfl ?_
        refine j_loop (σ := Nat × Int32 × (Nat → Int64) × (Nat → Int64) × (Nat → Int64)) (fun (x9_ : Nat × Int32 × (Nat → Int64) × (Nat → Int64) × (Nat → Int64)) => match x9_ with | (x, lk1, w1, k1, c1) => [(0, .ref m0), (1, .int (nI k)), (2, .int (nI k2)), (3, .int (nI d)), (4, .int (nI v)), (5, .int (nI x))]) (fun (x9_ : Nat × Int32 × (Nat → Int64) × (Nat → Int64) × (Nat → Int64)) => match x9_ with | (x, lk1, w1, k1, c1) => [(m0, .inr (4, [.int 0, .int (nI N), .ref tb, .ref md, .ref rw0, .int sz, .ref cs, .ref va, .int lk1, .ref rn, .ref kp])), (tb, jaR g 10 (fun i => some (tr i))), (tr k, jaI g 253 (jrw n f)), (tr k2, jaI g 253 (jrw n2 f2)), (va, jaL g 4 w1), (cs, jaL g 6 c1), (kp, jaL g 4 k1)]) (fun (x9_ : Nat × Int32 × (Nat → Int64) × (Nat → Int64) × (Nat → Int64)) => match x9_ with | (x, lk1, w1, k1, c1) => (x ≤ v ^ d) ∧ (jFc (jSm n f n2 f2 d v) (v ^ d - x) x = jFc (jSm n f n2 f2 d v) (v ^ d) 0)) (fun (x9_ : Nat × Int32 × (Nat → Int64) × (Nat → Int64) × (Nat → Int64)) => match x9_ with | (x, lk1, w1, k1, c1) => v ^ d - x) (fun x_ hi_5 ih_4 => ?_) (0, lk, vv, kf, cf) ⟨(by omega), rfl⟩ rfl rfl
        obtain ⟨x, lk1, w1, k1, c1⟩ := x_
        obtain ⟨hI0, hI1⟩ := (show (x ≤ v ^ d) ∧ (jFc (jSm n f n2 f2 d v) (v ^ d - x) x = jFc (jSm n f n2 f2 d v) (v ^ d) 0) from hi_5)
        refine j_eq (pc' := 44) (L' := [(0, .ref m0), (1, .int (nI k)), (2, .int (nI k2)), (3, .int (nI d)), (4, .int (nI v)), (5, .int (nI x))]) (st' := []) (ws' := [(m0, .inr (4, [.int 0, .int (nI N), .ref tb, .ref md, .ref rw0, .int sz, .ref cs, .ref va, .int lk1, .ref rn, .ref kp])), (tb, jaR g 10 (fun i => some (tr i))), (tr k, jaI g 253 (jrw n f)), (tr k2, jaI g 253 (jrw n2 f2)), (va, jaL g 4 w1), (cs, jaL g 6 c1), (kp, jaL g 4 k1)]) ?_ rfl rfl rfl rfl
        refine j_iload 5 C dX5_firstCase_44 rfl ?_
        refine j_iload_n 3 C dX5_firstCase_46 rfl rfl ?_
        refine j_iload 4 C dX5_firstCase_47 rfl ?_
        refine j_callRi (v := nI (v ^ d)) (j_runS (As := [.int (nI d), .int (nI v)]) (rest := [.int (nI x)]) [] C (c_X5_rows l g d v (by omega) (by omega) (by omega) (by omega)) gX5_firstCase_X5_rows rfl rfl rfl hd_X5_rows ⟨Nat.le_of_ble_eq_true rfl, Nat.le_of_ble_eq_true rfl⟩ rfl rfl dX5_firstCase_49 rfl (Nat.le_of_ble_eq_true rfl) ⟨Nat.le_of_ble_eq_true rfl, Nat.le_of_ble_eq_true rfl⟩) ?_
        refine j_icmp_ge (tgt := 83) C dX5_firstCase_52 (by decide) (fun c_6 => ?_) (fun c_6 => ?_)
        · skip
          have c_6 : (v ^ d) ≤ x := (nI_leI (a := v ^ d) (b := x) (by omega) (by omega)).mp c_6
          refine j_iconst (v := -1) C dX5_firstCase_83 rfl ?_
          exact j_iretW (v := -1) C hr dX5_firstCase_84 (lk1, w1, k1, c1) (by rw [← hI1, show v ^ d - x = 0 by omega]; rfl) rfl
        · skip
          have c_6 : ¬ (v ^ d) ≤ x := fun z => c_6 ((nI_leI (a := v ^ d) (b := x) (by omega) (by omega)).mpr z)
          obtain ⟨r1, hr1⟩ : ∃ r, jRn n f (jLy d v x 0 c1) d = r := ⟨_, rfl⟩
          obtain ⟨r2, hr2⟩ : ∃ r, jRn n2 f2 (jLy d v x 0 c1) d = r := ⟨_, rfl⟩
          have hS : jAL r1.1 r1.2.2 r2.1 r2.2.2 = (jSm n f n2 f2 d v) x := by rw [← hr1, ← hr2, jRn_cs, jRn_cs]; rfl
          refine j_aload_n 0 C dX5_firstCase_55 rfl rfl ?_
          refine j_iload 5 C dX5_firstCase_56 rfl ?_
          refine j_iload_n 3 C dX5_firstCase_58 rfl rfl ?_
          refine j_iload 4 C dX5_firstCase_59 rfl ?_
          refine j_callWv [0, 5] (fun _ => [(m0, .inr (4, [.int 0, .int (nI N), .ref tb, .ref md, .ref rw0, .int sz, .ref cs, .ref va, .int lk1, .ref rn, .ref kp])), (tb, jaR g 10 (fun i => some (tr i))), (tr k, jaI g 253 (jrw n f)), (tr k2, jaI g 253 (jrw n2 f2)), (va, jaL g 4 w1), (cs, jaL g 6 (jLy d v x 0 c1)), (kp, jaL g 4 k1)]) C (j_runV (ci := 0) (As := [.int (nI x), .int (nI d), .int (nI v)]) (rest := []) [0, 5] C (c_X5_layCase l g m0 0 (nI N) tb md rw0 sz cs va lk1 rn kp x d v c1 (by omega) (by omega) (by omega) (by omega)) gX5_firstCase_X5_layCase rfl rfl rfl hd_X5_layCase ⟨Nat.le_of_ble_eq_true rfl, Nat.le_of_ble_eq_true rfl⟩ rfl rfl rfl rfl dX5_firstCase_61 rfl (Nat.le_of_ble_eq_true rfl) ⟨Nat.le_of_ble_eq_true rfl, Nat.le_of_ble_eq_true rfl⟩) rfl (fun _ => rfl) (fun _ => rfl) (fun _ _ => ?_)
          refine j_aload_n 0 C dX5_firstCase_64 rfl rfl ?_
          refine j_iload_n 1 C dX5_firstCase_65 rfl rfl ?_
          refine j_iload_n 2 C dX5_firstCase_66 rfl rfl ?_
          refine j_iload_n 3 C dX5_firstCase_67 rfl rfl ?_
          refine j_callWi [0, 1, 2, 3, 4, 5, 6] (fun _ => [(m0, .inr (4, [.int 0, .int (nI N), .ref tb, .ref md, .ref rw0, .int sz, .ref cs, .ref va, .int r2.2.1, .ref rn, .ref kp])), (tb, jaR g 10 (fun i => some (tr i))), (tr k, jaI g 253 (jrw n f)), (tr k2, jaI g 253 (jrw n2 f2)), (va, jaL g 4 r2.1), (cs, jaL g 6 (jLy d v x 0 c1)), (kp, jaL g 4 r1.1)]) C (j_runV (ci := 0) (As := [.int (nI k), .int (nI k2), .int (nI d)]) (rest := []) [0, 1, 2, 3, 4, 5, 6] C (c_X5_isSame l g m0 0 N tb md rw0 sz cs va lk1 rn kp tr k n f k2 n2 f2 w1 (jLy d v x 0 c1) k1 d r1 r2 (by omega) (by omega) (by omega) (by omega) (by omega) hr1 hr2) gX5_firstCase_X5_isSame rfl rfl rfl hd_X5_isSame ⟨Nat.le_of_ble_eq_true rfl, Nat.le_of_ble_eq_true rfl⟩ rfl rfl rfl rfl dX5_firstCase_68 rfl (Nat.le_of_ble_eq_true rfl) ⟨Nat.le_of_ble_eq_true rfl, Nat.le_of_ble_eq_true rfl⟩) rfl (fun _ => rfl) (fun _ => rfl) (fun z _ hz => ?_)
          subst hz
          refine j_eq (pc' := 71) (L' := [(0, .ref m0), (1, .int (nI k)), (2, .int (nI k2)), (3, .int (nI d)), (4, .int (nI v)), (5, .int (nI x))]) (st' := [.int (jb ((jSm n f n2 f2 d v) x))]) (ws' := [(m0, .inr (4, [.int 0, .int (nI N), .ref tb, .ref md, .ref rw0, .int sz, .ref cs, .ref va, .int r2.2.1, .ref rn, .ref kp])), (tb, jaR g 10 (fun i => some (tr i))), (tr k, jaI g 253 (jrw n f)), (tr k2, jaI g 253 (jrw n2 f2)), (va, jaL g 4 r2.1), (cs, jaL g 6 (jLy d v x 0 c1)), (kp, jaL g 4 r1.1)]) ?_ rfl rfl (by rw [hS]) rfl
          refine j_if_ne (tgt := 77) C dX5_firstCase_71 (by decide) (fun c_8 => ?_) (fun c_8 => ?_)
          · skip
            have c_8 : ((jSm n f n2 f2 d v) x) = true := jb_1 c_8
            refine j_iinc (v := nI (x + 1)) (L' := [(0, .ref m0), (1, .int (nI k)), (2, .int (nI k2)), (3, .int (nI d)), (4, .int (nI v)), (5, .int (nI (x + 1)))]) 5 C dX5_firstCase_77 rfl (nI_add x 1) (Nat.le_of_ble_eq_true rfl) rfl rfl ?_
            refine j_goto (tgt := 44) C dX5_firstCase_80 (by decide) ?_
            exact ih_4 (x + 1, r2.2.1, r2.1, r1.1, (jLy d v x 0 c1)) ⟨(by omega), (by rw [← hI1, show v ^ d - x = (v ^ d - (x + 1)) + 1 by omega, jFc_s, if_pos (by assumption)])⟩ (show v ^ d - (x + 1) < v ^ d - x from by omega)
          · skip
            have c_8 : ((jSm n f n2 f2 d v) x) = false := jb_0 c_8
            refine j_iload 5 C dX5_firstCase_74 rfl ?_
            exact j_iretW (v := nI x) C hr dX5_firstCase_76 (r2.2.1, r2.1, r1.1, (jLy d v x 0 c1)) (by rw [← hI1, show v ^ d - x = (v ^ d - (x + 1)) + 1 by omega, jFc_s, if_neg (by rw [‹(jSm n f n2 f2 d v) x = false›]; decide)]) rfl
      · skip
        exact absurd c_3 (by decide)
set_option maxHeartbeats 4000000 in
set_option maxRecDepth 100000 in
theorem c_X5_firstCase_e (l : Launch) (g : jG) (m0 : Nat) (th : Int32) (N tb md rw0 : Nat) (sz : Int32) (cs va : Nat) (lk : Int32) (rn kp : Nat) (tr : Nat → Nat) (k n : Nat) (f : Nat → Int32) (vv cf kf : Nat → Int64) (d v : Nat) (hk : k < N) (hN : N ≤ 10) (hok : jOk n f) (hd : d ≤ 6) (hv : v ≤ 4) (hv1 : 1 ≤ v) (hp : v ^ d ≤ 1024) : jXi l yX5_firstCase wsX5_firstCase ({ frames := 6, cells := 0, slots := 0, locals := 223 }) g [.ref m0, .int (nI k), .int (nI k), .int (nI d), .int (nI v)] [(m0, .inr (4, [.int th, .int (nI N), .ref tb, .ref md, .ref rw0, .int sz, .ref cs, .ref va, .int lk, .ref rn, .ref kp])), (tb, jaR g 10 (fun i => some (tr i))), (tr k, jaI g 253 (jrw n f)), (va, jaL g 4 vv), (cs, jaL g 6 cf), (kp, jaL g 4 kf)] (fun (u9_ : Int32 × (Nat → Int64) × (Nat → Int64) × (Nat → Int64)) => [(m0, .inr (4, [.int 0, .int (nI N), .ref tb, .ref md, .ref rw0, .int sz, .ref cs, .ref va, .int u9_.1, .ref rn, .ref kp])), (tb, jaR g 10 (fun i => some (tr i))), (tr k, jaI g 253 (jrw n f)), (va, jaL g 4 u9_.2.1), (cs, jaL g 6 u9_.2.2.2), (kp, jaL g 4 u9_.2.2.1)]) (jFc (jSm n f n f d v) (v ^ d) 0) := by
  refine j_enterW (y := yX5_firstCase) (wsy := wsX5_firstCase) (rm := { frames := 6, cells := 0, slots := 0, locals := 223 }) (g := g) (As := [.ref m0, .int (nI k), .int (nI k), .int (nI d), .int (nI v)]) (wc := [(m0, .inr (4, [.int th, .int (nI N), .ref tb, .ref md, .ref rw0, .int sz, .ref cs, .ref va, .int lk, .ref rn, .ref kp])), (tb, jaR g 10 (fun i => some (tr i))), (tr k, jaI g 253 (jrw n f)), (va, jaL g 4 vv), (cs, jaL g 6 cf), (kp, jaL g 4 kf)]) (mc := 0) (ms := 0) (Qc := fun sz_ => va_Qi (fun r (_ : Int32 × (Nat → Int64) × (Nat → Int64) × (Nat → Int64)) => r = jFc (jSm n f n f d v) (v ^ d) 0) (fun u t => va_P g.1 vwCl ((fun (u9_ : Int32 × (Nat → Int64) × (Nat → Int64) × (Nat → Int64)) => [(m0, .inr (4, [.int 0, .int (nI N), .ref tb, .ref md, .ref rw0, .int sz, .ref cs, .ref va, .int u9_.1, .ref rn, .ref kp])), (tb, jaR g 10 (fun i => some (tr i))), (tr k, jaI g 253 (jrw n f)), (va, jaL g 4 u9_.2.1), (cs, jaL g 6 u9_.2.2.2), (kp, jaL g 4 u9_.2.2.1)]) u) t.heap) (va_A [(m0, .inr (4, [.int th, .int (nI N), .ref tb, .ref md, .ref rw0, .int sz, .ref cs, .ref va, .int lk, .ref rn, .ref kp])), (tb, jaR g 10 (fun i => some (tr i))), (tr k, jaI g 253 (jrw n f)), (va, jaL g 4 vv), (cs, jaL g 6 cf), (kp, jaL g 4 kf)] sz_)) (cc := cX5_firstCase) (maxL := 6) (ret := (some .int)) (own := RX5) (L := [(0, .ref m0), (1, .int (nI k)), (2, .int (nI k)), (3, .int (nI d)), (4, .int (nI v))]) (by decide) rfl rfl (Nat.le_of_ble_eq_true rfl) rfl (fun p e s m args below meth c C hr => ?_)
  refine j_aload_n 0 C dX5_firstCase_0 rfl rfl ?_
  refine j_aload_n 0 C dX5_firstCase_1 rfl rfl ?_
  refine j_aload_n 0 C dX5_firstCase_2 rfl rfl ?_
  refine j_iload_n 1 C dX5_firstCase_3 rfl rfl ?_
  refine j_callRi (v := jb (jBt (nI k) 0 ((nI N) - 1))) (j_runV (ci := 0) (As := [.int (nI k)]) (rest := [.ref m0, .ref m0]) [0] C (c_X5_isProgram l g m0 th (nI N) tb md rw0 sz cs va lk rn kp (nI k)) gX5_firstCase_X5_isProgram rfl rfl rfl hd_X5_isProgram ⟨Nat.le_of_ble_eq_true rfl, Nat.le_of_ble_eq_true rfl⟩ rfl rfl rfl rfl dX5_firstCase_4 rfl (Nat.le_of_ble_eq_true rfl) ⟨Nat.le_of_ble_eq_true rfl, Nat.le_of_ble_eq_true rfl⟩) ?_
  refine j_eq (pc' := 7) (L' := [(0, .ref m0), (1, .int (nI k)), (2, .int (nI k)), (3, .int (nI d)), (4, .int (nI v))]) (st' := [.int (jb true), .ref m0, .ref m0]) (ws' := [(m0, .inr (4, [.int th, .int (nI N), .ref tb, .ref md, .ref rw0, .int sz, .ref cs, .ref va, .int lk, .ref rn, .ref kp])), (tb, jaR g 10 (fun i => some (tr i))), (tr k, jaI g 253 (jrw n f)), (va, jaL g 4 vv), (cs, jaL g 6 cf), (kp, jaL g 4 kf)]) ?_ rfl rfl (by rw [jBt_n hk (by omega)]) rfl
  refine j_if_eq (tgt := 22) C dX5_firstCase_7 (by decide) (fun c_1 => ?_) (fun c_1 => ?_)
  · skip
    have c_1 : true = false := jb_0 c_1
    (first | exact absurd c_1 (by decide) | exact absurd c_1 (by omega) | simp_all)
  · skip
    have c_1 : true = true := jb_1 c_1
    refine j_aload_n 0 C dX5_firstCase_10 rfl rfl ?_
    refine j_iload_n 2 C dX5_firstCase_11 rfl rfl ?_
    refine j_callRi (v := jb (jBt (nI k) 0 ((nI N) - 1))) (j_runV (ci := 0) (As := [.int (nI k)]) (rest := [.ref m0, .ref m0]) [0] C (c_X5_isProgram l g m0 th (nI N) tb md rw0 sz cs va lk rn kp (nI k)) gX5_firstCase_X5_isProgram rfl rfl rfl hd_X5_isProgram ⟨Nat.le_of_ble_eq_true rfl, Nat.le_of_ble_eq_true rfl⟩ rfl rfl rfl rfl dX5_firstCase_12 rfl (Nat.le_of_ble_eq_true rfl) ⟨Nat.le_of_ble_eq_true rfl, Nat.le_of_ble_eq_true rfl⟩) ?_
    refine j_eq (pc' := 15) (L' := [(0, .ref m0), (1, .int (nI k)), (2, .int (nI k)), (3, .int (nI d)), (4, .int (nI v))]) (st' := [.int (jb true), .ref m0, .ref m0]) (ws' := [(m0, .inr (4, [.int th, .int (nI N), .ref tb, .ref md, .ref rw0, .int sz, .ref cs, .ref va, .int lk, .ref rn, .ref kp])), (tb, jaR g 10 (fun i => some (tr i))), (tr k, jaI g 253 (jrw n f)), (va, jaL g 4 vv), (cs, jaL g 6 cf), (kp, jaL g 4 kf)]) ?_ rfl rfl (by rw [jBt_n hk (by omega)]) rfl
    refine j_if_eq (tgt := 22) C dX5_firstCase_15 (by decide) (fun c_2 => ?_) (fun c_2 => ?_)
    · skip
      have c_2 : true = false := jb_0 c_2
      (first | exact absurd c_2 (by decide) | exact absurd c_2 (by omega) | simp_all)
    · skip
      have c_2 : true = true := jb_1 c_2
      refine j_iconst (v := 1) C dX5_firstCase_18 rfl ?_
      refine j_goto (tgt := 23) C dX5_firstCase_19 (by decide) ?_
      refine j_iload_n 3 C dX5_firstCase_23 rfl rfl ?_
      refine j_iload 4 C dX5_firstCase_24 rfl ?_
      refine j_callRi (v := 0) (j_runV (ci := 0) (As := [.int 1, .int (nI d), .int (nI v)]) (rest := [.ref m0]) [] C (c_X5_whyCases l g m0 d v (by omega) (by omega) (by omega) (by omega)) gX5_firstCase_X5_whyCases rfl rfl rfl hd_X5_whyCases ⟨Nat.le_of_ble_eq_true rfl, Nat.le_of_ble_eq_true rfl⟩ rfl rfl rfl rfl dX5_firstCase_26 rfl (Nat.le_of_ble_eq_true rfl) ⟨Nat.le_of_ble_eq_true rfl, Nat.le_of_ble_eq_true rfl⟩) ?_
      refine j_put (Cn := RX5) (T := TX5) (N := 11) (ws' := [(m0, .inr (4, [.int 0, .int (nI N), .ref tb, .ref md, .ref rw0, .int sz, .ref cs, .ref va, .int lk, .ref rn, .ref kp])), (tb, jaR g 10 (fun i => some (tr i))), (tr k, jaI g 253 (jrw n f)), (va, jaL g 4 vv), (cs, jaL g 6 cf), (kp, jaL g 4 kf)]) tyX5 0 0 C dX5_firstCase_29 hin_X5_firstCase_X5 tyX5_ok nmX5 rfl rfl (by decide) (List.mem_of_getElem? (i := 1) rfl) rfl (tyX5_ok 0 (by decide)) rfl rfl (Nat.le_of_ble_eq_true rfl) rfl ?_
      refine j_aload_n 0 C dX5_firstCase_32 rfl rfl ?_
      refine j_get (Cn := RX5) (T := TX5) (N := 11) 0 0 C dX5_firstCase_33 hin_X5_firstCase_X5 rfl rfl (by decide) (List.mem_of_getElem? (i := 1) rfl) rfl ?_
      refine j_if_eq (tgt := 41) C dX5_firstCase_36 (by decide) (fun c_3 => ?_) (fun c_3 => ?_)
      · skip
        refine j_iconst (v := 0) C dX5_firstCase_41 rfl ?_
        refine j_istore (L' := [(0, .ref m0), (1, .int (nI k)), (2, .int (nI k)), (3, .int (nI d)), (4, .int (nI v)), (5, .int 0)]) C dX5_firstCase_42 (Nat.le_of_ble_eq_true rfl) rfl rfl ?_
        refine j_loop (σ := Nat × Int32 × (Nat → Int64) × (Nat → Int64) × (Nat → Int64)) (fun (x9_ : Nat × Int32 × (Nat → Int64) × (Nat → Int64) × (Nat → Int64)) => match x9_ with | (x, lk1, w1, k1, c1) => [(0, .ref m0), (1, .int (nI k)), (2, .int (nI k)), (3, .int (nI d)), (4, .int (nI v)), (5, .int (nI x))]) (fun (x9_ : Nat × Int32 × (Nat → Int64) × (Nat → Int64) × (Nat → Int64)) => match x9_ with | (x, lk1, w1, k1, c1) => [(m0, .inr (4, [.int 0, .int (nI N), .ref tb, .ref md, .ref rw0, .int sz, .ref cs, .ref va, .int lk1, .ref rn, .ref kp])), (tb, jaR g 10 (fun i => some (tr i))), (tr k, jaI g 253 (jrw n f)), (va, jaL g 4 w1), (cs, jaL g 6 c1), (kp, jaL g 4 k1)]) (fun (x9_ : Nat × Int32 × (Nat → Int64) × (Nat → Int64) × (Nat → Int64)) => match x9_ with | (x, lk1, w1, k1, c1) => (x ≤ v ^ d) ∧ (jFc (jSm n f n f d v) (v ^ d - x) x = jFc (jSm n f n f d v) (v ^ d) 0)) (fun (x9_ : Nat × Int32 × (Nat → Int64) × (Nat → Int64) × (Nat → Int64)) => match x9_ with | (x, lk1, w1, k1, c1) => v ^ d - x) (fun x_ hi_5 ih_4 => ?_) (0, lk, vv, kf, cf) ⟨(by omega), rfl⟩ rfl rfl
        obtain ⟨x, lk1, w1, k1, c1⟩ := x_
        obtain ⟨hI0, hI1⟩ := (show (x ≤ v ^ d) ∧ (jFc (jSm n f n f d v) (v ^ d - x) x = jFc (jSm n f n f d v) (v ^ d) 0) from hi_5)
        refine j_eq (pc' := 44) (L' := [(0, .ref m0), (1, .int (nI k)), (2, .int (nI k)), (3, .int (nI d)), (4, .int (nI v)), (5, .int (nI x))]) (st' := []) (ws' := [(m0, .inr (4, [.int 0, .int (nI N), .ref tb, .ref md, .ref rw0, .int sz, .ref cs, .ref va, .int lk1, .ref rn, .ref kp])), (tb, jaR g 10 (fun i => some (tr i))), (tr k, jaI g 253 (jrw n f)), (va, jaL g 4 w1), (cs, jaL g 6 c1), (kp, jaL g 4 k1)]) ?_ rfl rfl rfl rfl
        refine j_iload 5 C dX5_firstCase_44 rfl ?_
        refine j_iload_n 3 C dX5_firstCase_46 rfl rfl ?_
        refine j_iload 4 C dX5_firstCase_47 rfl ?_
        refine j_callRi (v := nI (v ^ d)) (j_runS (As := [.int (nI d), .int (nI v)]) (rest := [.int (nI x)]) [] C (c_X5_rows l g d v (by omega) (by omega) (by omega) (by omega)) gX5_firstCase_X5_rows rfl rfl rfl hd_X5_rows ⟨Nat.le_of_ble_eq_true rfl, Nat.le_of_ble_eq_true rfl⟩ rfl rfl dX5_firstCase_49 rfl (Nat.le_of_ble_eq_true rfl) ⟨Nat.le_of_ble_eq_true rfl, Nat.le_of_ble_eq_true rfl⟩) ?_
        refine j_icmp_ge (tgt := 83) C dX5_firstCase_52 (by decide) (fun c_6 => ?_) (fun c_6 => ?_)
        · skip
          have c_6 : (v ^ d) ≤ x := (nI_leI (a := v ^ d) (b := x) (by omega) (by omega)).mp c_6
          refine j_iconst (v := -1) C dX5_firstCase_83 rfl ?_
          exact j_iretW (v := -1) C hr dX5_firstCase_84 (lk1, w1, k1, c1) (by rw [← hI1, show v ^ d - x = 0 by omega]; rfl) rfl
        · skip
          have c_6 : ¬ (v ^ d) ≤ x := fun z => c_6 ((nI_leI (a := v ^ d) (b := x) (by omega) (by omega)).mpr z)
          obtain ⟨r1, hr1⟩ : ∃ r, jRn n f (jLy d v x 0 c1) d = r := ⟨_, rfl⟩
          have hS : jAL r1.1 r1.2.2 r1.1 r1.2.2 = (jSm n f n f d v) x := by rw [← hr1, jRn_cs]; rfl
          refine j_aload_n 0 C dX5_firstCase_55 rfl rfl ?_
          refine j_iload 5 C dX5_firstCase_56 rfl ?_
          refine j_iload_n 3 C dX5_firstCase_58 rfl rfl ?_
          refine j_iload 4 C dX5_firstCase_59 rfl ?_
          refine j_callWv [0, 4] (fun _ => [(m0, .inr (4, [.int 0, .int (nI N), .ref tb, .ref md, .ref rw0, .int sz, .ref cs, .ref va, .int lk1, .ref rn, .ref kp])), (tb, jaR g 10 (fun i => some (tr i))), (tr k, jaI g 253 (jrw n f)), (va, jaL g 4 w1), (cs, jaL g 6 (jLy d v x 0 c1)), (kp, jaL g 4 k1)]) C (j_runV (ci := 0) (As := [.int (nI x), .int (nI d), .int (nI v)]) (rest := []) [0, 4] C (c_X5_layCase l g m0 0 (nI N) tb md rw0 sz cs va lk1 rn kp x d v c1 (by omega) (by omega) (by omega) (by omega)) gX5_firstCase_X5_layCase rfl rfl rfl hd_X5_layCase ⟨Nat.le_of_ble_eq_true rfl, Nat.le_of_ble_eq_true rfl⟩ rfl rfl rfl rfl dX5_firstCase_61 rfl (Nat.le_of_ble_eq_true rfl) ⟨Nat.le_of_ble_eq_true rfl, Nat.le_of_ble_eq_true rfl⟩) rfl (fun _ => rfl) (fun _ => rfl) (fun _ _ => ?_)
          refine j_aload_n 0 C dX5_firstCase_64 rfl rfl ?_
          refine j_iload_n 1 C dX5_firstCase_65 rfl rfl ?_
          refine j_iload_n 2 C dX5_firstCase_66 rfl rfl ?_
          refine j_iload_n 3 C dX5_firstCase_67 rfl rfl ?_
          refine j_callWi [0, 1, 2, 3, 4, 5] (fun _ => [(m0, .inr (4, [.int 0, .int (nI N), .ref tb, .ref md, .ref rw0, .int sz, .ref cs, .ref va, .int r1.2.1, .ref rn, .ref kp])), (tb, jaR g 10 (fun i => some (tr i))), (tr k, jaI g 253 (jrw n f)), (va, jaL g 4 r1.1), (cs, jaL g 6 (jLy d v x 0 c1)), (kp, jaL g 4 r1.1)]) C (j_runV (ci := 0) (As := [.int (nI k), .int (nI k), .int (nI d)]) (rest := []) [0, 1, 2, 3, 4, 5] C (c_X5_isSame_e l g m0 0 N tb md rw0 sz cs va lk1 rn kp tr k n f w1 (jLy d v x 0 c1) k1 d r1 (by omega) (by omega) (by omega) hr1) gX5_firstCase_X5_isSame rfl rfl rfl hd_X5_isSame ⟨Nat.le_of_ble_eq_true rfl, Nat.le_of_ble_eq_true rfl⟩ rfl rfl rfl rfl dX5_firstCase_68 rfl (Nat.le_of_ble_eq_true rfl) ⟨Nat.le_of_ble_eq_true rfl, Nat.le_of_ble_eq_true rfl⟩) rfl (fun _ => rfl) (fun _ => rfl) (fun z _ hz => ?_)
          subst hz
          refine j_eq (pc' := 71) (L' := [(0, .ref m0), (1, .int (nI k)), (2, .int (nI k)), (3, .int (nI d)), (4, .int (nI v)), (5, .int (nI x))]) (st' := [.int (jb ((jSm n f n f d v) x))]) (ws' := [(m0, .inr (4, [.int 0, .int (nI N), .ref tb, .ref md, .ref rw0, .int sz, .ref cs, .ref va, .int r1.2.1, .ref rn, .ref kp])), (tb, jaR g 10 (fun i => some (tr i))), (tr k, jaI g 253 (jrw n f)), (va, jaL g 4 r1.1), (cs, jaL g 6 (jLy d v x 0 c1)), (kp, jaL g 4 r1.1)]) ?_ rfl rfl (by rw [hS]) rfl
          refine j_if_ne (tgt := 77) C dX5_firstCase_71 (by decide) (fun c_8 => ?_) (fun c_8 => ?_)
          · skip
            have c_8 : ((jSm n f n f d v) x) = true := jb_1 c_8
            refine j_iinc (v := nI (x + 1)) (L' := [(0, .ref m0), (1, .int (nI k)), (2, .int (nI k)), (3, .int (nI d)), (4, .int (nI v)), (5, .int (nI (x + 1)))]) 5 C dX5_firstCase_77 rfl (nI_add x 1) (Nat.le_of_ble_eq_true rfl) rfl rfl ?_
            refine j_goto (tgt := 44) C dX5_firstCase_80 (by decide) ?_
            exact ih_4 (x + 1, r1.2.1, r1.1, r1.1, (jLy d v x 0 c1)) ⟨(by omega), (by rw [← hI1, show v ^ d - x = (v ^ d - (x + 1)) + 1 by omega, jFc_s, if_pos (by assumption)])⟩ (show v ^ d - (x + 1) < v ^ d - x from by omega)
          · skip
            have c_8 : ((jSm n f n f d v) x) = false := jb_0 c_8
            refine j_iload 5 C dX5_firstCase_74 rfl ?_
            exact j_iretW (v := nI x) C hr dX5_firstCase_76 (r1.2.1, r1.1, r1.1, (jLy d v x 0 c1)) (by rw [← hI1, show v ^ d - x = (v ^ d - (x + 1)) + 1 by omega, jFc_s, if_neg (by rw [‹(jSm n f n f d v) x = false›]; decide)]) rfl
      · skip
        exact absurd c_3 (by decide)
set_option maxHeartbeats 4000000 in
set_option maxRecDepth 100000 in
theorem c_X5_cost_true (l : Launch) (g : jG) (m0 : Nat) (th : Int32) (N tb md rw0 : Nat) (sz : Int32) (cs va : Nat) (lk : Int32) (rn kp : Nat) (tr : Nat → Nat) (k n : Nat) (f : Nat → Int32) (vv cf : Nat → Int64) (d v : Nat) (hk : k < N) (hN : N ≤ 10) (hok : jOk n f) (hd : d ≤ 6) (hv : v ≤ 4) (hv1 : 1 ≤ v) (hp : v ^ d ≤ 1024) : jXi l yX5_cost wsX5_cost ({ frames := 5, cells := 0, slots := 0, locals := 223 }) g [.ref m0, .int (nI k), .int (nI d), .int (nI v), .int (jb true)] [(m0, .inr (4, [.int th, .int (nI N), .ref tb, .ref md, .ref rw0, .int sz, .ref cs, .ref va, .int lk, .ref rn, .ref kp])), (tb, jaR g 10 (fun i => some (tr i))), (tr k, jaI g 253 (jrw n f)), (va, jaL g 4 vv), (cs, jaL g 6 cf)] (fun (u9_ : Int32 × (Nat → Int64) × (Nat → Int64)) => [(m0, .inr (4, [.int 0, .int (nI N), .ref tb, .ref md, .ref rw0, .int sz, .ref cs, .ref va, .int u9_.1, .ref rn, .ref kp])), (tb, jaR g 10 (fun i => some (tr i))), (tr k, jaI g 253 (jrw n f)), (va, jaL g 4 u9_.2.1), (cs, jaL g 6 u9_.2.2)]) (jCo true (jKx n f d v) (v ^ d) 0 0) := by
  refine j_enterW (y := yX5_cost) (wsy := wsX5_cost) (rm := { frames := 5, cells := 0, slots := 0, locals := 223 }) (g := g) (As := [.ref m0, .int (nI k), .int (nI d), .int (nI v), .int (jb true)]) (wc := [(m0, .inr (4, [.int th, .int (nI N), .ref tb, .ref md, .ref rw0, .int sz, .ref cs, .ref va, .int lk, .ref rn, .ref kp])), (tb, jaR g 10 (fun i => some (tr i))), (tr k, jaI g 253 (jrw n f)), (va, jaL g 4 vv), (cs, jaL g 6 cf)]) (mc := 0) (ms := 0) (Qc := fun sz_ => va_Qi (fun r (_ : Int32 × (Nat → Int64) × (Nat → Int64)) => r = jCo true (jKx n f d v) (v ^ d) 0 0) (fun u t => va_P g.1 vwCl ((fun (u9_ : Int32 × (Nat → Int64) × (Nat → Int64)) => [(m0, .inr (4, [.int 0, .int (nI N), .ref tb, .ref md, .ref rw0, .int sz, .ref cs, .ref va, .int u9_.1, .ref rn, .ref kp])), (tb, jaR g 10 (fun i => some (tr i))), (tr k, jaI g 253 (jrw n f)), (va, jaL g 4 u9_.2.1), (cs, jaL g 6 u9_.2.2)]) u) t.heap) (va_A [(m0, .inr (4, [.int th, .int (nI N), .ref tb, .ref md, .ref rw0, .int sz, .ref cs, .ref va, .int lk, .ref rn, .ref kp])), (tb, jaR g 10 (fun i => some (tr i))), (tr k, jaI g 253 (jrw n f)), (va, jaL g 4 vv), (cs, jaL g 6 cf)] sz_)) (cc := cX5_cost) (maxL := 7) (ret := (some .int)) (own := RX5) (L := [(0, .ref m0), (1, .int (nI k)), (2, .int (nI d)), (3, .int (nI v)), (4, .int (jb true))]) (by decide) rfl rfl (Nat.le_of_ble_eq_true rfl) rfl (fun p e s m args below meth c C hr => ?_)
  refine j_aload_n 0 C dX5_cost_0 rfl rfl ?_
  refine j_aload_n 0 C dX5_cost_1 rfl rfl ?_
  refine j_aload_n 0 C dX5_cost_2 rfl rfl ?_
  refine j_iload_n 1 C dX5_cost_3 rfl rfl ?_
  refine j_callRi (v := jb (jBt (nI k) 0 ((nI N) - 1))) (j_runV (ci := 0) (As := [.int (nI k)]) (rest := [.ref m0, .ref m0]) [0] C (c_X5_isProgram l g m0 th (nI N) tb md rw0 sz cs va lk rn kp (nI k)) gX5_cost_X5_isProgram rfl rfl rfl hd_X5_isProgram ⟨Nat.le_of_ble_eq_true rfl, Nat.le_of_ble_eq_true rfl⟩ rfl rfl rfl rfl dX5_cost_4 rfl (Nat.le_of_ble_eq_true rfl) ⟨Nat.le_of_ble_eq_true rfl, Nat.le_of_ble_eq_true rfl⟩) ?_
  refine j_eq (pc' := 7) (L' := [(0, .ref m0), (1, .int (nI k)), (2, .int (nI d)), (3, .int (nI v)), (4, .int (jb true))]) (st' := [.int (jb true), .ref m0, .ref m0]) (ws' := [(m0, .inr (4, [.int th, .int (nI N), .ref tb, .ref md, .ref rw0, .int sz, .ref cs, .ref va, .int lk, .ref rn, .ref kp])), (tb, jaR g 10 (fun i => some (tr i))), (tr k, jaI g 253 (jrw n f)), (va, jaL g 4 vv), (cs, jaL g 6 cf)]) ?_ rfl rfl (by rw [jBt_n hk (by omega)]) rfl
  refine j_iload_n 2 C dX5_cost_7 rfl rfl ?_
  refine j_iload_n 3 C dX5_cost_8 rfl rfl ?_
  refine j_callRi (v := 0) (j_runV (ci := 0) (As := [.int (jb true), .int (nI d), .int (nI v)]) (rest := [.ref m0]) [] C (c_X5_whyCases l g m0 d v (by omega) (by omega) (by omega) (by omega)) gX5_cost_X5_whyCases rfl rfl rfl hd_X5_whyCases ⟨Nat.le_of_ble_eq_true rfl, Nat.le_of_ble_eq_true rfl⟩ rfl rfl rfl rfl dX5_cost_9 rfl (Nat.le_of_ble_eq_true rfl) ⟨Nat.le_of_ble_eq_true rfl, Nat.le_of_ble_eq_true rfl⟩) ?_
  refine j_put (Cn := RX5) (T := TX5) (N := 11) (ws' := [(m0, .inr (4, [.int 0, .int (nI N), .ref tb, .ref md, .ref rw0, .int sz, .ref cs, .ref va, .int lk, .ref rn, .ref kp])), (tb, jaR g 10 (fun i => some (tr i))), (tr k, jaI g 253 (jrw n f)), (va, jaL g 4 vv), (cs, jaL g 6 cf)]) tyX5 0 0 C dX5_cost_12 hin_X5_cost_X5 tyX5_ok nmX5 rfl rfl (by decide) (List.mem_of_getElem? (i := 1) rfl) rfl (tyX5_ok 0 (by decide)) rfl rfl (Nat.le_of_ble_eq_true rfl) rfl ?_
  refine j_aload_n 0 C dX5_cost_15 rfl rfl ?_
  refine j_get (Cn := RX5) (T := TX5) (N := 11) 0 0 C dX5_cost_16 hin_X5_cost_X5 rfl rfl (by decide) (List.mem_of_getElem? (i := 1) rfl) rfl ?_
  refine j_if_eq (tgt := 24) C dX5_cost_19 (by decide) (fun c_1 => ?_) (fun c_1 => ?_)
  · skip
    refine j_iconst (v := 0) C dX5_cost_24 rfl ?_
    refine j_istore (L' := [(0, .ref m0), (1, .int (nI k)), (2, .int (nI d)), (3, .int (nI v)), (4, .int (jb true)), (5, .int 0)]) C dX5_cost_25 (Nat.le_of_ble_eq_true rfl) rfl rfl ?_
    refine j_iconst (v := 0) C dX5_cost_27 rfl ?_
    refine j_istore (L' := [(0, .ref m0), (1, .int (nI k)), (2, .int (nI d)), (3, .int (nI v)), (4, .int (jb true)), (5, .int 0), (6, .int 0)]) C dX5_cost_28 (Nat.le_of_ble_eq_true rfl) rfl rfl ?_
    refine j_loop (σ := Nat × Int32 × Int32 × (Nat → Int64) × (Nat → Int64)) (fun (x9_ : Nat × Int32 × Int32 × (Nat → Int64) × (Nat → Int64)) => match x9_ with | (x, t, lk1, w1, c1) => [(0, .ref m0), (1, .int (nI k)), (2, .int (nI d)), (3, .int (nI v)), (4, .int (jb true)), (5, .int t), (6, .int (nI x))]) (fun (x9_ : Nat × Int32 × Int32 × (Nat → Int64) × (Nat → Int64)) => match x9_ with | (x, t, lk1, w1, c1) => [(m0, .inr (4, [.int 0, .int (nI N), .ref tb, .ref md, .ref rw0, .int sz, .ref cs, .ref va, .int lk1, .ref rn, .ref kp])), (tb, jaR g 10 (fun i => some (tr i))), (tr k, jaI g 253 (jrw n f)), (va, jaL g 4 w1), (cs, jaL g 6 c1)]) (fun (x9_ : Nat × Int32 × Int32 × (Nat → Int64) × (Nat → Int64)) => match x9_ with | (x, t, lk1, w1, c1) => (x ≤ v ^ d) ∧ (jCo true (jKx n f d v) (v ^ d - x) x t = jCo true (jKx n f d v) (v ^ d) 0 0)) (fun (x9_ : Nat × Int32 × Int32 × (Nat → Int64) × (Nat → Int64)) => match x9_ with | (x, t, lk1, w1, c1) => v ^ d - x) (fun x_ hi_3 ih_2 => ?_) (0, 0, lk, vv, cf) ⟨(by omega), rfl⟩ rfl rfl
    obtain ⟨x, t, lk1, w1, c1⟩ := x_
    obtain ⟨hI0, hI1⟩ := (show (x ≤ v ^ d) ∧ (jCo true (jKx n f d v) (v ^ d - x) x t = jCo true (jKx n f d v) (v ^ d) 0 0) from hi_3)
    refine j_eq (pc' := 30) (L' := [(0, .ref m0), (1, .int (nI k)), (2, .int (nI d)), (3, .int (nI v)), (4, .int (jb true)), (5, .int t), (6, .int (nI x))]) (st' := []) (ws' := [(m0, .inr (4, [.int 0, .int (nI N), .ref tb, .ref md, .ref rw0, .int sz, .ref cs, .ref va, .int lk1, .ref rn, .ref kp])), (tb, jaR g 10 (fun i => some (tr i))), (tr k, jaI g 253 (jrw n f)), (va, jaL g 4 w1), (cs, jaL g 6 c1)]) ?_ rfl rfl rfl rfl
    refine j_iload 6 C dX5_cost_30 rfl ?_
    refine j_iload_n 2 C dX5_cost_32 rfl rfl ?_
    refine j_iload_n 3 C dX5_cost_33 rfl rfl ?_
    refine j_callRi (v := nI (v ^ d)) (j_runS (As := [.int (nI d), .int (nI v)]) (rest := [.int (nI x)]) [] C (c_X5_rows l g d v (by omega) (by omega) (by omega) (by omega)) gX5_cost_X5_rows rfl rfl rfl hd_X5_rows ⟨Nat.le_of_ble_eq_true rfl, Nat.le_of_ble_eq_true rfl⟩ rfl rfl dX5_cost_34 rfl (Nat.le_of_ble_eq_true rfl) ⟨Nat.le_of_ble_eq_true rfl, Nat.le_of_ble_eq_true rfl⟩) ?_
    refine j_icmp_ge (tgt := 96) C dX5_cost_37 (by decide) (fun c_4 => ?_) (fun c_4 => ?_)
    · skip
      have c_4 : (v ^ d) ≤ x := (nI_leI (a := v ^ d) (b := x) (by omega) (by omega)).mp c_4
      refine j_iload 5 C dX5_cost_96 rfl ?_
      exact j_iretW (v := t) C hr dX5_cost_98 (lk1, w1, c1) (by rw [← hI1, show v ^ d - x = 0 by omega]; rfl) rfl
    · skip
      have c_4 : ¬ (v ^ d) ≤ x := fun z => c_4 ((nI_leI (a := v ^ d) (b := x) (by omega) (by omega)).mpr z)
      obtain ⟨r1, hr1⟩ : ∃ r, jRn n f (jLy d v x 0 c1) d = r := ⟨_, rfl⟩
      have hK : (jKx n f d v) x = r1.2.1 := by rw [← hr1, jRn_cs]; rfl
      refine j_aload_n 0 C dX5_cost_40 rfl rfl ?_
      refine j_iload 6 C dX5_cost_41 rfl ?_
      refine j_iload_n 2 C dX5_cost_43 rfl rfl ?_
      refine j_iload_n 3 C dX5_cost_44 rfl rfl ?_
      refine j_callWv [0, 4] (fun _ => [(m0, .inr (4, [.int 0, .int (nI N), .ref tb, .ref md, .ref rw0, .int sz, .ref cs, .ref va, .int lk1, .ref rn, .ref kp])), (tb, jaR g 10 (fun i => some (tr i))), (tr k, jaI g 253 (jrw n f)), (va, jaL g 4 w1), (cs, jaL g 6 (jLy d v x 0 c1))]) C (j_runV (ci := 0) (As := [.int (nI x), .int (nI d), .int (nI v)]) (rest := []) [0, 4] C (c_X5_layCase l g m0 0 (nI N) tb md rw0 sz cs va lk1 rn kp x d v c1 (by omega) (by omega) (by omega) (by omega)) gX5_cost_X5_layCase rfl rfl rfl hd_X5_layCase ⟨Nat.le_of_ble_eq_true rfl, Nat.le_of_ble_eq_true rfl⟩ rfl rfl rfl rfl dX5_cost_45 rfl (Nat.le_of_ble_eq_true rfl) ⟨Nat.le_of_ble_eq_true rfl, Nat.le_of_ble_eq_true rfl⟩) rfl (fun _ => rfl) (fun _ => rfl) (fun _ _ => ?_)
      refine j_aload_n 0 C dX5_cost_48 rfl rfl ?_
      refine j_aload_n 0 C dX5_cost_49 rfl rfl ?_
      refine j_get (Cn := RX5) (T := TX5) (N := 11) 0 2 C dX5_cost_50 hin_X5_cost_X5 rfl rfl (by decide) (List.mem_of_getElem? (i := 2) rfl) rfl ?_
      refine j_iload_n 1 C dX5_cost_53 rfl rfl ?_
      refine j_aldR (x := k) 1 C dX5_cost_54 rfl rfl (by omega) (by decide) ?_
      refine j_eq (pc' := 55) (L' := [(0, .ref m0), (1, .int (nI k)), (2, .int (nI d)), (3, .int (nI v)), (4, .int (jb true)), (5, .int t), (6, .int (nI x))]) (st' := [.ref (tr k), .ref m0]) (ws' := [(m0, .inr (4, [.int 0, .int (nI N), .ref tb, .ref md, .ref rw0, .int sz, .ref cs, .ref va, .int lk1, .ref rn, .ref kp])), (tb, jaR g 10 (fun i => some (tr i))), (tr k, jaI g 253 (jrw n f)), (va, jaL g 4 w1), (cs, jaL g 6 (jLy d v x 0 c1))]) ?_ rfl rfl rfl rfl
      refine j_aload_n 0 C dX5_cost_55 rfl rfl ?_
      refine j_get (Cn := RX5) (T := TX5) (N := 11) 0 6 C dX5_cost_56 hin_X5_cost_X5 rfl rfl (by decide) (List.mem_of_getElem? (i := 3) rfl) rfl ?_
      refine j_iload_n 2 C dX5_cost_59 rfl rfl ?_
      refine j_callWi [0, 3, 2, 4] (fun _ => [(m0, .inr (4, [.int 0, .int (nI N), .ref tb, .ref md, .ref rw0, .int sz, .ref cs, .ref va, .int ((jRn n f (jLy d v x 0 c1) d).2.1), .ref rn, .ref kp])), (tb, jaR g 10 (fun i => some (tr i))), (tr k, jaI g 253 (jrw n f)), (va, jaL g 4 ((jRn n f (jLy d v x 0 c1) d).1)), (cs, jaL g 6 (jLy d v x 0 c1))]) C (j_runV (ci := 0) (As := [.ref (tr k), .ref cs, .int (nI d)]) (rest := []) [0, 3, 2, 4] C (c_X5_runOver l g m0 0 (nI N) tb md rw0 sz cs va lk1 rn kp w1 (tr k) n f cs d 6 (jLy d v x 0 c1) (by omega) (by omega) (by omega)) gX5_cost_X5_runOver rfl rfl rfl hd_X5_runOver ⟨Nat.le_of_ble_eq_true rfl, Nat.le_of_ble_eq_true rfl⟩ rfl rfl rfl rfl dX5_cost_60 rfl (Nat.le_of_ble_eq_true rfl) ⟨Nat.le_of_ble_eq_true rfl, Nat.le_of_ble_eq_true rfl⟩) rfl (fun _ => rfl) (fun _ => rfl) (fun z _ hz => ?_)
      subst hz
      refine j_eq (pc' := 63) (L' := [(0, .ref m0), (1, .int (nI k)), (2, .int (nI d)), (3, .int (nI v)), (4, .int (jb true)), (5, .int t), (6, .int (nI x))]) (st' := [.int r1.2.2]) (ws' := [(m0, .inr (4, [.int 0, .int (nI N), .ref tb, .ref md, .ref rw0, .int sz, .ref cs, .ref va, .int r1.2.1, .ref rn, .ref kp])), (tb, jaR g 10 (fun i => some (tr i))), (tr k, jaI g 253 (jrw n f)), (va, jaL g 4 r1.1), (cs, jaL g 6 (jLy d v x 0 c1))]) ?_ rfl rfl (by simp only [hr1]) (by simp only [hr1])
      refine j_pop C dX5_cost_63 rfl ?_
      refine j_iload 4 C dX5_cost_64 rfl ?_
      refine j_if_eq (tgt := 81) C dX5_cost_66 (by decide) (fun c_6 => ?_) (fun c_6 => ?_)
      · skip
        have c_6 : true = false := jb_0 c_6
        (first | exact absurd c_6 (by decide) | exact absurd c_6 (by omega) | simp_all)
      · skip
        have c_6 : true = true := jb_1 c_6
        refine j_iload 5 C dX5_cost_69 rfl ?_
        refine j_aload_n 0 C dX5_cost_71 rfl rfl ?_
        refine j_get (Cn := RX5) (T := TX5) (N := 11) 0 8 C dX5_cost_72 hin_X5_cost_X5 rfl rfl (by decide) (List.mem_of_getElem? (i := 4) rfl) rfl ?_
        refine j_max C dX5_cost_75 (List.mem_of_getElem? (i := 5) rfl) (List.mem_of_getElem? (i := 6) rfl) (List.mem_of_getElem? (i := 7) rfl) (List.mem_of_getElem? (i := 8) rfl) (Nat.le_of_ble_eq_true rfl) (Nat.le_of_ble_eq_true rfl) (Nat.le_of_ble_eq_true rfl) (Nat.le_of_ble_eq_true rfl) ?_
        refine j_goto (tgt := 88) C dX5_cost_78 (by decide) ?_
        refine j_istore (L' := [(0, .ref m0), (1, .int (nI k)), (2, .int (nI d)), (3, .int (nI v)), (4, .int (jb true)), (5, .int (if t < r1.2.1 then r1.2.1 else t)), (6, .int (nI x))]) C dX5_cost_88 (Nat.le_of_ble_eq_true rfl) rfl rfl ?_
        refine j_iinc (v := nI (x + 1)) (L' := [(0, .ref m0), (1, .int (nI k)), (2, .int (nI d)), (3, .int (nI v)), (4, .int (jb true)), (5, .int (if t < r1.2.1 then r1.2.1 else t)), (6, .int (nI (x + 1)))]) 6 C dX5_cost_90 rfl (nI_add x 1) (Nat.le_of_ble_eq_true rfl) rfl rfl ?_
        refine j_goto (tgt := 30) C dX5_cost_93 (by decide) ?_
        exact ih_2 (x + 1, if t < r1.2.1 then r1.2.1 else t, r1.2.1, r1.1, (jLy d v x 0 c1)) ⟨(by omega), (by rw [← hI1, show v ^ d - x = (v ^ d - (x + 1)) + 1 by omega, jCo_s, hK]; rfl)⟩ (show v ^ d - (x + 1) < v ^ d - x from by omega)
  · skip
    exact absurd c_1 (by decide)
set_option maxHeartbeats 4000000 in
set_option maxRecDepth 100000 in
theorem c_X5_cost_false (l : Launch) (g : jG) (m0 : Nat) (th : Int32) (N tb md rw0 : Nat) (sz : Int32) (cs va : Nat) (lk : Int32) (rn kp : Nat) (tr : Nat → Nat) (k n : Nat) (f : Nat → Int32) (vv cf : Nat → Int64) (d v : Nat) (hk : k < N) (hN : N ≤ 10) (hok : jOk n f) (hd : d ≤ 6) (hv : v ≤ 4) (hv1 : 1 ≤ v) (hp : v ^ d ≤ 1024) : jXi l yX5_cost wsX5_cost ({ frames := 5, cells := 0, slots := 0, locals := 223 }) g [.ref m0, .int (nI k), .int (nI d), .int (nI v), .int (jb false)] [(m0, .inr (4, [.int th, .int (nI N), .ref tb, .ref md, .ref rw0, .int sz, .ref cs, .ref va, .int lk, .ref rn, .ref kp])), (tb, jaR g 10 (fun i => some (tr i))), (tr k, jaI g 253 (jrw n f)), (va, jaL g 4 vv), (cs, jaL g 6 cf)] (fun (u9_ : Int32 × (Nat → Int64) × (Nat → Int64)) => [(m0, .inr (4, [.int 0, .int (nI N), .ref tb, .ref md, .ref rw0, .int sz, .ref cs, .ref va, .int u9_.1, .ref rn, .ref kp])), (tb, jaR g 10 (fun i => some (tr i))), (tr k, jaI g 253 (jrw n f)), (va, jaL g 4 u9_.2.1), (cs, jaL g 6 u9_.2.2)]) (jCo false (jKx n f d v) (v ^ d) 0 0) := by
  refine j_enterW (y := yX5_cost) (wsy := wsX5_cost) (rm := { frames := 5, cells := 0, slots := 0, locals := 223 }) (g := g) (As := [.ref m0, .int (nI k), .int (nI d), .int (nI v), .int (jb false)]) (wc := [(m0, .inr (4, [.int th, .int (nI N), .ref tb, .ref md, .ref rw0, .int sz, .ref cs, .ref va, .int lk, .ref rn, .ref kp])), (tb, jaR g 10 (fun i => some (tr i))), (tr k, jaI g 253 (jrw n f)), (va, jaL g 4 vv), (cs, jaL g 6 cf)]) (mc := 0) (ms := 0) (Qc := fun sz_ => va_Qi (fun r (_ : Int32 × (Nat → Int64) × (Nat → Int64)) => r = jCo false (jKx n f d v) (v ^ d) 0 0) (fun u t => va_P g.1 vwCl ((fun (u9_ : Int32 × (Nat → Int64) × (Nat → Int64)) => [(m0, .inr (4, [.int 0, .int (nI N), .ref tb, .ref md, .ref rw0, .int sz, .ref cs, .ref va, .int u9_.1, .ref rn, .ref kp])), (tb, jaR g 10 (fun i => some (tr i))), (tr k, jaI g 253 (jrw n f)), (va, jaL g 4 u9_.2.1), (cs, jaL g 6 u9_.2.2)]) u) t.heap) (va_A [(m0, .inr (4, [.int th, .int (nI N), .ref tb, .ref md, .ref rw0, .int sz, .ref cs, .ref va, .int lk, .ref rn, .ref kp])), (tb, jaR g 10 (fun i => some (tr i))), (tr k, jaI g 253 (jrw n f)), (va, jaL g 4 vv), (cs, jaL g 6 cf)] sz_)) (cc := cX5_cost) (maxL := 7) (ret := (some .int)) (own := RX5) (L := [(0, .ref m0), (1, .int (nI k)), (2, .int (nI d)), (3, .int (nI v)), (4, .int (jb false))]) (by decide) rfl rfl (Nat.le_of_ble_eq_true rfl) rfl (fun p e s m args below meth c C hr => ?_)
  refine j_aload_n 0 C dX5_cost_0 rfl rfl ?_
  refine j_aload_n 0 C dX5_cost_1 rfl rfl ?_
  refine j_aload_n 0 C dX5_cost_2 rfl rfl ?_
  refine j_iload_n 1 C dX5_cost_3 rfl rfl ?_
  refine j_callRi (v := jb (jBt (nI k) 0 ((nI N) - 1))) (j_runV (ci := 0) (As := [.int (nI k)]) (rest := [.ref m0, .ref m0]) [0] C (c_X5_isProgram l g m0 th (nI N) tb md rw0 sz cs va lk rn kp (nI k)) gX5_cost_X5_isProgram rfl rfl rfl hd_X5_isProgram ⟨Nat.le_of_ble_eq_true rfl, Nat.le_of_ble_eq_true rfl⟩ rfl rfl rfl rfl dX5_cost_4 rfl (Nat.le_of_ble_eq_true rfl) ⟨Nat.le_of_ble_eq_true rfl, Nat.le_of_ble_eq_true rfl⟩) ?_
  refine j_eq (pc' := 7) (L' := [(0, .ref m0), (1, .int (nI k)), (2, .int (nI d)), (3, .int (nI v)), (4, .int (jb false))]) (st' := [.int (jb true), .ref m0, .ref m0]) (ws' := [(m0, .inr (4, [.int th, .int (nI N), .ref tb, .ref md, .ref rw0, .int sz, .ref cs, .ref va, .int lk, .ref rn, .ref kp])), (tb, jaR g 10 (fun i => some (tr i))), (tr k, jaI g 253 (jrw n f)), (va, jaL g 4 vv), (cs, jaL g 6 cf)]) ?_ rfl rfl (by rw [jBt_n hk (by omega)]) rfl
  refine j_iload_n 2 C dX5_cost_7 rfl rfl ?_
  refine j_iload_n 3 C dX5_cost_8 rfl rfl ?_
  refine j_callRi (v := 0) (j_runV (ci := 0) (As := [.int (jb true), .int (nI d), .int (nI v)]) (rest := [.ref m0]) [] C (c_X5_whyCases l g m0 d v (by omega) (by omega) (by omega) (by omega)) gX5_cost_X5_whyCases rfl rfl rfl hd_X5_whyCases ⟨Nat.le_of_ble_eq_true rfl, Nat.le_of_ble_eq_true rfl⟩ rfl rfl rfl rfl dX5_cost_9 rfl (Nat.le_of_ble_eq_true rfl) ⟨Nat.le_of_ble_eq_true rfl, Nat.le_of_ble_eq_true rfl⟩) ?_
  refine j_put (Cn := RX5) (T := TX5) (N := 11) (ws' := [(m0, .inr (4, [.int 0, .int (nI N), .ref tb, .ref md, .ref rw0, .int sz, .ref cs, .ref va, .int lk, .ref rn, .ref kp])), (tb, jaR g 10 (fun i => some (tr i))), (tr k, jaI g 253 (jrw n f)), (va, jaL g 4 vv), (cs, jaL g 6 cf)]) tyX5 0 0 C dX5_cost_12 hin_X5_cost_X5 tyX5_ok nmX5 rfl rfl (by decide) (List.mem_of_getElem? (i := 1) rfl) rfl (tyX5_ok 0 (by decide)) rfl rfl (Nat.le_of_ble_eq_true rfl) rfl ?_
  refine j_aload_n 0 C dX5_cost_15 rfl rfl ?_
  refine j_get (Cn := RX5) (T := TX5) (N := 11) 0 0 C dX5_cost_16 hin_X5_cost_X5 rfl rfl (by decide) (List.mem_of_getElem? (i := 1) rfl) rfl ?_
  refine j_if_eq (tgt := 24) C dX5_cost_19 (by decide) (fun c_1 => ?_) (fun c_1 => ?_)
  · skip
    refine j_iconst (v := 0) C dX5_cost_24 rfl ?_
    refine j_istore (L' := [(0, .ref m0), (1, .int (nI k)), (2, .int (nI d)), (3, .int (nI v)), (4, .int (jb false)), (5, .int 0)]) C dX5_cost_25 (Nat.le_of_ble_eq_true rfl) rfl rfl ?_
    refine j_iconst (v := 0) C dX5_cost_27 rfl ?_
    refine j_istore (L' := [(0, .ref m0), (1, .int (nI k)), (2, .int (nI d)), (3, .int (nI v)), (4, .int (jb false)), (5, .int 0), (6, .int 0)]) C dX5_cost_28 (Nat.le_of_ble_eq_true rfl) rfl rfl ?_
    refine j_loop (σ := Nat × Int32 × Int32 × (Nat → Int64) × (Nat → Int64)) (fun (x9_ : Nat × Int32 × Int32 × (Nat → Int64) × (Nat → Int64)) => match x9_ with | (x, t, lk1, w1, c1) => [(0, .ref m0), (1, .int (nI k)), (2, .int (nI d)), (3, .int (nI v)), (4, .int (jb false)), (5, .int t), (6, .int (nI x))]) (fun (x9_ : Nat × Int32 × Int32 × (Nat → Int64) × (Nat → Int64)) => match x9_ with | (x, t, lk1, w1, c1) => [(m0, .inr (4, [.int 0, .int (nI N), .ref tb, .ref md, .ref rw0, .int sz, .ref cs, .ref va, .int lk1, .ref rn, .ref kp])), (tb, jaR g 10 (fun i => some (tr i))), (tr k, jaI g 253 (jrw n f)), (va, jaL g 4 w1), (cs, jaL g 6 c1)]) (fun (x9_ : Nat × Int32 × Int32 × (Nat → Int64) × (Nat → Int64)) => match x9_ with | (x, t, lk1, w1, c1) => (x ≤ v ^ d) ∧ (jCo false (jKx n f d v) (v ^ d - x) x t = jCo false (jKx n f d v) (v ^ d) 0 0)) (fun (x9_ : Nat × Int32 × Int32 × (Nat → Int64) × (Nat → Int64)) => match x9_ with | (x, t, lk1, w1, c1) => v ^ d - x) (fun x_ hi_3 ih_2 => ?_) (0, 0, lk, vv, cf) ⟨(by omega), rfl⟩ rfl rfl
    obtain ⟨x, t, lk1, w1, c1⟩ := x_
    obtain ⟨hI0, hI1⟩ := (show (x ≤ v ^ d) ∧ (jCo false (jKx n f d v) (v ^ d - x) x t = jCo false (jKx n f d v) (v ^ d) 0 0) from hi_3)
    refine j_eq (pc' := 30) (L' := [(0, .ref m0), (1, .int (nI k)), (2, .int (nI d)), (3, .int (nI v)), (4, .int (jb false)), (5, .int t), (6, .int (nI x))]) (st' := []) (ws' := [(m0, .inr (4, [.int 0, .int (nI N), .ref tb, .ref md, .ref rw0, .int sz, .ref cs, .ref va, .int lk1, .ref rn, .ref kp])), (tb, jaR g 10 (fun i => some (tr i))), (tr k, jaI g 253 (jrw n f)), (va, jaL g 4 w1), (cs, jaL g 6 c1)]) ?_ rfl rfl rfl rfl
    refine j_iload 6 C dX5_cost_30 rfl ?_
    refine j_iload_n 2 C dX5_cost_32 rfl rfl ?_
    refine j_iload_n 3 C dX5_cost_33 rfl rfl ?_
    refine j_callRi (v := nI (v ^ d)) (j_runS (As := [.int (nI d), .int (nI v)]) (rest := [.int (nI x)]) [] C (c_X5_rows l g d v (by omega) (by omega) (by omega) (by omega)) gX5_cost_X5_rows rfl rfl rfl hd_X5_rows ⟨Nat.le_of_ble_eq_true rfl, Nat.le_of_ble_eq_true rfl⟩ rfl rfl dX5_cost_34 rfl (Nat.le_of_ble_eq_true rfl) ⟨Nat.le_of_ble_eq_true rfl, Nat.le_of_ble_eq_true rfl⟩) ?_
    refine j_icmp_ge (tgt := 96) C dX5_cost_37 (by decide) (fun c_4 => ?_) (fun c_4 => ?_)
    · skip
      have c_4 : (v ^ d) ≤ x := (nI_leI (a := v ^ d) (b := x) (by omega) (by omega)).mp c_4
      refine j_iload 5 C dX5_cost_96 rfl ?_
      exact j_iretW (v := t) C hr dX5_cost_98 (lk1, w1, c1) (by rw [← hI1, show v ^ d - x = 0 by omega]; rfl) rfl
    · skip
      have c_4 : ¬ (v ^ d) ≤ x := fun z => c_4 ((nI_leI (a := v ^ d) (b := x) (by omega) (by omega)).mpr z)
      obtain ⟨r1, hr1⟩ : ∃ r, jRn n f (jLy d v x 0 c1) d = r := ⟨_, rfl⟩
      have hK : (jKx n f d v) x = r1.2.1 := by rw [← hr1, jRn_cs]; rfl
      refine j_aload_n 0 C dX5_cost_40 rfl rfl ?_
      refine j_iload 6 C dX5_cost_41 rfl ?_
      refine j_iload_n 2 C dX5_cost_43 rfl rfl ?_
      refine j_iload_n 3 C dX5_cost_44 rfl rfl ?_
      refine j_callWv [0, 4] (fun _ => [(m0, .inr (4, [.int 0, .int (nI N), .ref tb, .ref md, .ref rw0, .int sz, .ref cs, .ref va, .int lk1, .ref rn, .ref kp])), (tb, jaR g 10 (fun i => some (tr i))), (tr k, jaI g 253 (jrw n f)), (va, jaL g 4 w1), (cs, jaL g 6 (jLy d v x 0 c1))]) C (j_runV (ci := 0) (As := [.int (nI x), .int (nI d), .int (nI v)]) (rest := []) [0, 4] C (c_X5_layCase l g m0 0 (nI N) tb md rw0 sz cs va lk1 rn kp x d v c1 (by omega) (by omega) (by omega) (by omega)) gX5_cost_X5_layCase rfl rfl rfl hd_X5_layCase ⟨Nat.le_of_ble_eq_true rfl, Nat.le_of_ble_eq_true rfl⟩ rfl rfl rfl rfl dX5_cost_45 rfl (Nat.le_of_ble_eq_true rfl) ⟨Nat.le_of_ble_eq_true rfl, Nat.le_of_ble_eq_true rfl⟩) rfl (fun _ => rfl) (fun _ => rfl) (fun _ _ => ?_)
      refine j_aload_n 0 C dX5_cost_48 rfl rfl ?_
      refine j_aload_n 0 C dX5_cost_49 rfl rfl ?_
      refine j_get (Cn := RX5) (T := TX5) (N := 11) 0 2 C dX5_cost_50 hin_X5_cost_X5 rfl rfl (by decide) (List.mem_of_getElem? (i := 2) rfl) rfl ?_
      refine j_iload_n 1 C dX5_cost_53 rfl rfl ?_
      refine j_aldR (x := k) 1 C dX5_cost_54 rfl rfl (by omega) (by decide) ?_
      refine j_eq (pc' := 55) (L' := [(0, .ref m0), (1, .int (nI k)), (2, .int (nI d)), (3, .int (nI v)), (4, .int (jb false)), (5, .int t), (6, .int (nI x))]) (st' := [.ref (tr k), .ref m0]) (ws' := [(m0, .inr (4, [.int 0, .int (nI N), .ref tb, .ref md, .ref rw0, .int sz, .ref cs, .ref va, .int lk1, .ref rn, .ref kp])), (tb, jaR g 10 (fun i => some (tr i))), (tr k, jaI g 253 (jrw n f)), (va, jaL g 4 w1), (cs, jaL g 6 (jLy d v x 0 c1))]) ?_ rfl rfl rfl rfl
      refine j_aload_n 0 C dX5_cost_55 rfl rfl ?_
      refine j_get (Cn := RX5) (T := TX5) (N := 11) 0 6 C dX5_cost_56 hin_X5_cost_X5 rfl rfl (by decide) (List.mem_of_getElem? (i := 3) rfl) rfl ?_
      refine j_iload_n 2 C dX5_cost_59 rfl rfl ?_
      refine j_callWi [0, 3, 2, 4] (fun _ => [(m0, .inr (4, [.int 0, .int (nI N), .ref tb, .ref md, .ref rw0, .int sz, .ref cs, .ref va, .int ((jRn n f (jLy d v x 0 c1) d).2.1), .ref rn, .ref kp])), (tb, jaR g 10 (fun i => some (tr i))), (tr k, jaI g 253 (jrw n f)), (va, jaL g 4 ((jRn n f (jLy d v x 0 c1) d).1)), (cs, jaL g 6 (jLy d v x 0 c1))]) C (j_runV (ci := 0) (As := [.ref (tr k), .ref cs, .int (nI d)]) (rest := []) [0, 3, 2, 4] C (c_X5_runOver l g m0 0 (nI N) tb md rw0 sz cs va lk1 rn kp w1 (tr k) n f cs d 6 (jLy d v x 0 c1) (by omega) (by omega) (by omega)) gX5_cost_X5_runOver rfl rfl rfl hd_X5_runOver ⟨Nat.le_of_ble_eq_true rfl, Nat.le_of_ble_eq_true rfl⟩ rfl rfl rfl rfl dX5_cost_60 rfl (Nat.le_of_ble_eq_true rfl) ⟨Nat.le_of_ble_eq_true rfl, Nat.le_of_ble_eq_true rfl⟩) rfl (fun _ => rfl) (fun _ => rfl) (fun z _ hz => ?_)
      subst hz
      refine j_eq (pc' := 63) (L' := [(0, .ref m0), (1, .int (nI k)), (2, .int (nI d)), (3, .int (nI v)), (4, .int (jb false)), (5, .int t), (6, .int (nI x))]) (st' := [.int r1.2.2]) (ws' := [(m0, .inr (4, [.int 0, .int (nI N), .ref tb, .ref md, .ref rw0, .int sz, .ref cs, .ref va, .int r1.2.1, .ref rn, .ref kp])), (tb, jaR g 10 (fun i => some (tr i))), (tr k, jaI g 253 (jrw n f)), (va, jaL g 4 r1.1), (cs, jaL g 6 (jLy d v x 0 c1))]) ?_ rfl rfl (by simp only [hr1]) (by simp only [hr1])
      refine j_pop C dX5_cost_63 rfl ?_
      refine j_iload 4 C dX5_cost_64 rfl ?_
      refine j_if_eq (tgt := 81) C dX5_cost_66 (by decide) (fun c_6 => ?_) (fun c_6 => ?_)
      · skip
        have c_6 : false = false := jb_0 c_6
        refine j_iload 5 C dX5_cost_81 rfl ?_
        refine j_aload_n 0 C dX5_cost_83 rfl rfl ?_
        refine j_get (Cn := RX5) (T := TX5) (N := 11) 0 8 C dX5_cost_84 hin_X5_cost_X5 rfl rfl (by decide) (List.mem_of_getElem? (i := 4) rfl) rfl ?_
        refine j_iadd (x := t) (y := r1.2.1) (v := t + r1.2.1) C dX5_cost_87 rfl ?_
        refine j_istore (L' := [(0, .ref m0), (1, .int (nI k)), (2, .int (nI d)), (3, .int (nI v)), (4, .int (jb false)), (5, .int (t + r1.2.1)), (6, .int (nI x))]) C dX5_cost_88 (Nat.le_of_ble_eq_true rfl) rfl rfl ?_
        refine j_iinc (v := nI (x + 1)) (L' := [(0, .ref m0), (1, .int (nI k)), (2, .int (nI d)), (3, .int (nI v)), (4, .int (jb false)), (5, .int (t + r1.2.1)), (6, .int (nI (x + 1)))]) 6 C dX5_cost_90 rfl (nI_add x 1) (Nat.le_of_ble_eq_true rfl) rfl rfl ?_
        refine j_goto (tgt := 30) C dX5_cost_93 (by decide) ?_
        exact ih_2 (x + 1, t + r1.2.1, r1.2.1, r1.1, (jLy d v x 0 c1)) ⟨(by omega), (by rw [← hI1, show v ^ d - x = (v ^ d - (x + 1)) + 1 by omega, jCo_s, hK]; rfl)⟩ (show v ^ d - (x + 1) < v ^ d - x from by omega)
      · skip
        have c_6 : false = true := jb_1 c_6
        (first | exact absurd c_6 (by decide) | exact absurd c_6 (by omega) | simp_all)
  · skip
    exact absurd c_1 (by decide)
set_option maxHeartbeats 4000000 in
set_option maxRecDepth 100000 in
theorem c_X5_exits (l : Launch) (g : jG) (m0 : Nat) (th : Int32) (N tb md rw0 : Nat) (sz : Int32) (cs va : Nat) (lk : Int32) (rn kp : Nat) (tr : Nat → Nat) (k n : Nat) (f : Nat → Int32) (vv cf : Nat → Int64) (d v : Nat) (hk : k < N) (hN : N ≤ 10) (hok : jOk n f) (hd : d ≤ 6) (hv : v ≤ 4) (hv1 : 1 ≤ v) (hp : v ^ d ≤ 1024) : jXd l yX5_exits wsX5_exits ({ frames := 5, cells := 0, slots := 0, locals := 223 }) g [.ref m0, .int (nI k), .int (nI d), .int (nI v)] [(m0, .inr (4, [.int th, .int (nI N), .ref tb, .ref md, .ref rw0, .int sz, .ref cs, .ref va, .int lk, .ref rn, .ref kp])), (tb, jaR g 10 (fun i => some (tr i))), (tr k, jaI g 253 (jrw n f)), (va, jaL g 4 vv), (cs, jaL g 6 cf)] (fun (u9_ : Int32 × (Nat → Int64) × (Nat → Int64)) => [(m0, .inr (4, [.int 0, .int (nI N), .ref tb, .ref md, .ref rw0, .int sz, .ref cs, .ref va, .int u9_.1, .ref rn, .ref kp])), (tb, jaR g 10 (fun i => some (tr i))), (tr k, jaI g 253 (jrw n f)), (va, jaL g 4 u9_.2.1), (cs, jaL g 6 u9_.2.2)]) (FP.ddiv (FP.i2d (nI (jDf (jCx n f d v) (v ^ d) 0 0))) (FP.i2d (nI (v ^ d)))) := by
  refine j_enterW (y := yX5_exits) (wsy := wsX5_exits) (rm := { frames := 5, cells := 0, slots := 0, locals := 223 }) (g := g) (As := [.ref m0, .int (nI k), .int (nI d), .int (nI v)]) (wc := [(m0, .inr (4, [.int th, .int (nI N), .ref tb, .ref md, .ref rw0, .int sz, .ref cs, .ref va, .int lk, .ref rn, .ref kp])), (tb, jaR g 10 (fun i => some (tr i))), (tr k, jaI g 253 (jrw n f)), (va, jaL g 4 vv), (cs, jaL g 6 cf)]) (mc := 0) (ms := 0) (Qc := fun sz_ => va_Qd (fun r (_ : Int32 × (Nat → Int64) × (Nat → Int64)) => r = FP.ddiv (FP.i2d (nI (jDf (jCx n f d v) (v ^ d) 0 0))) (FP.i2d (nI (v ^ d)))) (fun u t => va_P g.1 vwCl ((fun (u9_ : Int32 × (Nat → Int64) × (Nat → Int64)) => [(m0, .inr (4, [.int 0, .int (nI N), .ref tb, .ref md, .ref rw0, .int sz, .ref cs, .ref va, .int u9_.1, .ref rn, .ref kp])), (tb, jaR g 10 (fun i => some (tr i))), (tr k, jaI g 253 (jrw n f)), (va, jaL g 4 u9_.2.1), (cs, jaL g 6 u9_.2.2)]) u) t.heap) (va_A [(m0, .inr (4, [.int th, .int (nI N), .ref tb, .ref md, .ref rw0, .int sz, .ref cs, .ref va, .int lk, .ref rn, .ref kp])), (tb, jaR g 10 (fun i => some (tr i))), (tr k, jaI g 253 (jrw n f)), (va, jaL g 4 vv), (cs, jaL g 6 cf)] sz_)) (cc := cX5_exits) (maxL := 6) (ret := (some .double)) (own := RX5) (L := [(0, .ref m0), (1, .int (nI k)), (2, .int (nI d)), (3, .int (nI v))]) (by decide) rfl rfl (Nat.le_of_ble_eq_true rfl) rfl (fun p e s m args below meth c C hr => ?_)
  refine j_aload_n 0 C dX5_exits_0 rfl rfl ?_
  refine j_aload_n 0 C dX5_exits_1 rfl rfl ?_
  refine j_aload_n 0 C dX5_exits_2 rfl rfl ?_
  refine j_iload_n 1 C dX5_exits_3 rfl rfl ?_
  refine j_callRi (v := jb (jBt (nI k) 0 ((nI N) - 1))) (j_runV (ci := 0) (As := [.int (nI k)]) (rest := [.ref m0, .ref m0]) [0] C (c_X5_isProgram l g m0 th (nI N) tb md rw0 sz cs va lk rn kp (nI k)) gX5_exits_X5_isProgram rfl rfl rfl hd_X5_isProgram ⟨Nat.le_of_ble_eq_true rfl, Nat.le_of_ble_eq_true rfl⟩ rfl rfl rfl rfl dX5_exits_4 rfl (Nat.le_of_ble_eq_true rfl) ⟨Nat.le_of_ble_eq_true rfl, Nat.le_of_ble_eq_true rfl⟩) ?_
  refine j_eq (pc' := 7) (L' := [(0, .ref m0), (1, .int (nI k)), (2, .int (nI d)), (3, .int (nI v))]) (st' := [.int (jb true), .ref m0, .ref m0]) (ws' := [(m0, .inr (4, [.int th, .int (nI N), .ref tb, .ref md, .ref rw0, .int sz, .ref cs, .ref va, .int lk, .ref rn, .ref kp])), (tb, jaR g 10 (fun i => some (tr i))), (tr k, jaI g 253 (jrw n f)), (va, jaL g 4 vv), (cs, jaL g 6 cf)]) ?_ rfl rfl (by rw [jBt_n hk (by omega)]) rfl
  refine j_iload_n 2 C dX5_exits_7 rfl rfl ?_
  refine j_iload_n 3 C dX5_exits_8 rfl rfl ?_
  refine j_callRi (v := 0) (j_runV (ci := 0) (As := [.int (jb true), .int (nI d), .int (nI v)]) (rest := [.ref m0]) [] C (c_X5_whyCases l g m0 d v (by omega) (by omega) (by omega) (by omega)) gX5_exits_X5_whyCases rfl rfl rfl hd_X5_whyCases ⟨Nat.le_of_ble_eq_true rfl, Nat.le_of_ble_eq_true rfl⟩ rfl rfl rfl rfl dX5_exits_9 rfl (Nat.le_of_ble_eq_true rfl) ⟨Nat.le_of_ble_eq_true rfl, Nat.le_of_ble_eq_true rfl⟩) ?_
  refine j_put (Cn := RX5) (T := TX5) (N := 11) (ws' := [(m0, .inr (4, [.int 0, .int (nI N), .ref tb, .ref md, .ref rw0, .int sz, .ref cs, .ref va, .int lk, .ref rn, .ref kp])), (tb, jaR g 10 (fun i => some (tr i))), (tr k, jaI g 253 (jrw n f)), (va, jaL g 4 vv), (cs, jaL g 6 cf)]) tyX5 0 0 C dX5_exits_12 hin_X5_exits_X5 tyX5_ok nmX5 rfl rfl (by decide) (List.mem_of_getElem? (i := 1) rfl) rfl (tyX5_ok 0 (by decide)) rfl rfl (Nat.le_of_ble_eq_true rfl) rfl ?_
  refine j_aload_n 0 C dX5_exits_15 rfl rfl ?_
  refine j_get (Cn := RX5) (T := TX5) (N := 11) 0 0 C dX5_exits_16 hin_X5_exits_X5 rfl rfl (by decide) (List.mem_of_getElem? (i := 1) rfl) rfl ?_
  refine j_if_eq (tgt := 24) C dX5_exits_19 (by decide) (fun c_1 => ?_) (fun c_1 => ?_)
  · skip
    refine j_iconst (v := 0) C dX5_exits_24 rfl ?_
    refine j_istore (L' := [(0, .ref m0), (1, .int (nI k)), (2, .int (nI d)), (3, .int (nI v)), (4, .int 0)]) C dX5_exits_25 (Nat.le_of_ble_eq_true rfl) rfl rfl ?_
    refine j_iconst (v := 0) C dX5_exits_27 rfl ?_
    refine j_istore (L' := [(0, .ref m0), (1, .int (nI k)), (2, .int (nI d)), (3, .int (nI v)), (4, .int 0), (5, .int 0)]) C dX5_exits_28 (Nat.le_of_ble_eq_true rfl) rfl rfl ?_
    refine j_loop (σ := Nat × Nat × Int32 × (Nat → Int64) × (Nat → Int64)) (fun (x9_ : Nat × Nat × Int32 × (Nat → Int64) × (Nat → Int64)) => match x9_ with | (x, q, lk1, w1, c1) => [(0, .ref m0), (1, .int (nI k)), (2, .int (nI d)), (3, .int (nI v)), (4, .int (nI q)), (5, .int (nI x))]) (fun (x9_ : Nat × Nat × Int32 × (Nat → Int64) × (Nat → Int64)) => match x9_ with | (x, q, lk1, w1, c1) => [(m0, .inr (4, [.int 0, .int (nI N), .ref tb, .ref md, .ref rw0, .int sz, .ref cs, .ref va, .int lk1, .ref rn, .ref kp])), (tb, jaR g 10 (fun i => some (tr i))), (tr k, jaI g 253 (jrw n f)), (va, jaL g 4 w1), (cs, jaL g 6 c1)]) (fun (x9_ : Nat × Nat × Int32 × (Nat → Int64) × (Nat → Int64)) => match x9_ with | (x, q, lk1, w1, c1) => (x ≤ v ^ d) ∧ (jDf (jCx n f d v) (v ^ d - x) x q = jDf (jCx n f d v) (v ^ d) 0 0)) (fun (x9_ : Nat × Nat × Int32 × (Nat → Int64) × (Nat → Int64)) => match x9_ with | (x, q, lk1, w1, c1) => v ^ d - x) (fun x_ hi_3 ih_2 => ?_) (0, 0, lk, vv, cf) ⟨(by omega), rfl⟩ rfl rfl
    obtain ⟨x, q, lk1, w1, c1⟩ := x_
    obtain ⟨hI0, hI1⟩ := (show (x ≤ v ^ d) ∧ (jDf (jCx n f d v) (v ^ d - x) x q = jDf (jCx n f d v) (v ^ d) 0 0) from hi_3)
    refine j_eq (pc' := 30) (L' := [(0, .ref m0), (1, .int (nI k)), (2, .int (nI d)), (3, .int (nI v)), (4, .int (nI q)), (5, .int (nI x))]) (st' := []) (ws' := [(m0, .inr (4, [.int 0, .int (nI N), .ref tb, .ref md, .ref rw0, .int sz, .ref cs, .ref va, .int lk1, .ref rn, .ref kp])), (tb, jaR g 10 (fun i => some (tr i))), (tr k, jaI g 253 (jrw n f)), (va, jaL g 4 w1), (cs, jaL g 6 c1)]) ?_ rfl rfl rfl rfl
    refine j_iload 5 C dX5_exits_30 rfl ?_
    refine j_iload_n 2 C dX5_exits_32 rfl rfl ?_
    refine j_iload_n 3 C dX5_exits_33 rfl rfl ?_
    refine j_callRi (v := nI (v ^ d)) (j_runS (As := [.int (nI d), .int (nI v)]) (rest := [.int (nI x)]) [] C (c_X5_rows l g d v (by omega) (by omega) (by omega) (by omega)) gX5_exits_X5_rows rfl rfl rfl hd_X5_rows ⟨Nat.le_of_ble_eq_true rfl, Nat.le_of_ble_eq_true rfl⟩ rfl rfl dX5_exits_34 rfl (Nat.le_of_ble_eq_true rfl) ⟨Nat.le_of_ble_eq_true rfl, Nat.le_of_ble_eq_true rfl⟩) ?_
    refine j_icmp_ge (tgt := 83) C dX5_exits_37 (by decide) (fun c_4 => ?_) (fun c_4 => ?_)
    · skip
      have c_4 : (v ^ d) ≤ x := (nI_leI (a := v ^ d) (b := x) (by omega) (by omega)).mp c_4
      have hpos : 1 ≤ v ^ d := Nat.pos_of_ne_zero (fun z => by rw [Nat.pow_eq_zero] at z; omega)
      have hq : q = jDf (jCx n f d v) (v ^ d) 0 0 := by rw [← hI1, show v ^ d - x = 0 by omega]; rfl
      refine j_iload 4 C dX5_exits_83 rfl ?_
      refine j_i2d C dX5_exits_85 ?_
      refine j_iload_n 2 C dX5_exits_86 rfl rfl ?_
      refine j_iload_n 3 C dX5_exits_87 rfl rfl ?_
      refine j_callRi (v := nI (v ^ d)) (j_runS (As := [.int (nI d), .int (nI v)]) (rest := [.double (FP.i2d (nI q))]) [] C (c_X5_rows l g d v (by omega) (by omega) (by omega) (by omega)) gX5_exits_X5_rows rfl rfl rfl hd_X5_rows ⟨Nat.le_of_ble_eq_true rfl, Nat.le_of_ble_eq_true rfl⟩ rfl rfl dX5_exits_88 rfl (Nat.le_of_ble_eq_true rfl) ⟨Nat.le_of_ble_eq_true rfl, Nat.le_of_ble_eq_true rfl⟩) ?_
      refine j_i2d C dX5_exits_91 ?_
      refine j_ddiv C dX5_exits_92 (jdiv_n64 (nI_ne0 (by omega) (by omega))) ?_
      exact j_dretW (v := FP.ddiv (FP.i2d (nI q)) (FP.i2d (nI (v ^ d)))) C hr dX5_exits_93 (lk1, w1, c1) (by rw [hq]) rfl
    · skip
      have c_4 : ¬ (v ^ d) ≤ x := fun z => c_4 ((nI_leI (a := v ^ d) (b := x) (by omega) (by omega)).mpr z)
      obtain ⟨r1, hr1⟩ : ∃ r, jRn n f (jLy d v x 0 c1) d = r := ⟨_, rfl⟩
      have hS : (jCx n f d v) x = decide (r1.2.2 = -1) := by rw [← hr1, jRn_cs]; rfl
      refine j_aload_n 0 C dX5_exits_40 rfl rfl ?_
      refine j_iload 5 C dX5_exits_41 rfl ?_
      refine j_iload_n 2 C dX5_exits_43 rfl rfl ?_
      refine j_iload_n 3 C dX5_exits_44 rfl rfl ?_
      refine j_callWv [0, 4] (fun _ => [(m0, .inr (4, [.int 0, .int (nI N), .ref tb, .ref md, .ref rw0, .int sz, .ref cs, .ref va, .int lk1, .ref rn, .ref kp])), (tb, jaR g 10 (fun i => some (tr i))), (tr k, jaI g 253 (jrw n f)), (va, jaL g 4 w1), (cs, jaL g 6 (jLy d v x 0 c1))]) C (j_runV (ci := 0) (As := [.int (nI x), .int (nI d), .int (nI v)]) (rest := []) [0, 4] C (c_X5_layCase l g m0 0 (nI N) tb md rw0 sz cs va lk1 rn kp x d v c1 (by omega) (by omega) (by omega) (by omega)) gX5_exits_X5_layCase rfl rfl rfl hd_X5_layCase ⟨Nat.le_of_ble_eq_true rfl, Nat.le_of_ble_eq_true rfl⟩ rfl rfl rfl rfl dX5_exits_45 rfl (Nat.le_of_ble_eq_true rfl) ⟨Nat.le_of_ble_eq_true rfl, Nat.le_of_ble_eq_true rfl⟩) rfl (fun _ => rfl) (fun _ => rfl) (fun _ _ => ?_)
      refine j_iload 4 C dX5_exits_48 rfl ?_
      refine j_aload_n 0 C dX5_exits_50 rfl rfl ?_
      refine j_aload_n 0 C dX5_exits_51 rfl rfl ?_
      refine j_get (Cn := RX5) (T := TX5) (N := 11) 0 2 C dX5_exits_52 hin_X5_exits_X5 rfl rfl (by decide) (List.mem_of_getElem? (i := 2) rfl) rfl ?_
      refine j_iload_n 1 C dX5_exits_55 rfl rfl ?_
      refine j_aldR (x := k) 1 C dX5_exits_56 rfl rfl (by omega) (by decide) ?_
      refine j_eq (pc' := 57) (L' := [(0, .ref m0), (1, .int (nI k)), (2, .int (nI d)), (3, .int (nI v)), (4, .int (nI q)), (5, .int (nI x))]) (st' := [.ref (tr k), .ref m0, .int (nI q)]) (ws' := [(m0, .inr (4, [.int 0, .int (nI N), .ref tb, .ref md, .ref rw0, .int sz, .ref cs, .ref va, .int lk1, .ref rn, .ref kp])), (tb, jaR g 10 (fun i => some (tr i))), (tr k, jaI g 253 (jrw n f)), (va, jaL g 4 w1), (cs, jaL g 6 (jLy d v x 0 c1))]) ?_ rfl rfl rfl rfl
      refine j_aload_n 0 C dX5_exits_57 rfl rfl ?_
      refine j_get (Cn := RX5) (T := TX5) (N := 11) 0 6 C dX5_exits_58 hin_X5_exits_X5 rfl rfl (by decide) (List.mem_of_getElem? (i := 3) rfl) rfl ?_
      refine j_iload_n 2 C dX5_exits_61 rfl rfl ?_
      refine j_callWi [0, 3, 2, 4] (fun _ => [(m0, .inr (4, [.int 0, .int (nI N), .ref tb, .ref md, .ref rw0, .int sz, .ref cs, .ref va, .int ((jRn n f (jLy d v x 0 c1) d).2.1), .ref rn, .ref kp])), (tb, jaR g 10 (fun i => some (tr i))), (tr k, jaI g 253 (jrw n f)), (va, jaL g 4 ((jRn n f (jLy d v x 0 c1) d).1)), (cs, jaL g 6 (jLy d v x 0 c1))]) C (j_runV (ci := 0) (As := [.ref (tr k), .ref cs, .int (nI d)]) (rest := [.int (nI q)]) [0, 3, 2, 4] C (c_X5_runOver l g m0 0 (nI N) tb md rw0 sz cs va lk1 rn kp w1 (tr k) n f cs d 6 (jLy d v x 0 c1) (by omega) (by omega) (by omega)) gX5_exits_X5_runOver rfl rfl rfl hd_X5_runOver ⟨Nat.le_of_ble_eq_true rfl, Nat.le_of_ble_eq_true rfl⟩ rfl rfl rfl rfl dX5_exits_62 rfl (Nat.le_of_ble_eq_true rfl) ⟨Nat.le_of_ble_eq_true rfl, Nat.le_of_ble_eq_true rfl⟩) rfl (fun _ => rfl) (fun _ => rfl) (fun z _ hz => ?_)
      subst hz
      refine j_eq (pc' := 65) (L' := [(0, .ref m0), (1, .int (nI k)), (2, .int (nI d)), (3, .int (nI v)), (4, .int (nI q)), (5, .int (nI x))]) (st' := [.int r1.2.2, .int (nI q)]) (ws' := [(m0, .inr (4, [.int 0, .int (nI N), .ref tb, .ref md, .ref rw0, .int sz, .ref cs, .ref va, .int r1.2.1, .ref rn, .ref kp])), (tb, jaR g 10 (fun i => some (tr i))), (tr k, jaI g 253 (jrw n f)), (va, jaL g 4 r1.1), (cs, jaL g 6 (jLy d v x 0 c1))]) ?_ rfl rfl (by simp only [hr1]) (by simp only [hr1])
      refine j_iconst (v := -1) C dX5_exits_65 rfl ?_
      refine j_icmp_ne (tgt := 73) C dX5_exits_66 (by decide) (fun c_6 => ?_) (fun c_6 => ?_)
      · skip
        refine j_iconst (v := 1) C dX5_exits_73 rfl ?_
        refine j_iadd (x := nI q) (y := 1) (v := nI (q + 1)) C dX5_exits_74 (nI_add q 1) ?_
        refine j_istore (L' := [(0, .ref m0), (1, .int (nI k)), (2, .int (nI d)), (3, .int (nI v)), (4, .int (nI (q + 1))), (5, .int (nI x))]) C dX5_exits_75 (Nat.le_of_ble_eq_true rfl) rfl rfl ?_
        refine j_iinc (v := nI (x + 1)) (L' := [(0, .ref m0), (1, .int (nI k)), (2, .int (nI d)), (3, .int (nI v)), (4, .int (nI (q + 1))), (5, .int (nI (x + 1)))]) 5 C dX5_exits_77 rfl (nI_add x 1) (Nat.le_of_ble_eq_true rfl) rfl rfl ?_
        refine j_goto (tgt := 30) C dX5_exits_80 (by decide) ?_
        exact ih_2 (x + 1, q + 1, r1.2.1, r1.1, (jLy d v x 0 c1)) ⟨(by omega), (by rw [← hI1, show v ^ d - x = (v ^ d - (x + 1)) + 1 by omega, jDf_s, hS]; first | (rw [if_pos (decide_eq_true (by assumption))]; rfl) | rw [if_neg (by rw [decide_eq_false (by assumption)]; decide)])⟩ (show v ^ d - (x + 1) < v ^ d - x from by omega)
      · skip
        refine j_iconst (v := 0) C dX5_exits_69 rfl ?_
        refine j_goto (tgt := 74) C dX5_exits_70 (by decide) ?_
        refine j_iadd (x := nI q) (y := 0) (v := nI (q + 0)) C dX5_exits_74 (nI_add q 0) ?_
        refine j_istore (L' := [(0, .ref m0), (1, .int (nI k)), (2, .int (nI d)), (3, .int (nI v)), (4, .int (nI (q + 0))), (5, .int (nI x))]) C dX5_exits_75 (Nat.le_of_ble_eq_true rfl) rfl rfl ?_
        refine j_iinc (v := nI (x + 1)) (L' := [(0, .ref m0), (1, .int (nI k)), (2, .int (nI d)), (3, .int (nI v)), (4, .int (nI (q + 0))), (5, .int (nI (x + 1)))]) 5 C dX5_exits_77 rfl (nI_add x 1) (Nat.le_of_ble_eq_true rfl) rfl rfl ?_
        refine j_goto (tgt := 30) C dX5_exits_80 (by decide) ?_
        exact ih_2 (x + 1, q + 0, r1.2.1, r1.1, (jLy d v x 0 c1)) ⟨(by omega), (by rw [← hI1, show v ^ d - x = (v ^ d - (x + 1)) + 1 by omega, jDf_s, hS]; first | (rw [if_pos (decide_eq_true (by assumption))]; rfl) | rw [if_neg (by rw [decide_eq_false (by assumption)]; decide)])⟩ (show v ^ d - (x + 1) < v ^ d - x from by omega)
  · skip
    exact absurd c_1 (by decide)
