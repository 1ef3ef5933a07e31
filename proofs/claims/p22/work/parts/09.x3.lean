set_option maxRecDepth 100000 in
theorem hin_X3_codeOfExit_X3 : ∀ w ∈ u_ws RX3 TX3 3, w ∈ wsX3_codeOfExit := fun w h => List.mem_cons_of_mem _ (by exact List.mem_append_right _ h)
set_option maxRecDepth 100000 in
theorem hin_X3_countLooks_X3 : ∀ w ∈ u_ws RX3 TX3 3, w ∈ wsX3_countLooks := fun w h => List.mem_cons_of_mem _ (by exact List.mem_append_right _ h)
set_option maxRecDepth 100000 in
theorem hin_X3_variable_X3 : ∀ w ∈ u_ws RX3 TX3 3, w ∈ wsX3_variable := fun w h => List.mem_cons_of_mem _ (by exact List.mem_append_right _ h)
set_option maxRecDepth 100000 in
theorem hin_X3_setVariable_X3 : ∀ w ∈ u_ws RX3 TX3 3, w ∈ wsX3_setVariable := fun w h => List.mem_cons_of_mem _ (by exact List.mem_append_right _ h)
set_option maxRecDepth 100000 in
theorem hin_X3_answersLike_X3 : ∀ w ∈ u_ws RX3 TX3 3, w ∈ wsX3_answersLike := fun w h => List.mem_cons_of_mem _ (by exact List.mem_append_right _ h)
theorem hd_X3_variable : yX3_variable.cls = RX3 ∧ yX3_variable.cls ≠ "java/lang/invoke/MethodHandle" ∧ yX3_variable.cls ≠ "java/lang/invoke/VarHandle" ∧ (parseMethodDescriptor yX3_variable.desc).map (fun d => d.parameters.length) = some 1 := by decide +kernel
theorem hd_X3_setVariable : yX3_setVariable.cls = RX3 ∧ yX3_setVariable.cls ≠ "java/lang/invoke/MethodHandle" ∧ yX3_setVariable.cls ≠ "java/lang/invoke/VarHandle" ∧ (parseMethodDescriptor yX3_setVariable.desc).map (fun d => d.parameters.length) = some 2 := by decide +kernel
set_option maxRecDepth 100000 in
theorem hin_X3_doSteps_X3 : ∀ w ∈ u_ws RX3 TX3 3, w ∈ wsX3_doSteps := fun w h => List.mem_cons_of_mem _ (by exact List.mem_append_left _ (List.mem_append_right _ h))
theorem hd_X3_holds : yX3_holds.cls = RX3 ∧ yX3_holds.cls ≠ "java/lang/invoke/MethodHandle" ∧ yX3_holds.cls ≠ "java/lang/invoke/VarHandle" ∧ (parseMethodDescriptor yX3_holds.desc).map (fun d => d.parameters.length) = some 3 := by decide +kernel
theorem hd_X3_doDeed : yX3_doDeed.cls = RX3 ∧ yX3_doDeed.cls ≠ "java/lang/invoke/MethodHandle" ∧ yX3_doDeed.cls ≠ "java/lang/invoke/VarHandle" ∧ (parseMethodDescriptor yX3_doDeed.desc).map (fun d => d.parameters.length) = some 4 := by decide +kernel
theorem hd_X3_doSteps : yX3_doSteps.cls = RX3 ∧ yX3_doSteps.cls ≠ "java/lang/invoke/MethodHandle" ∧ yX3_doSteps.cls ≠ "java/lang/invoke/VarHandle" ∧ (parseMethodDescriptor yX3_doSteps.desc).map (fun d => d.parameters.length) = some 4 := by decide +kernel
set_option maxRecDepth 100000 in
theorem hin_X3_goThrough_X3 : ∀ w ∈ u_ws RX3 TX3 3, w ∈ wsX3_goThrough := fun w h => List.mem_cons_of_mem _ (by exact List.mem_append_left _ (List.mem_append_right _ h))
theorem hd_X3_goThroughLoop : yX3_goThroughLoop.cls = RX3 ∧ yX3_goThroughLoop.cls ≠ "java/lang/invoke/MethodHandle" ∧ yX3_goThroughLoop.cls ≠ "java/lang/invoke/VarHandle" ∧ (parseMethodDescriptor yX3_goThroughLoop.desc).map (fun d => d.parameters.length) = some 4 := by decide +kernel
set_option maxRecDepth 100000 in
theorem hin_X0_begin_X0 : ∀ w ∈ u_ws RX0 TX0 3, w ∈ wsX0_begin := fun w h => List.mem_cons_of_mem _ (by exact List.mem_append_right _ h)
set_option maxRecDepth 100000 in
theorem hin_X0_goOn_X0 : ∀ w ∈ u_ws RX0 TX0 3, w ∈ wsX0_goOn := fun w h => List.mem_cons_of_mem _ (by exact List.mem_append_right _ h)
set_option maxHeartbeats 4000000 in
set_option maxRecDepth 100000 in
theorem c_X3_codeOfExit (l : Launch) (g : jG) (r vr : Nat) (lk cd : Int32) (vv : Nat → Int64)  : jRi l yX3_codeOfExit wsX3_codeOfExit ({ frames := 0, cells := 0, slots := 0, locals := 0 }) g [.ref r] [(r, .inr (2, [.ref vr, .int lk, .int cd])), (vr, jaL g 4 vv)] cd := by
  refine j_enterR (cc := cX3_codeOfExit) (maxL := 1) (ret := (some .int)) (own := RX3) (L := [(0, .ref r)]) (by decide) rfl rfl (Nat.le_of_ble_eq_true rfl) rfl (fun p e s m args below meth c C hr => ?_)
  refine j_aload_n 0 C dX3_codeOfExit_0 rfl rfl ?_
  refine j_get (Cn := RX3) (T := TX3) (N := 3) 0 2 C dX3_codeOfExit_1 hin_X3_codeOfExit_X3 rfl rfl (by decide) (List.mem_of_getElem? (i := 1) rfl) rfl ?_
  exact j_iretR (v := cd) C hr dX3_codeOfExit_4 rfl
set_option maxHeartbeats 4000000 in
set_option maxRecDepth 100000 in
theorem c_X3_countLooks (l : Launch) (g : jG) (r vr : Nat) (lk cd : Int32) (vv : Nat → Int64)  : jRi l yX3_countLooks wsX3_countLooks ({ frames := 0, cells := 0, slots := 0, locals := 0 }) g [.ref r] [(r, .inr (2, [.ref vr, .int lk, .int cd])), (vr, jaL g 4 vv)] lk := by
  refine j_enterR (cc := cX3_countLooks) (maxL := 1) (ret := (some .int)) (own := RX3) (L := [(0, .ref r)]) (by decide) rfl rfl (Nat.le_of_ble_eq_true rfl) rfl (fun p e s m args below meth c C hr => ?_)
  refine j_aload_n 0 C dX3_countLooks_0 rfl rfl ?_
  refine j_get (Cn := RX3) (T := TX3) (N := 3) 0 1 C dX3_countLooks_1 hin_X3_countLooks_X3 rfl rfl (by decide) (List.mem_of_getElem? (i := 1) rfl) rfl ?_
  exact j_iretR (v := lk) C hr dX3_countLooks_4 rfl
set_option maxHeartbeats 4000000 in
set_option maxRecDepth 100000 in
theorem c_X3_variable (l : Launch) (g : jG) (r vr : Nat) (lk cd : Int32) (vv : Nat → Int64) (v : Nat) (hv : v < 4) : jRl l yX3_variable wsX3_variable ({ frames := 0, cells := 0, slots := 0, locals := 0 }) g [.ref r, .int (nI v)] [(r, .inr (2, [.ref vr, .int lk, .int cd])), (vr, jaL g 4 vv)] (vv v) := by
  refine j_enterR (cc := cX3_variable) (maxL := 2) (ret := (some .long)) (own := RX3) (L := [(0, .ref r), (1, .int (nI v))]) (by decide) rfl rfl (Nat.le_of_ble_eq_true rfl) rfl (fun p e s m args below meth c C hr => ?_)
  refine j_iload_n 1 C dX3_variable_0 rfl rfl ?_
  refine j_if_lt (tgt := 22) C dX3_variable_1 (by decide) (fun c_1 => ?_) (fun c_1 => ?_)
  · skip
    have c_1 : v < 0 := (nI_ltI (a := v) (b := 0) (by omega) (by omega)).mp c_1
    exact absurd c_1 (by omega)
  · skip
    have c_1 : ¬ v < 0 := fun z => c_1 ((nI_ltI (a := v) (b := 0) (by omega) (by omega)).mpr z)
    refine j_iload_n 1 C dX3_variable_4 rfl rfl ?_
    refine j_aload_n 0 C dX3_variable_5 rfl rfl ?_
    refine j_get (Cn := RX3) (T := TX3) (N := 3) 0 0 C dX3_variable_6 hin_X3_variable_X3 rfl rfl (by decide) (List.mem_of_getElem? (i := 1) rfl) rfl ?_
    refine j_alenL (v := 4) 1 C dX3_variable_9 rfl rfl ?_
    refine j_icmp_ge (tgt := 22) C dX3_variable_10 (by decide) (fun c_2 => ?_) (fun c_2 => ?_)
    · skip
      have c_2 : 4 ≤ v := (nI_leI (a := 4) (b := v) (by omega) (by omega)).mp c_2
      exact absurd c_2 (by omega)
    · skip
      have c_2 : ¬ 4 ≤ v := fun z => c_2 ((nI_leI (a := 4) (b := v) (by omega) (by omega)).mpr z)
      refine j_aload_n 0 C dX3_variable_13 rfl rfl ?_
      refine j_get (Cn := RX3) (T := TX3) (N := 3) 0 0 C dX3_variable_14 hin_X3_variable_X3 rfl rfl (by decide) (List.mem_of_getElem? (i := 1) rfl) rfl ?_
      refine j_iload_n 1 C dX3_variable_17 rfl rfl ?_
      refine j_laldN (x := v) 1 C dX3_variable_18 rfl rfl (by omega) (by decide) ?_
      refine j_goto (tgt := 23) C dX3_variable_19 (by decide) ?_
      exact j_lretR (v := vv v) C hr dX3_variable_23 rfl
set_option maxHeartbeats 4000000 in
set_option maxRecDepth 100000 in
theorem c_X3_setVariable (l : Launch) (g : jG) (r vr : Nat) (lk cd : Int32) (vv : Nat → Int64) (v : Nat) (x : Int64) (hv : v < 4) : jWv l yX3_setVariable wsX3_setVariable ({ frames := 0, cells := 0, slots := 0, locals := 0 }) g [.ref r, .int (nI v), .long x] [(r, .inr (2, [.ref vr, .int lk, .int cd])), (vr, jaL g 4 vv)] [(r, .inr (2, [.ref vr, .int lk, .int cd])), (vr, jaL g 4 (vp_updL vv v x))] := by
  refine j_enterW (Qc := fun sz_ => va_Qv (fun (_ : Unit) => True) (fun _ t => va_P g.1 vwCl [(r, .inr (2, [.ref vr, .int lk, .int cd])), (vr, jaL g 4 (vp_updL vv v x))] t.heap) (va_A [(r, .inr (2, [.ref vr, .int lk, .int cd])), (vr, jaL g 4 vv)] sz_)) (cc := cX3_setVariable) (maxL := 4) (ret := none) (own := RX3) (L := [(0, .ref r), (1, .int (nI v)), (2, .long x)]) (by decide) rfl rfl (Nat.le_of_ble_eq_true rfl) rfl (fun p e s m args below meth c C hr => ?_)
  refine j_iload_n 1 C dX3_setVariable_0 rfl rfl ?_
  refine j_if_lt (tgt := 20) C dX3_setVariable_1 (by decide) (fun c_1 => ?_) (fun c_1 => ?_)
  · skip
    have c_1 : v < 0 := (nI_ltI (a := v) (b := 0) (by omega) (by omega)).mp c_1
    exact absurd c_1 (by omega)
  · skip
    have c_1 : ¬ v < 0 := fun z => c_1 ((nI_ltI (a := v) (b := 0) (by omega) (by omega)).mpr z)
    refine j_iload_n 1 C dX3_setVariable_4 rfl rfl ?_
    refine j_aload_n 0 C dX3_setVariable_5 rfl rfl ?_
    refine j_get (Cn := RX3) (T := TX3) (N := 3) 0 0 C dX3_setVariable_6 hin_X3_setVariable_X3 rfl rfl (by decide) (List.mem_of_getElem? (i := 1) rfl) rfl ?_
    refine j_alenL (v := 4) 1 C dX3_setVariable_9 rfl rfl ?_
    refine j_icmp_ge (tgt := 20) C dX3_setVariable_10 (by decide) (fun c_2 => ?_) (fun c_2 => ?_)
    · skip
      have c_2 : 4 ≤ v := (nI_leI (a := 4) (b := v) (by omega) (by omega)).mp c_2
      exact absurd c_2 (by omega)
    · skip
      have c_2 : ¬ 4 ≤ v := fun z => c_2 ((nI_leI (a := 4) (b := v) (by omega) (by omega)).mpr z)
      refine j_aload_n 0 C dX3_setVariable_13 rfl rfl ?_
      refine j_get (Cn := RX3) (T := TX3) (N := 3) 0 0 C dX3_setVariable_14 hin_X3_setVariable_X3 rfl rfl (by decide) (List.mem_of_getElem? (i := 1) rfl) rfl ?_
      refine j_iload_n 1 C dX3_setVariable_17 rfl rfl ?_
      refine j_lload_n 2 C dX3_setVariable_18 rfl rfl ?_
      refine j_lastN (x := v) (ws' := [(r, .inr (2, [.ref vr, .int lk, .int cd])), (vr, jaL g 4 (vp_updL vv v x))]) 1 C dX3_setVariable_19 rfl rfl (by omega) (by decide) rfl ?_
      exact j_vretW C hr dX3_setVariable_20 () trivial rfl
set_option maxHeartbeats 4000000 in
set_option maxRecDepth 100000 in
theorem c_X3_answersLike (l : Launch) (g : jG) (r vr : Nat) (lk cd : Int32) (vv : Nat → Int64) (r2 vr2 : Nat) (lk2 cd2 : Int32) (v2 : Nat → Int64)  : jRi l yX3_answersLike wsX3_answersLike ({ frames := 1, cells := 0, slots := 0, locals := 21 }) g [.ref r, .ref r2] [(r, .inr (2, [.ref vr, .int lk, .int cd])), (vr, jaL g 4 vv), (r2, .inr (2, [.ref vr2, .int lk2, .int cd2])), (vr2, jaL g 4 v2)] (jb (jAL vv cd v2 cd2)) := by
  refine j_enterR (cc := cX3_answersLike) (maxL := 3) (ret := (some .boolean)) (own := RX3) (L := [(0, .ref r), (1, .ref r2)]) (by decide) rfl rfl (Nat.le_of_ble_eq_true rfl) rfl (fun p e s m args below meth c C hr => ?_)
  refine j_aload_n 0 C dX3_answersLike_0 rfl rfl ?_
  refine j_get (Cn := RX3) (T := TX3) (N := 3) 0 2 C dX3_answersLike_1 hin_X3_answersLike_X3 rfl rfl (by decide) (List.mem_of_getElem? (i := 1) rfl) rfl ?_
  refine j_aload_n 1 C dX3_answersLike_4 rfl rfl ?_
  refine j_get (Cn := RX3) (T := TX3) (N := 3) 2 2 C dX3_answersLike_5 hin_X3_answersLike_X3 rfl rfl (by decide) (List.mem_of_getElem? (i := 1) rfl) rfl ?_
  refine j_icmp_eq (tgt := 13) C dX3_answersLike_8 (by decide) (fun c_1 => ?_) (fun c_1 => ?_)
  · skip
    refine j_aload_n 0 C dX3_answersLike_13 rfl rfl ?_
    refine j_get (Cn := RX3) (T := TX3) (N := 3) 0 2 C dX3_answersLike_14 hin_X3_answersLike_X3 rfl rfl (by decide) (List.mem_of_getElem? (i := 1) rfl) rfl ?_
    refine j_iconst (v := -1) C dX3_answersLike_17 rfl ?_
    refine j_icmp_eq (tgt := 23) C dX3_answersLike_18 (by decide) (fun c_2 => ?_) (fun c_2 => ?_)
    · skip
      refine j_iconst (v := 0) C dX3_answersLike_23 rfl ?_
      refine j_istore_n (L' := [(0, .ref r), (1, .ref r2), (2, .int 0)]) C dX3_answersLike_24 rfl (Nat.le_of_ble_eq_true rfl) rfl rfl ?_
      refine j_loop (σ := Nat) (fun (i : Nat) => [(0, .ref r), (1, .ref r2), (2, .int (nI i))]) (fun (i : Nat) => [(r, .inr (2, [.ref vr, .int lk, .int cd])), (vr, jaL g 4 vv), (r2, .inr (2, [.ref vr2, .int lk2, .int cd2])), (vr2, jaL g 4 v2)]) (fun (i : Nat) => (i ≤ 4) ∧ (jEqV vv v2 (4 - i) i = jEqV vv v2 4 0)) (fun (i : Nat) => 4 - i) (fun x_ hi_4 ih_3 => ?_) 0 ⟨(by omega), rfl⟩ rfl rfl
      obtain ⟨i, hx_⟩ : ∃ z, z = x_ := ⟨_, rfl⟩
      subst hx_
      obtain ⟨hI0, hI1⟩ := (show (i ≤ 4) ∧ (jEqV vv v2 (4 - i) i = jEqV vv v2 4 0) from hi_4)
      refine j_eq (pc' := 25) (L' := [(0, .ref r), (1, .ref r2), (2, .int (nI i))]) (st' := []) (ws' := [(r, .inr (2, [.ref vr, .int lk, .int cd])), (vr, jaL g 4 vv), (r2, .inr (2, [.ref vr2, .int lk2, .int cd2])), (vr2, jaL g 4 v2)]) ?_ rfl rfl rfl rfl
      refine j_iload_n 2 C dX3_answersLike_25 rfl rfl ?_
      refine j_iconst (v := 4) C dX3_answersLike_26 rfl ?_
      refine j_icmp_ge (tgt := 52) C dX3_answersLike_27 (by decide) (fun c_5 => ?_) (fun c_5 => ?_)
      · skip
        have c_5 : 4 ≤ i := (nI_leI (a := 4) (b := i) (by omega) (by omega)).mp c_5
        refine j_iconst (v := 1) C dX3_answersLike_52 rfl ?_
        exact j_zretR (v := 1) C hr dX3_answersLike_53 rfl (by rw [jAL, if_pos (by assumption), if_pos (by assumption), ← hI1, show 4 - i = 0 by omega]; rfl)
      · skip
        have c_5 : ¬ 4 ≤ i := fun z => c_5 ((nI_leI (a := 4) (b := i) (by omega) (by omega)).mpr z)
        refine j_aload_n 0 C dX3_answersLike_30 rfl rfl ?_
        refine j_iload_n 2 C dX3_answersLike_31 rfl rfl ?_
        refine j_callRl (v := vv i) (j_runV (ci := 0) (As := [.int (nI i)]) (rest := []) [0, 1] C (c_X3_variable l g r vr lk cd vv i (by omega)) gX3_answersLike_X3_variable rfl rfl rfl hd_X3_variable ⟨Nat.le_of_ble_eq_true rfl, Nat.le_of_ble_eq_true rfl⟩ rfl rfl rfl rfl dX3_answersLike_32 rfl (Nat.le_of_ble_eq_true rfl) ⟨Nat.le_of_ble_eq_true rfl, Nat.le_of_ble_eq_true rfl⟩) ?_
        refine j_aload_n 1 C dX3_answersLike_35 rfl rfl ?_
        refine j_iload_n 2 C dX3_answersLike_36 rfl rfl ?_
        refine j_callRl (v := v2 i) (j_runV (ci := 2) (As := [.int (nI i)]) (rest := [.long (vv i)]) [2, 3] C (c_X3_variable l g r2 vr2 lk2 cd2 v2 i (by omega)) gX3_answersLike_X3_variable rfl rfl rfl hd_X3_variable ⟨Nat.le_of_ble_eq_true rfl, Nat.le_of_ble_eq_true rfl⟩ rfl rfl rfl rfl dX3_answersLike_37 rfl (Nat.le_of_ble_eq_true rfl) ⟨Nat.le_of_ble_eq_true rfl, Nat.le_of_ble_eq_true rfl⟩) ?_
        refine j_lcmp_eq (tgt := 46) C dX3_answersLike_40 dX3_answersLike_41 (by decide) (fun c_6 => ?_) (fun c_6 => ?_)
        · skip
          refine j_iinc (v := nI (i + 1)) (L' := [(0, .ref r), (1, .ref r2), (2, .int (nI (i + 1)))]) 2 C dX3_answersLike_46 rfl (nI_add i 1) (Nat.le_of_ble_eq_true rfl) rfl rfl ?_
          refine j_goto (tgt := 25) C dX3_answersLike_49 (by decide) ?_
          exact ih_3 (i + 1) ⟨(by omega), (by rw [← hI1, show 4 - i = (4 - (i + 1)) + 1 by omega, jEqV_s, if_pos (by assumption)])⟩ (show 4 - (i + 1) < 4 - i from by omega)
        · skip
          refine j_iconst (v := 0) C dX3_answersLike_44 rfl ?_
          exact j_zretR (v := 0) C hr dX3_answersLike_45 rfl (by rw [jAL, if_pos (by assumption), if_pos (by assumption), ← hI1, show 4 - i = (4 - (i + 1)) + 1 by omega, jEqV_s, if_neg (by assumption)]; rfl)
    · skip
      refine j_iconst (v := 1) C dX3_answersLike_21 rfl ?_
      exact j_zretR (v := 1) C hr dX3_answersLike_22 rfl (by rw [jAL, if_pos (by assumption), if_neg (by assumption)]; rfl)
  · skip
    refine j_iconst (v := 0) C dX3_answersLike_11 rfl ?_
    exact j_zretR (v := 0) C hr dX3_answersLike_12 rfl (by rw [jAL, if_neg (by assumption)]; rfl)
set_option maxHeartbeats 4000000 in
set_option maxRecDepth 100000 in
theorem c_X3_holds (l : Launch) (g : jG) (r vr : Nat) (lk cd : Int32) (vv : Nat → Int64) (lo wi : Int32) (nu : Int64)  : jRi l yX3_holds wsX3_holds ({ frames := 1, cells := 0, slots := 0, locals := 21 }) g [.ref r, .int lo, .int wi, .long nu] [(r, .inr (2, [.ref vr, .int lk, .int cd])), (vr, jaL g 4 vv)] (jb (jHold lo (jOth vv wi) nu)) := by
  refine j_enterR (cc := cX3_holds) (maxL := 7) (ret := (some .boolean)) (own := RX3) (L := [(0, .ref r), (1, .int lo), (2, .int wi), (3, .long nu)]) (by decide) rfl rfl (Nat.le_of_ble_eq_true rfl) rfl (fun p e s m args below meth c C hr => ?_)
  refine j_iload_n 2 C dX3_holds_0 rfl rfl ?_
  refine j_callRi (v := jb (jIsV wi)) (j_runSN (As := [.int wi]) (rest := []) [] C (c_X4_isVariable l g wi) ggX3_holds_X4_isVariable rfl rfl rfl C.2.2.2.2.2.2.1.2.2.2.2.2.1 (List.mem_of_getElem? (i := 2) rfl) (List.mem_of_getElem? (i := 1) rfl) hd_X4_isVariable.2 ⟨Nat.le_of_ble_eq_true rfl, Nat.le_of_ble_eq_true rfl⟩ rfl rfl dX3_holds_1 rfl (Nat.le_of_ble_eq_true rfl) ⟨Nat.le_of_ble_eq_true rfl, Nat.le_of_ble_eq_true rfl⟩) ?_
  refine j_if_eq (tgt := 19) C dX3_holds_4 (by decide) (fun c_1 => ?_) (fun c_1 => ?_)
  · skip
    have c_1 : (jIsV wi) = false := jb_0 c_1
    refine j_iload_n 2 C dX3_holds_19 rfl rfl ?_
    refine j_i2l (v := wi.toInt64) C dX3_holds_20 rfl ?_
    refine j_eq (pc' := 21) (L' := [(0, .ref r), (1, .int lo), (2, .int wi), (3, .long nu)]) (st' := [.long (jOth vv wi)]) (ws' := [(r, .inr (2, [.ref vr, .int lk, .int cd])), (vr, jaL g 4 vv)]) ?_ rfl rfl (by rw [jOth_w (by assumption)]) rfl
    refine j_lstore (L' := [(0, .ref r), (1, .int lo), (2, .int wi), (3, .long nu), (5, .long (jOth vv wi))]) C dX3_holds_21 (Nat.le_of_ble_eq_true rfl) rfl rfl ?_
    refine j_iload_n 1 C dX3_holds_23 rfl rfl ?_
    by_cases hs_2 : lo = 0
    · skip
      refine j_tabIn (tgt := 56) C dX3_holds_24 (by rw [hs_2]; decide) (by rw [hs_2]; decide) (by rw [hs_2]; rfl) (by decide) ?_
      refine j_iconst (v := 1) C dX3_holds_56 rfl ?_
      exact j_zretR (v := 1) C hr dX3_holds_57 rfl (by rw [jHold, if_pos hs_2]; first | rfl | (rw [decide_eq_true (by assumption)]; rfl) | (rw [decide_eq_false (by assumption)]; rfl))
    · skip
      by_cases hs_3 : lo = 1
      · skip
        refine j_tabIn (tgt := 58) C dX3_holds_24 (by rw [hs_3]; decide) (by rw [hs_3]; decide) (by rw [hs_3]; rfl) (by decide) ?_
        refine j_lload_n 3 C dX3_holds_58 rfl rfl ?_
        refine j_lload 4 C dX3_holds_59 rfl ?_
        refine j_lcmp_ne (tgt := 69) C dX3_holds_61 dX3_holds_62 (by decide) (fun c_4 => ?_) (fun c_4 => ?_)
        · skip
          refine j_iconst (v := 0) C dX3_holds_69 rfl ?_
          exact j_zretR (v := 0) C hr dX3_holds_70 rfl (by rw [jHold, if_neg hs_2, if_pos hs_3]; first | rfl | (rw [decide_eq_true (by assumption)]; rfl) | (rw [decide_eq_false (by assumption)]; rfl))
        · skip
          refine j_iconst (v := 1) C dX3_holds_65 rfl ?_
          refine j_goto (tgt := 70) C dX3_holds_66 (by decide) ?_
          exact j_zretR (v := 1) C hr dX3_holds_70 rfl (by rw [jHold, if_neg hs_2, if_pos hs_3]; first | rfl | (rw [decide_eq_true (by assumption)]; rfl) | (rw [decide_eq_false (by assumption)]; rfl))
      · skip
        by_cases hs_5 : lo = 2
        · skip
          refine j_tabIn (tgt := 71) C dX3_holds_24 (by rw [hs_5]; decide) (by rw [hs_5]; decide) (by rw [hs_5]; rfl) (by decide) ?_
          refine j_lload_n 3 C dX3_holds_71 rfl rfl ?_
          refine j_lload 4 C dX3_holds_72 rfl ?_
          refine j_lcmp_eq (tgt := 82) C dX3_holds_74 dX3_holds_75 (by decide) (fun c_6 => ?_) (fun c_6 => ?_)
          · skip
            refine j_iconst (v := 0) C dX3_holds_82 rfl ?_
            exact j_zretR (v := 0) C hr dX3_holds_83 rfl (by rw [jHold, if_neg hs_2, if_neg hs_3, if_pos hs_5]; first | rfl | (rw [decide_eq_true (by assumption)]; rfl) | (rw [decide_eq_false (by assumption)]; rfl))
          · skip
            refine j_iconst (v := 1) C dX3_holds_78 rfl ?_
            refine j_goto (tgt := 83) C dX3_holds_79 (by decide) ?_
            exact j_zretR (v := 1) C hr dX3_holds_83 rfl (by rw [jHold, if_neg hs_2, if_neg hs_3, if_pos hs_5]; first | rfl | (rw [decide_eq_true (by assumption)]; rfl) | (rw [decide_eq_false (by assumption)]; rfl))
        · skip
          by_cases hs_7 : lo = 3
          · skip
            refine j_tabIn (tgt := 84) C dX3_holds_24 (by rw [hs_7]; decide) (by rw [hs_7]; decide) (by rw [hs_7]; rfl) (by decide) ?_
            refine j_lload_n 3 C dX3_holds_84 rfl rfl ?_
            refine j_lload 4 C dX3_holds_85 rfl ?_
            refine j_lcmp_ge (tgt := 95) C dX3_holds_87 dX3_holds_88 (by decide) (fun c_8 => ?_) (fun c_8 => ?_)
            · skip
              refine j_iconst (v := 0) C dX3_holds_95 rfl ?_
              exact j_zretR (v := 0) C hr dX3_holds_96 rfl (by rw [jHold, if_neg hs_2, if_neg hs_3, if_neg hs_5, if_pos hs_7]; first | rfl | (rw [decide_eq_true (by assumption)]; rfl) | (rw [decide_eq_false (by assumption)]; rfl))
            · skip
              refine j_iconst (v := 1) C dX3_holds_91 rfl ?_
              refine j_goto (tgt := 96) C dX3_holds_92 (by decide) ?_
              exact j_zretR (v := 1) C hr dX3_holds_96 rfl (by rw [jHold, if_neg hs_2, if_neg hs_3, if_neg hs_5, if_pos hs_7]; first | rfl | (rw [decide_eq_true (by assumption)]; rfl) | (rw [decide_eq_false (by assumption)]; rfl))
          · skip
            refine j_tabOut (tgt := 97) C dX3_holds_24 (by have h0_ := jne (k := 0) hs_2 (by decide); have h1_ := jne (k := 1) hs_3 (by decide); have h2_ := jne (k := 2) hs_5 (by decide); have h3_ := jne (k := 3) hs_7 (by decide); omega) (by decide) ?_
            refine j_lload_n 3 C dX3_holds_97 rfl rfl ?_
            refine j_lload 4 C dX3_holds_98 rfl ?_
            refine j_lcmp_le (tgt := 108) C dX3_holds_100 dX3_holds_101 (by decide) (fun c_9 => ?_) (fun c_9 => ?_)
            · skip
              refine j_iconst (v := 0) C dX3_holds_108 rfl ?_
              exact j_zretR (v := 0) C hr dX3_holds_109 rfl (by rw [jHold, if_neg hs_2, if_neg hs_3, if_neg hs_5, if_neg hs_7]; first | rfl | (rw [decide_eq_true (by assumption)]; rfl) | (rw [decide_eq_false (by assumption)]; rfl))
            · skip
              refine j_iconst (v := 1) C dX3_holds_104 rfl ?_
              refine j_goto (tgt := 109) C dX3_holds_105 (by decide) ?_
              exact j_zretR (v := 1) C hr dX3_holds_109 rfl (by rw [jHold, if_neg hs_2, if_neg hs_3, if_neg hs_5, if_neg hs_7]; first | rfl | (rw [decide_eq_true (by assumption)]; rfl) | (rw [decide_eq_false (by assumption)]; rfl))
  · skip
    have c_1 : (jIsV wi) = true := jb_1 c_1
    obtain ⟨v, hv4, hv⟩ := jIsV_n c_1
    refine j_aload_n 0 C dX3_holds_7 rfl rfl ?_
    refine j_iload_n 2 C dX3_holds_8 rfl rfl ?_
    refine j_sipush (v := 1000) C dX3_holds_9 rfl ?_
    refine j_isub (x := wi) (y := 1000) (v := nI v) C dX3_holds_12 (by rw [hv]; show nI (1000 + v) - nI 1000 = nI v; rw [pk_sub (by omega)]; congr 1; omega) ?_
    refine j_callRl (v := vv v) (j_runV (ci := 0) (As := [.int (nI v)]) (rest := []) [0, 1] C (c_X3_variable l g r vr lk cd vv v (by omega)) gX3_holds_X3_variable rfl rfl rfl hd_X3_variable ⟨Nat.le_of_ble_eq_true rfl, Nat.le_of_ble_eq_true rfl⟩ rfl rfl rfl rfl dX3_holds_13 rfl (Nat.le_of_ble_eq_true rfl) ⟨Nat.le_of_ble_eq_true rfl, Nat.le_of_ble_eq_true rfl⟩) ?_
    refine j_goto (tgt := 21) C dX3_holds_16 (by decide) ?_
    refine j_eq (pc' := 21) (L' := [(0, .ref r), (1, .int lo), (2, .int wi), (3, .long nu)]) (st' := [.long (jOth vv wi)]) (ws' := [(r, .inr (2, [.ref vr, .int lk, .int cd])), (vr, jaL g 4 vv)]) ?_ rfl rfl (by rw [jOth_v hv hv4 (by assumption)]) rfl
    refine j_lstore (L' := [(0, .ref r), (1, .int lo), (2, .int wi), (3, .long nu), (5, .long (jOth vv wi))]) C dX3_holds_21 (Nat.le_of_ble_eq_true rfl) rfl rfl ?_
    refine j_iload_n 1 C dX3_holds_23 rfl rfl ?_
    by_cases hs_10 : lo = 0
    · skip
      refine j_tabIn (tgt := 56) C dX3_holds_24 (by rw [hs_10]; decide) (by rw [hs_10]; decide) (by rw [hs_10]; rfl) (by decide) ?_
      refine j_iconst (v := 1) C dX3_holds_56 rfl ?_
      exact j_zretR (v := 1) C hr dX3_holds_57 rfl (by rw [jHold, if_pos hs_10]; first | rfl | (rw [decide_eq_true (by assumption)]; rfl) | (rw [decide_eq_false (by assumption)]; rfl))
    · skip
      by_cases hs_11 : lo = 1
      · skip
        refine j_tabIn (tgt := 58) C dX3_holds_24 (by rw [hs_11]; decide) (by rw [hs_11]; decide) (by rw [hs_11]; rfl) (by decide) ?_
        refine j_lload_n 3 C dX3_holds_58 rfl rfl ?_
        refine j_lload 4 C dX3_holds_59 rfl ?_
        refine j_lcmp_ne (tgt := 69) C dX3_holds_61 dX3_holds_62 (by decide) (fun c_12 => ?_) (fun c_12 => ?_)
        · skip
          refine j_iconst (v := 0) C dX3_holds_69 rfl ?_
          exact j_zretR (v := 0) C hr dX3_holds_70 rfl (by rw [jHold, if_neg hs_10, if_pos hs_11]; first | rfl | (rw [decide_eq_true (by assumption)]; rfl) | (rw [decide_eq_false (by assumption)]; rfl))
        · skip
          refine j_iconst (v := 1) C dX3_holds_65 rfl ?_
          refine j_goto (tgt := 70) C dX3_holds_66 (by decide) ?_
          exact j_zretR (v := 1) C hr dX3_holds_70 rfl (by rw [jHold, if_neg hs_10, if_pos hs_11]; first | rfl | (rw [decide_eq_true (by assumption)]; rfl) | (rw [decide_eq_false (by assumption)]; rfl))
      · skip
        by_cases hs_13 : lo = 2
        · skip
          refine j_tabIn (tgt := 71) C dX3_holds_24 (by rw [hs_13]; decide) (by rw [hs_13]; decide) (by rw [hs_13]; rfl) (by decide) ?_
          refine j_lload_n 3 C dX3_holds_71 rfl rfl ?_
          refine j_lload 4 C dX3_holds_72 rfl ?_
          refine j_lcmp_eq (tgt := 82) C dX3_holds_74 dX3_holds_75 (by decide) (fun c_14 => ?_) (fun c_14 => ?_)
          · skip
            refine j_iconst (v := 0) C dX3_holds_82 rfl ?_
            exact j_zretR (v := 0) C hr dX3_holds_83 rfl (by rw [jHold, if_neg hs_10, if_neg hs_11, if_pos hs_13]; first | rfl | (rw [decide_eq_true (by assumption)]; rfl) | (rw [decide_eq_false (by assumption)]; rfl))
          · skip
            refine j_iconst (v := 1) C dX3_holds_78 rfl ?_
            refine j_goto (tgt := 83) C dX3_holds_79 (by decide) ?_
            exact j_zretR (v := 1) C hr dX3_holds_83 rfl (by rw [jHold, if_neg hs_10, if_neg hs_11, if_pos hs_13]; first | rfl | (rw [decide_eq_true (by assumption)]; rfl) | (rw [decide_eq_false (by assumption)]; rfl))
        · skip
          by_cases hs_15 : lo = 3
          · skip
            refine j_tabIn (tgt := 84) C dX3_holds_24 (by rw [hs_15]; decide) (by rw [hs_15]; decide) (by rw [hs_15]; rfl) (by decide) ?_
            refine j_lload_n 3 C dX3_holds_84 rfl rfl ?_
            refine j_lload 4 C dX3_holds_85 rfl ?_
            refine j_lcmp_ge (tgt := 95) C dX3_holds_87 dX3_holds_88 (by decide) (fun c_16 => ?_) (fun c_16 => ?_)
            · skip
              refine j_iconst (v := 0) C dX3_holds_95 rfl ?_
              exact j_zretR (v := 0) C hr dX3_holds_96 rfl (by rw [jHold, if_neg hs_10, if_neg hs_11, if_neg hs_13, if_pos hs_15]; first | rfl | (rw [decide_eq_true (by assumption)]; rfl) | (rw [decide_eq_false (by assumption)]; rfl))
            · skip
              refine j_iconst (v := 1) C dX3_holds_91 rfl ?_
              refine j_goto (tgt := 96) C dX3_holds_92 (by decide) ?_
              exact j_zretR (v := 1) C hr dX3_holds_96 rfl (by rw [jHold, if_neg hs_10, if_neg hs_11, if_neg hs_13, if_pos hs_15]; first | rfl | (rw [decide_eq_true (by assumption)]; rfl) | (rw [decide_eq_false (by assumption)]; rfl))
          · skip
            refine j_tabOut (tgt := 97) C dX3_holds_24 (by have h0_ := jne (k := 0) hs_10 (by decide); have h1_ := jne (k := 1) hs_11 (by decide); have h2_ := jne (k := 2) hs_13 (by decide); have h3_ := jne (k := 3) hs_15 (by decide); omega) (by decide) ?_
            refine j_lload_n 3 C dX3_holds_97 rfl rfl ?_
            refine j_lload 4 C dX3_holds_98 rfl ?_
            refine j_lcmp_le (tgt := 108) C dX3_holds_100 dX3_holds_101 (by decide) (fun c_17 => ?_) (fun c_17 => ?_)
            · skip
              refine j_iconst (v := 0) C dX3_holds_108 rfl ?_
              exact j_zretR (v := 0) C hr dX3_holds_109 rfl (by rw [jHold, if_neg hs_10, if_neg hs_11, if_neg hs_13, if_neg hs_15]; first | rfl | (rw [decide_eq_true (by assumption)]; rfl) | (rw [decide_eq_false (by assumption)]; rfl))
            · skip
              refine j_iconst (v := 1) C dX3_holds_104 rfl ?_
              refine j_goto (tgt := 109) C dX3_holds_105 (by decide) ?_
              exact j_zretR (v := 1) C hr dX3_holds_109 rfl (by rw [jHold, if_neg hs_10, if_neg hs_11, if_neg hs_13, if_neg hs_15]; first | rfl | (rw [decide_eq_true (by assumption)]; rfl) | (rw [decide_eq_false (by assumption)]; rfl))
set_option maxHeartbeats 4000000 in
set_option maxRecDepth 100000 in
theorem c_X3_doDeed (l : Launch) (g : jG) (r vr : Nat) (lk cd : Int32) (vv : Nat → Int64) (de : Int32) (v pl : Nat) (nu : Int64) (hv : v < 4) : jWv l yX3_doDeed wsX3_doDeed ({ frames := 1, cells := 0, slots := 0, locals := 23 }) g [.ref r, .int de, .int (nI v), .int (nI pl), .long nu] [(r, .inr (2, [.ref vr, .int lk, .int cd])), (vr, jaL g 4 vv)] [(r, .inr (2, [.ref vr, .int lk, .int cd])), (vr, jaL g 4 (jDo de v (nI pl) nu vv))] := by
  refine j_enterW (Qc := fun sz_ => va_Qv (fun (_ : Unit) => True) (fun _ t => va_P g.1 vwCl [(r, .inr (2, [.ref vr, .int lk, .int cd])), (vr, jaL g 4 (jDo de v (nI pl) nu vv))] t.heap) (va_A [(r, .inr (2, [.ref vr, .int lk, .int cd])), (vr, jaL g 4 vv)] sz_)) (cc := cX3_doDeed) (maxL := 6) (ret := none) (own := RX3) (L := [(0, .ref r), (1, .int de), (2, .int (nI v)), (3, .int (nI pl)), (4, .long nu)]) (by decide) rfl rfl (Nat.le_of_ble_eq_true rfl) rfl (fun p e s m args below meth c C hr => ?_)
  refine j_iload_n 1 C dX3_doDeed_0 rfl rfl ?_
  by_cases hs_1 : de = 0
  · skip
    refine j_tabIn (tgt := 28) C dX3_doDeed_1 (by rw [hs_1]; decide) (by rw [hs_1]; decide) (by rw [hs_1]; rfl) (by decide) ?_
    refine j_aload_n 0 C dX3_doDeed_28 rfl rfl ?_
    refine j_iload_n 2 C dX3_doDeed_29 rfl rfl ?_
    refine j_lload 4 C dX3_doDeed_30 rfl ?_
    refine j_callWv [0, 1] (fun _ => [(r, .inr (2, [.ref vr, .int lk, .int cd])), (vr, jaL g 4 (vp_updL vv v nu))]) C (j_runV (ci := 0) (As := [.int (nI v), .long nu]) (rest := []) [0, 1] C (c_X3_setVariable l g r vr lk cd vv v nu (by omega)) gX3_doDeed_X3_setVariable rfl rfl rfl hd_X3_setVariable ⟨Nat.le_of_ble_eq_true rfl, Nat.le_of_ble_eq_true rfl⟩ rfl rfl rfl rfl dX3_doDeed_32 rfl (Nat.le_of_ble_eq_true rfl) ⟨Nat.le_of_ble_eq_true rfl, Nat.le_of_ble_eq_true rfl⟩) rfl (fun _ => rfl) (fun _ => rfl) (fun _ _ => ?_)
    refine j_goto (tgt := 76) C dX3_doDeed_35 (by decide) ?_
    exact j_vretW C hr dX3_doDeed_76 () trivial (by rw [jDo, if_pos hs_1])
  · skip
    by_cases hs_2 : de = 1
    · skip
      refine j_tabIn (tgt := 38) C dX3_doDeed_1 (by rw [hs_2]; decide) (by rw [hs_2]; decide) (by rw [hs_2]; rfl) (by decide) ?_
      refine j_aload_n 0 C dX3_doDeed_38 rfl rfl ?_
      refine j_iload_n 2 C dX3_doDeed_39 rfl rfl ?_
      refine j_iload_n 3 C dX3_doDeed_40 rfl rfl ?_
      refine j_i2l (v := (nI pl).toInt64) C dX3_doDeed_41 rfl ?_
      refine j_callWv [0, 1] (fun _ => [(r, .inr (2, [.ref vr, .int lk, .int cd])), (vr, jaL g 4 (vp_updL vv v ((nI pl).toInt64)))]) C (j_runV (ci := 0) (As := [.int (nI v), .long ((nI pl).toInt64)]) (rest := []) [0, 1] C (c_X3_setVariable l g r vr lk cd vv v ((nI pl).toInt64) (by omega)) gX3_doDeed_X3_setVariable rfl rfl rfl hd_X3_setVariable ⟨Nat.le_of_ble_eq_true rfl, Nat.le_of_ble_eq_true rfl⟩ rfl rfl rfl rfl dX3_doDeed_42 rfl (Nat.le_of_ble_eq_true rfl) ⟨Nat.le_of_ble_eq_true rfl, Nat.le_of_ble_eq_true rfl⟩) rfl (fun _ => rfl) (fun _ => rfl) (fun _ _ => ?_)
      refine j_goto (tgt := 76) C dX3_doDeed_45 (by decide) ?_
      exact j_vretW C hr dX3_doDeed_76 () trivial (by rw [jDo, if_neg hs_1, if_pos hs_2])
    · skip
      by_cases hs_3 : de = 2
      · skip
        refine j_tabIn (tgt := 48) C dX3_doDeed_1 (by rw [hs_3]; decide) (by rw [hs_3]; decide) (by rw [hs_3]; rfl) (by decide) ?_
        refine j_aload_n 0 C dX3_doDeed_48 rfl rfl ?_
        refine j_iload_n 2 C dX3_doDeed_49 rfl rfl ?_
        refine j_aload_n 0 C dX3_doDeed_50 rfl rfl ?_
        refine j_iload_n 2 C dX3_doDeed_51 rfl rfl ?_
        refine j_callRl (v := vv v) (j_runV (ci := 0) (As := [.int (nI v)]) (rest := [.int (nI v), .ref r]) [0, 1] C (c_X3_variable l g r vr lk cd vv v (by omega)) gX3_doDeed_X3_variable rfl rfl rfl hd_X3_variable ⟨Nat.le_of_ble_eq_true rfl, Nat.le_of_ble_eq_true rfl⟩ rfl rfl rfl rfl dX3_doDeed_52 rfl (Nat.le_of_ble_eq_true rfl) ⟨Nat.le_of_ble_eq_true rfl, Nat.le_of_ble_eq_true rfl⟩) ?_
        refine j_lconst (v := 1) C dX3_doDeed_55 rfl ?_
        refine j_ladd (v := (vv v) + 1) C dX3_doDeed_56 rfl ?_
        refine j_callWv [0, 1] (fun _ => [(r, .inr (2, [.ref vr, .int lk, .int cd])), (vr, jaL g 4 (vp_updL vv v ((vv v) + 1)))]) C (j_runV (ci := 0) (As := [.int (nI v), .long ((vv v) + 1)]) (rest := []) [0, 1] C (c_X3_setVariable l g r vr lk cd vv v ((vv v) + 1) (by omega)) gX3_doDeed_X3_setVariable rfl rfl rfl hd_X3_setVariable ⟨Nat.le_of_ble_eq_true rfl, Nat.le_of_ble_eq_true rfl⟩ rfl rfl rfl rfl dX3_doDeed_57 rfl (Nat.le_of_ble_eq_true rfl) ⟨Nat.le_of_ble_eq_true rfl, Nat.le_of_ble_eq_true rfl⟩) rfl (fun _ => rfl) (fun _ => rfl) (fun _ _ => ?_)
        refine j_goto (tgt := 76) C dX3_doDeed_60 (by decide) ?_
        exact j_vretW C hr dX3_doDeed_76 () trivial (by rw [jDo, if_neg hs_1, if_neg hs_2, if_pos hs_3])
      · skip
        refine j_tabOut (tgt := 63) C dX3_doDeed_1 (by have h0_ := jne (k := 0) hs_1 (by decide); have h1_ := jne (k := 1) hs_2 (by decide); have h2_ := jne (k := 2) hs_3 (by decide); omega) (by decide) ?_
        refine j_aload_n 0 C dX3_doDeed_63 rfl rfl ?_
        refine j_iload_n 2 C dX3_doDeed_64 rfl rfl ?_
        refine j_aload_n 0 C dX3_doDeed_65 rfl rfl ?_
        refine j_iload_n 2 C dX3_doDeed_66 rfl rfl ?_
        refine j_callRl (v := vv v) (j_runV (ci := 0) (As := [.int (nI v)]) (rest := [.int (nI v), .ref r]) [0, 1] C (c_X3_variable l g r vr lk cd vv v (by omega)) gX3_doDeed_X3_variable rfl rfl rfl hd_X3_variable ⟨Nat.le_of_ble_eq_true rfl, Nat.le_of_ble_eq_true rfl⟩ rfl rfl rfl rfl dX3_doDeed_67 rfl (Nat.le_of_ble_eq_true rfl) ⟨Nat.le_of_ble_eq_true rfl, Nat.le_of_ble_eq_true rfl⟩) ?_
        refine j_lload 4 C dX3_doDeed_70 rfl ?_
        refine j_ladd (v := (vv v) + nu) C dX3_doDeed_72 rfl ?_
        refine j_callWv [0, 1] (fun _ => [(r, .inr (2, [.ref vr, .int lk, .int cd])), (vr, jaL g 4 (vp_updL vv v ((vv v) + nu)))]) C (j_runV (ci := 0) (As := [.int (nI v), .long ((vv v) + nu)]) (rest := []) [0, 1] C (c_X3_setVariable l g r vr lk cd vv v ((vv v) + nu) (by omega)) gX3_doDeed_X3_setVariable rfl rfl rfl hd_X3_setVariable ⟨Nat.le_of_ble_eq_true rfl, Nat.le_of_ble_eq_true rfl⟩ rfl rfl rfl rfl dX3_doDeed_73 rfl (Nat.le_of_ble_eq_true rfl) ⟨Nat.le_of_ble_eq_true rfl, Nat.le_of_ble_eq_true rfl⟩) rfl (fun _ => rfl) (fun _ => rfl) (fun _ _ => ?_)
        exact j_vretW C hr dX3_doDeed_76 () trivial (by rw [jDo, if_neg hs_1, if_neg hs_2, if_neg hs_3])
set_option maxHeartbeats 4000000 in
set_option maxRecDepth 100000 in
theorem c_X3_doSteps (l : Launch) (g : jG) (r vr : Nat) (lk cd : Int32) (vv : Nat → Int64) (q ca : Nat) (n : Int32) (f : Nat → Int32) (k a pl : Nat) (nu : Int64) (hk : k < 8) (ha : f (k * 28 + 3) = nI a) (ha6 : a ≤ 6) (hst : ∀ j, j < a → f (k * 28 + 4 + j * 4 + 2) = 4 ∨ f (k * 28 + 4 + j * 4 + 2) = 5 ∨ ∃ v, v < 4 ∧ f (k * 28 + 4 + j * 4 + 3) = nI v) : jWi l yX3_doSteps wsX3_doSteps ({ frames := 3, cells := 0, slots := 0, locals := 64 }) g [.ref r, .ref q, .int (nI k), .int (nI pl), .long nu] [(r, .inr (2, [.ref vr, .int lk, .int cd])), (vr, jaL g 4 vv), (q, .inr (1, [.ref ca, .int n])), (ca, jaI g 224 f)] [(r, .inr (2, [.ref vr, .int ((jSt f k pl nu a 0 vv lk cd).2.1), .int ((jSt f k pl nu a 0 vv lk cd).2.2.1)])), (vr, jaL g 4 ((jSt f k pl nu a 0 vv lk cd).1)), (q, .inr (1, [.ref ca, .int n])), (ca, jaI g 224 f)] (jb ((jSt f k pl nu a 0 vv lk cd).2.2.2)) := by
  refine j_enterW (Qc := fun sz_ => va_Qi (fun r (_ : Unit) => r = jb ((jSt f k pl nu a 0 vv lk cd).2.2.2)) (fun _ t => va_P g.1 vwCl [(r, .inr (2, [.ref vr, .int ((jSt f k pl nu a 0 vv lk cd).2.1), .int ((jSt f k pl nu a 0 vv lk cd).2.2.1)])), (vr, jaL g 4 ((jSt f k pl nu a 0 vv lk cd).1)), (q, .inr (1, [.ref ca, .int n])), (ca, jaI g 224 f)] t.heap) (va_A [(r, .inr (2, [.ref vr, .int lk, .int cd])), (vr, jaL g 4 vv), (q, .inr (1, [.ref ca, .int n])), (ca, jaI g 224 f)] sz_)) (cc := cX3_doSteps) (maxL := 10) (ret := (some .boolean)) (own := RX3) (L := [(0, .ref r), (1, .ref q), (2, .int (nI k)), (3, .int (nI pl)), (4, .long nu)]) (by decide) rfl rfl (Nat.le_of_ble_eq_true rfl) rfl (fun p e s m args below meth c C hr => ?_)
  refine j_aload_n 1 C dX3_doSteps_0 rfl rfl ?_
  refine j_iload_n 2 C dX3_doSteps_1 rfl rfl ?_
  refine j_callRi (v := f (k * 28 + 3)) (j_runV (ci := 2) (As := [.int (nI k)]) (rest := []) [2, 3] C (c_X1_countSteps l g q ca n f k (by omega)) gX3_doSteps_X1_countSteps rfl rfl rfl hd_X1_countSteps ⟨Nat.le_of_ble_eq_true rfl, Nat.le_of_ble_eq_true rfl⟩ rfl rfl rfl rfl dX3_doSteps_2 rfl (Nat.le_of_ble_eq_true rfl) ⟨Nat.le_of_ble_eq_true rfl, Nat.le_of_ble_eq_true rfl⟩) ?_
  refine j_eq (pc' := 5) (L' := [(0, .ref r), (1, .ref q), (2, .int (nI k)), (3, .int (nI pl)), (4, .long nu)]) (st' := [.int (nI a)]) (ws' := [(r, .inr (2, [.ref vr, .int lk, .int cd])), (vr, jaL g 4 vv), (q, .inr (1, [.ref ca, .int n])), (ca, jaI g 224 f)]) ?_ rfl rfl (by rw [ha]) rfl
  refine j_istore (L' := [(0, .ref r), (1, .ref q), (2, .int (nI k)), (3, .int (nI pl)), (4, .long nu), (6, .int (nI a))]) C dX3_doSteps_5 (Nat.le_of_ble_eq_true rfl) rfl rfl ?_
  refine j_iconst (v := 0) C dX3_doSteps_7 rfl ?_
  refine j_istore (L' := [(0, .ref r), (1, .ref q), (2, .int (nI k)), (3, .int (nI pl)), (4, .long nu), (6, .int (nI a)), (7, .int 0)]) C dX3_doSteps_8 (Nat.le_of_ble_eq_true rfl) rfl rfl ?_
  refine j_loop (σ := Nat × (Nat → Int64) × Int32) (fun (x9_ : Nat × (Nat → Int64) × Int32) => match x9_ with | (j, v1, lk1) => [(0, .ref r), (1, .ref q), (2, .int (nI k)), (3, .int (nI pl)), (4, .long nu), (6, .int (nI a)), (7, .int (nI j))]) (fun (x9_ : Nat × (Nat → Int64) × Int32) => match x9_ with | (j, v1, lk1) => [(r, .inr (2, [.ref vr, .int lk1, .int cd])), (vr, jaL g 4 v1), (q, .inr (1, [.ref ca, .int n])), (ca, jaI g 224 f)]) (fun (x9_ : Nat × (Nat → Int64) × Int32) => match x9_ with | (j, v1, lk1) => (j ≤ a) ∧ (jSt f k pl nu (a - j) j v1 lk1 cd = jSt f k pl nu a 0 vv lk cd)) (fun (x9_ : Nat × (Nat → Int64) × Int32) => match x9_ with | (j, v1, lk1) => a - j) (fun x_ hi_2 ih_1 => ?_) (0, vv, lk) ⟨(by omega), rfl⟩ rfl rfl
  obtain ⟨j, v1, lk1⟩ := x_
  obtain ⟨hI0, hI1⟩ := (show (j ≤ a) ∧ (jSt f k pl nu (a - j) j v1 lk1 cd = jSt f k pl nu a 0 vv lk cd) from hi_2)
  refine j_eq (pc' := 10) (L' := [(0, .ref r), (1, .ref q), (2, .int (nI k)), (3, .int (nI pl)), (4, .long nu), (6, .int (nI a)), (7, .int (nI j))]) (st' := []) (ws' := [(r, .inr (2, [.ref vr, .int lk1, .int cd])), (vr, jaL g 4 v1), (q, .inr (1, [.ref ca, .int n])), (ca, jaI g 224 f)]) ?_ rfl rfl rfl rfl
  refine j_iload 6 C dX3_doSteps_10 rfl ?_
  refine j_iload 5 C dX3_doSteps_12 rfl ?_
  refine j_icmp_ge (tgt := 111) C dX3_doSteps_14 (by decide) (fun c_3 => ?_) (fun c_3 => ?_)
  · skip
    have c_3 : a ≤ j := (nI_leI (a := a) (b := j) (by omega) (by omega)).mp c_3
    refine j_iconst (v := 1) C dX3_doSteps_111 rfl ?_
    exact j_zretW (v := 1) C hr dX3_doSteps_112 rfl () (by rw [← hI1, show a - j = 0 by omega]; rfl) (by rw [← hI1, show a - j = 0 by omega]; rfl)
  · skip
    have c_3 : ¬ a ≤ j := fun z => c_3 ((nI_leI (a := a) (b := j) (by omega) (by omega)).mpr z)
    refine j_aload_n 0 C dX3_doSteps_17 rfl rfl ?_
    refine j_dup C dX3_doSteps_18 rfl ?_
    refine j_get (Cn := RX3) (T := TX3) (N := 3) 0 1 C dX3_doSteps_19 hin_X3_doSteps_X3 rfl rfl (by decide) (List.mem_of_getElem? (i := 1) rfl) rfl ?_
    refine j_iconst (v := 1) C dX3_doSteps_22 rfl ?_
    refine j_iadd (x := lk1) (y := 1) (v := lk1 + 1) C dX3_doSteps_23 rfl ?_
    refine j_put (Cn := RX3) (T := TX3) (N := 3) (ws' := [(r, .inr (2, [.ref vr, .int (lk1 + 1), .int cd])), (vr, jaL g 4 v1), (q, .inr (1, [.ref ca, .int n])), (ca, jaI g 224 f)]) tyX3 0 1 C dX3_doSteps_24 hin_X3_doSteps_X3 tyX3_ok nmX3 rfl rfl (by decide) (List.mem_of_getElem? (i := 1) rfl) rfl (tyX3_ok 1 (by decide)) rfl rfl (Nat.le_of_ble_eq_true rfl) rfl ?_
    refine j_aload_n 0 C dX3_doSteps_27 rfl rfl ?_
    refine j_aload_n 1 C dX3_doSteps_28 rfl rfl ?_
    refine j_iload_n 2 C dX3_doSteps_29 rfl rfl ?_
    refine j_iload 6 C dX3_doSteps_30 rfl ?_
    refine j_iconst (v := 0) C dX3_doSteps_32 rfl ?_
    refine j_callRi (v := f (k * 28 + 4 + j * 4 + 0)) (j_runV (ci := 2) (As := [.int (nI k), .int (nI j), .int 0]) (rest := [.ref r]) [2, 3] C (c_X1_stepFact l g q ca n f k j 0 (by omega)) gX3_doSteps_X1_stepFact rfl rfl rfl hd_X1_stepFact ⟨Nat.le_of_ble_eq_true rfl, Nat.le_of_ble_eq_true rfl⟩ rfl rfl rfl rfl dX3_doSteps_33 rfl (Nat.le_of_ble_eq_true rfl) ⟨Nat.le_of_ble_eq_true rfl, Nat.le_of_ble_eq_true rfl⟩) ?_
    refine j_aload_n 1 C dX3_doSteps_36 rfl rfl ?_
    refine j_iload_n 2 C dX3_doSteps_37 rfl rfl ?_
    refine j_iload 6 C dX3_doSteps_38 rfl ?_
    refine j_iconst (v := 1) C dX3_doSteps_40 rfl ?_
    refine j_callRi (v := f (k * 28 + 4 + j * 4 + 1)) (j_runV (ci := 2) (As := [.int (nI k), .int (nI j), .int 1]) (rest := [.int (f (k * 28 + 4 + j * 4 + 0)), .ref r]) [2, 3] C (c_X1_stepFact l g q ca n f k j 1 (by omega)) gX3_doSteps_X1_stepFact rfl rfl rfl hd_X1_stepFact ⟨Nat.le_of_ble_eq_true rfl, Nat.le_of_ble_eq_true rfl⟩ rfl rfl rfl rfl dX3_doSteps_41 rfl (Nat.le_of_ble_eq_true rfl) ⟨Nat.le_of_ble_eq_true rfl, Nat.le_of_ble_eq_true rfl⟩) ?_
    refine j_lload 4 C dX3_doSteps_44 rfl ?_
    refine j_callRi (v := jb (jHold (f (k * 28 + 4 + j * 4 + 0)) (jOth v1 (f (k * 28 + 4 + j * 4 + 1))) nu)) (j_runV (ci := 0) (As := [.int (f (k * 28 + 4 + j * 4 + 0)), .int (f (k * 28 + 4 + j * 4 + 1)), .long nu]) (rest := []) [0, 1] C (c_X3_holds l g r vr (lk1 + 1) cd v1 (f (k * 28 + 4 + j * 4 + 0)) (f (k * 28 + 4 + j * 4 + 1)) nu) gX3_doSteps_X3_holds rfl rfl rfl hd_X3_holds ⟨Nat.le_of_ble_eq_true rfl, Nat.le_of_ble_eq_true rfl⟩ rfl rfl rfl rfl dX3_doSteps_46 rfl (Nat.le_of_ble_eq_true rfl) ⟨Nat.le_of_ble_eq_true rfl, Nat.le_of_ble_eq_true rfl⟩) ?_
    refine j_if_eq (tgt := 105) C dX3_doSteps_49 (by decide) (fun c_4 => ?_) (fun c_4 => ?_)
    · skip
      have c_4 : (jHold (f (k * 28 + 4 + j * 4 + 0)) (jOth v1 (f (k * 28 + 4 + j * 4 + 1))) nu) = false := jb_0 c_4
      refine j_iinc (v := nI (j + 1)) (L' := [(0, .ref r), (1, .ref q), (2, .int (nI k)), (3, .int (nI pl)), (4, .long nu), (6, .int (nI a)), (7, .int (nI (j + 1)))]) 6 C dX3_doSteps_105 rfl (nI_add j 1) (Nat.le_of_ble_eq_true rfl) rfl rfl ?_
      refine j_goto (tgt := 10) C dX3_doSteps_108 (by decide) ?_
      exact ih_1 (j + 1, v1, lk1 + 1) ⟨(by omega), (by rw [← hI1, show a - j = (a - (j + 1)) + 1 by omega, jSt_s, if_neg (by simp_all)])⟩ (show a - (j + 1) < a - j from by omega)
    · skip
      have c_4 : (jHold (f (k * 28 + 4 + j * 4 + 0)) (jOth v1 (f (k * 28 + 4 + j * 4 + 1))) nu) = true := jb_1 c_4
      refine j_aload_n 1 C dX3_doSteps_52 rfl rfl ?_
      refine j_iload_n 2 C dX3_doSteps_53 rfl rfl ?_
      refine j_iload 6 C dX3_doSteps_54 rfl ?_
      refine j_iconst (v := 2) C dX3_doSteps_56 rfl ?_
      refine j_callRi (v := f (k * 28 + 4 + j * 4 + 2)) (j_runV (ci := 2) (As := [.int (nI k), .int (nI j), .int 2]) (rest := []) [2, 3] C (c_X1_stepFact l g q ca n f k j 2 (by omega)) gX3_doSteps_X1_stepFact rfl rfl rfl hd_X1_stepFact ⟨Nat.le_of_ble_eq_true rfl, Nat.le_of_ble_eq_true rfl⟩ rfl rfl rfl rfl dX3_doSteps_57 rfl (Nat.le_of_ble_eq_true rfl) ⟨Nat.le_of_ble_eq_true rfl, Nat.le_of_ble_eq_true rfl⟩) ?_
      refine j_istore (L' := [(0, .ref r), (1, .ref q), (2, .int (nI k)), (3, .int (nI pl)), (4, .long nu), (6, .int (nI a)), (7, .int (nI j)), (8, .int (f (k * 28 + 4 + j * 4 + 2)))]) C dX3_doSteps_60 (Nat.le_of_ble_eq_true rfl) rfl rfl ?_
      refine j_aload_n 1 C dX3_doSteps_62 rfl rfl ?_
      refine j_iload_n 2 C dX3_doSteps_63 rfl rfl ?_
      refine j_iload 6 C dX3_doSteps_64 rfl ?_
      refine j_iconst (v := 3) C dX3_doSteps_66 rfl ?_
      refine j_callRi (v := f (k * 28 + 4 + j * 4 + 3)) (j_runV (ci := 2) (As := [.int (nI k), .int (nI j), .int 3]) (rest := []) [2, 3] C (c_X1_stepFact l g q ca n f k j 3 (by omega)) gX3_doSteps_X1_stepFact rfl rfl rfl hd_X1_stepFact ⟨Nat.le_of_ble_eq_true rfl, Nat.le_of_ble_eq_true rfl⟩ rfl rfl rfl rfl dX3_doSteps_67 rfl (Nat.le_of_ble_eq_true rfl) ⟨Nat.le_of_ble_eq_true rfl, Nat.le_of_ble_eq_true rfl⟩) ?_
      refine j_istore (L' := [(0, .ref r), (1, .ref q), (2, .int (nI k)), (3, .int (nI pl)), (4, .long nu), (6, .int (nI a)), (7, .int (nI j)), (8, .int (f (k * 28 + 4 + j * 4 + 2))), (9, .int (f (k * 28 + 4 + j * 4 + 3)))]) C dX3_doSteps_70 (Nat.le_of_ble_eq_true rfl) rfl rfl ?_
      refine j_iload 7 C dX3_doSteps_72 rfl ?_
      refine j_iconst (v := 4) C dX3_doSteps_74 rfl ?_
      refine j_icmp_ne (tgt := 80) C dX3_doSteps_75 (by decide) (fun c_5 => ?_) (fun c_5 => ?_)
      · skip
        refine j_iload 7 C dX3_doSteps_80 rfl ?_
        refine j_iconst (v := 5) C dX3_doSteps_82 rfl ?_
        refine j_icmp_ne (tgt := 94) C dX3_doSteps_83 (by decide) (fun c_6 => ?_) (fun c_6 => ?_)
        · skip
          obtain ⟨v, hv4, hv⟩ : ∃ v, v < 4 ∧ f (k * 28 + 4 + j * 4 + 3) = nI v := by
                                        rcases hst j (by omega) with h | h | h
                                        · exact absurd h (by assumption)
                                        · exact absurd h (by assumption)
                                        · exact h
          refine j_aload_n 0 C dX3_doSteps_94 rfl rfl ?_
          refine j_iload 7 C dX3_doSteps_95 rfl ?_
          refine j_iload 8 C dX3_doSteps_97 rfl ?_
          refine j_eq (pc' := 99) (L' := [(0, .ref r), (1, .ref q), (2, .int (nI k)), (3, .int (nI pl)), (4, .long nu), (6, .int (nI a)), (7, .int (nI j)), (8, .int (f (k * 28 + 4 + j * 4 + 2))), (9, .int (f (k * 28 + 4 + j * 4 + 3)))]) (st' := [.int (nI v), .int (f (k * 28 + 4 + j * 4 + 2)), .ref r]) (ws' := [(r, .inr (2, [.ref vr, .int (lk1 + 1), .int cd])), (vr, jaL g 4 v1), (q, .inr (1, [.ref ca, .int n])), (ca, jaI g 224 f)]) ?_ rfl rfl (by rw [hv]) rfl
          refine j_iload_n 3 C dX3_doSteps_99 rfl rfl ?_
          refine j_lload 4 C dX3_doSteps_100 rfl ?_
          refine j_callWv [0, 1] (fun _ => [(r, .inr (2, [.ref vr, .int (lk1 + 1), .int cd])), (vr, jaL g 4 (jDo (f (k * 28 + 4 + j * 4 + 2)) v (nI pl) nu v1)), (q, .inr (1, [.ref ca, .int n])), (ca, jaI g 224 f)]) C (j_runV (ci := 0) (As := [.int (f (k * 28 + 4 + j * 4 + 2)), .int (nI v), .int (nI pl), .long nu]) (rest := []) [0, 1] C (c_X3_doDeed l g r vr (lk1 + 1) cd v1 (f (k * 28 + 4 + j * 4 + 2)) v pl nu (by omega)) gX3_doSteps_X3_doDeed rfl rfl rfl hd_X3_doDeed ⟨Nat.le_of_ble_eq_true rfl, Nat.le_of_ble_eq_true rfl⟩ rfl rfl rfl rfl dX3_doSteps_102 rfl (Nat.le_of_ble_eq_true rfl) ⟨Nat.le_of_ble_eq_true rfl, Nat.le_of_ble_eq_true rfl⟩) rfl (fun _ => rfl) (fun _ => rfl) (fun _ _ => ?_)
          refine j_iinc (v := nI (j + 1)) (L' := [(0, .ref r), (1, .ref q), (2, .int (nI k)), (3, .int (nI pl)), (4, .long nu), (6, .int (nI a)), (7, .int (nI (j + 1))), (8, .int (f (k * 28 + 4 + j * 4 + 2))), (9, .int (f (k * 28 + 4 + j * 4 + 3)))]) 6 C dX3_doSteps_105 rfl (nI_add j 1) (Nat.le_of_ble_eq_true rfl) rfl rfl ?_
          refine j_goto (tgt := 10) C dX3_doSteps_108 (by decide) ?_
          refine j_pick (L' := [(0, .ref r), (1, .ref q), (2, .int (nI k)), (3, .int (nI pl)), (4, .long nu), (6, .int (nI a)), (7, .int (nI (j + 1)))]) [0, 1, 2, 3, 4, 5, 6] rfl ?_
          exact ih_1 (j + 1, jDo (f (k * 28 + 4 + j * 4 + 2)) v (nI pl) nu v1, (lk1 + 1)) ⟨(by omega), (by rw [← hI1, show a - j = (a - (j + 1)) + 1 by omega, jSt_s, if_pos (by assumption), if_neg (by assumption), if_neg (by assumption), hv, show nn (nI v) = v from nI_clamp (by omega)])⟩ (show a - (j + 1) < a - j from by omega)
        · skip
          refine j_aload_n 0 C dX3_doSteps_86 rfl rfl ?_
          refine j_iload 8 C dX3_doSteps_87 rfl ?_
          refine j_put (Cn := RX3) (T := TX3) (N := 3) (ws' := [(r, .inr (2, [.ref vr, .int (lk1 + 1), .int (f (k * 28 + 4 + j * 4 + 3))])), (vr, jaL g 4 v1), (q, .inr (1, [.ref ca, .int n])), (ca, jaI g 224 f)]) tyX3 0 2 C dX3_doSteps_89 hin_X3_doSteps_X3 tyX3_ok nmX3 rfl rfl (by decide) (List.mem_of_getElem? (i := 2) rfl) rfl (tyX3_ok 2 (by decide)) rfl rfl (Nat.le_of_ble_eq_true rfl) rfl ?_
          refine j_iconst (v := 0) C dX3_doSteps_92 rfl ?_
          exact j_zretW (v := 0) C hr dX3_doSteps_93 rfl () (by rw [← hI1, show a - j = (a - (j + 1)) + 1 by omega, jSt_s, if_pos (by assumption), if_neg (by assumption), if_pos (by assumption)]; rfl) (by rw [← hI1, show a - j = (a - (j + 1)) + 1 by omega, jSt_s, if_pos (by assumption), if_neg (by assumption), if_pos (by assumption)])
      · skip
        refine j_iconst (v := 0) C dX3_doSteps_78 rfl ?_
        exact j_zretW (v := 0) C hr dX3_doSteps_79 rfl () (by rw [← hI1, show a - j = (a - (j + 1)) + 1 by omega, jSt_s, if_pos (by assumption), if_pos (by assumption)]; rfl) (by rw [← hI1, show a - j = (a - (j + 1)) + 1 by omega, jSt_s, if_pos (by assumption), if_pos (by assumption)])
set_option maxHeartbeats 4000000 in
set_option maxRecDepth 100000 in
theorem c_X3_goThroughLoop (l : Launch) (g : jG) (r vr : Nat) (lk cd : Int32) (vv : Nat → Int64) (q ca : Nat) (n : Int32) (f : Nat → Int32) (k a u w : Nat) (rw len N : Nat) (row : Nat → Int64) (hk : k < 8) (ha : f (k * 28 + 3) = nI a) (ha6 : a ≤ 6) (hst : ∀ j, j < a → f (k * 28 + 4 + j * 4 + 2) = 4 ∨ f (k * 28 + 4 + j * 4 + 2) = 5 ∨ ∃ v, v < 4 ∧ f (k * 28 + 4 + j * 4 + 3) = nI v) (hu : f (k * 28 + 0) = nI u) (hu5 : u ≤ 5) (hw : f (k * 28 + 1) = nI w) (hw5 : w ≤ 5) (hlen : len ≤ N) (hN : N ≤ 100) : jWv l yX3_goThroughLoop wsX3_goThroughLoop ({ frames := 4, cells := 0, slots := 0, locals := 93 }) g [.ref r, .ref q, .int (nI k), .ref rw, .int (nI len)] [(r, .inr (2, [.ref vr, .int lk, .int cd])), (vr, jaL g 4 vv), (q, .inr (1, [.ref ca, .int n])), (ca, jaI g 224 f), (rw, jaL g N row)] [(r, .inr (2, [.ref vr, .int ((jLp f k row len vv lk cd).2.1), .int ((jLp f k row len vv lk cd).2.2)])), (vr, jaL g 4 ((jLp f k row len vv lk cd).1)), (q, .inr (1, [.ref ca, .int n])), (ca, jaI g 224 f), (rw, jaL g N row)] := by
  refine j_enterW (Qc := fun sz_ => va_Qv (fun (_ : Unit) => True) (fun _ t => va_P g.1 vwCl [(r, .inr (2, [.ref vr, .int ((jLp f k row len vv lk cd).2.1), .int ((jLp f k row len vv lk cd).2.2)])), (vr, jaL g 4 ((jLp f k row len vv lk cd).1)), (q, .inr (1, [.ref ca, .int n])), (ca, jaI g 224 f), (rw, jaL g N row)] t.heap) (va_A [(r, .inr (2, [.ref vr, .int lk, .int cd])), (vr, jaL g 4 vv), (q, .inr (1, [.ref ca, .int n])), (ca, jaI g 224 f), (rw, jaL g N row)] sz_)) (cc := cX3_goThroughLoop) (maxL := 12) (ret := none) (own := RX3) (L := [(0, .ref r), (1, .ref q), (2, .int (nI k)), (3, .ref rw), (4, .int (nI len))]) (by decide) rfl rfl (Nat.le_of_ble_eq_true rfl) rfl (fun p e s m args below meth c C hr => ?_)
  refine j_aload_n 1 C dX3_goThroughLoop_0 rfl rfl ?_
  refine j_iload_n 2 C dX3_goThroughLoop_1 rfl rfl ?_
  refine j_iconst (v := 0) C dX3_goThroughLoop_2 rfl ?_
  refine j_callRi (v := f (k * 28 + 0)) (j_runV (ci := 2) (As := [.int (nI k), .int 0]) (rest := []) [2, 3] C (c_X1_loopFact l g q ca n f k 0 (by omega)) gX3_goThroughLoop_X1_loopFact rfl rfl rfl hd_X1_loopFact ⟨Nat.le_of_ble_eq_true rfl, Nat.le_of_ble_eq_true rfl⟩ rfl rfl rfl rfl dX3_goThroughLoop_3 rfl (Nat.le_of_ble_eq_true rfl) ⟨Nat.le_of_ble_eq_true rfl, Nat.le_of_ble_eq_true rfl⟩) ?_
  refine j_eq (pc' := 6) (L' := [(0, .ref r), (1, .ref q), (2, .int (nI k)), (3, .ref rw), (4, .int (nI len))]) (st' := [.int (nI u)]) (ws' := [(r, .inr (2, [.ref vr, .int lk, .int cd])), (vr, jaL g 4 vv), (q, .inr (1, [.ref ca, .int n])), (ca, jaI g 224 f), (rw, jaL g N row)]) ?_ rfl rfl (by rw [hu]) rfl
  refine j_istore (L' := [(0, .ref r), (1, .ref q), (2, .int (nI k)), (3, .ref rw), (4, .int (nI len)), (5, .int (nI u))]) C dX3_goThroughLoop_6 (Nat.le_of_ble_eq_true rfl) rfl rfl ?_
  refine j_iload 4 C dX3_goThroughLoop_8 rfl ?_
  refine j_iconst (v := 1) C dX3_goThroughLoop_10 rfl ?_
  refine j_isub (x := nI len) (y := 1) (v := nI len - 1) C dX3_goThroughLoop_11 rfl ?_
  refine j_aload_n 1 C dX3_goThroughLoop_12 rfl rfl ?_
  refine j_iload_n 2 C dX3_goThroughLoop_13 rfl rfl ?_
  refine j_iconst (v := 1) C dX3_goThroughLoop_14 rfl ?_
  refine j_callRi (v := f (k * 28 + 1)) (j_runV (ci := 2) (As := [.int (nI k), .int 1]) (rest := [.int (nI len - 1)]) [2, 3] C (c_X1_loopFact l g q ca n f k 1 (by omega)) gX3_goThroughLoop_X1_loopFact rfl rfl rfl hd_X1_loopFact ⟨Nat.le_of_ble_eq_true rfl, Nat.le_of_ble_eq_true rfl⟩ rfl rfl rfl rfl dX3_goThroughLoop_15 rfl (Nat.le_of_ble_eq_true rfl) ⟨Nat.le_of_ble_eq_true rfl, Nat.le_of_ble_eq_true rfl⟩) ?_
  refine j_eq (pc' := 18) (L' := [(0, .ref r), (1, .ref q), (2, .int (nI k)), (3, .ref rw), (4, .int (nI len)), (5, .int (nI u))]) (st' := [.int (nI w), .int (nI len - 1)]) (ws' := [(r, .inr (2, [.ref vr, .int lk, .int cd])), (vr, jaL g 4 vv), (q, .inr (1, [.ref ca, .int n])), (ca, jaI g 224 f), (rw, jaL g N row)]) ?_ rfl rfl (by rw [hw]) rfl
  refine j_isub (x := nI len - 1) (y := nI w) (v := nI len - 1 - nI w) C dX3_goThroughLoop_18 rfl ?_
  refine j_istore (L' := [(0, .ref r), (1, .ref q), (2, .int (nI k)), (3, .ref rw), (4, .int (nI len)), (5, .int (nI u)), (6, .int (nI len - 1 - nI w))]) C dX3_goThroughLoop_19 (Nat.le_of_ble_eq_true rfl) rfl rfl ?_
  refine j_aload_n 1 C dX3_goThroughLoop_21 rfl rfl ?_
  refine j_iload_n 2 C dX3_goThroughLoop_22 rfl rfl ?_
  refine j_iconst (v := 2) C dX3_goThroughLoop_23 rfl ?_
  refine j_callRi (v := f (k * 28 + 2)) (j_runV (ci := 2) (As := [.int (nI k), .int 2]) (rest := []) [2, 3] C (c_X1_loopFact l g q ca n f k 2 (by omega)) gX3_goThroughLoop_X1_loopFact rfl rfl rfl hd_X1_loopFact ⟨Nat.le_of_ble_eq_true rfl, Nat.le_of_ble_eq_true rfl⟩ rfl rfl rfl rfl dX3_goThroughLoop_24 rfl (Nat.le_of_ble_eq_true rfl) ⟨Nat.le_of_ble_eq_true rfl, Nat.le_of_ble_eq_true rfl⟩) ?_
  refine j_iconst (v := 1) C dX3_goThroughLoop_27 rfl ?_
  refine j_icmp_ne (tgt := 35) C dX3_goThroughLoop_28 (by decide) (fun c_1 => ?_) (fun c_1 => ?_)
  · skip
    refine j_iconst (v := 0) C dX3_goThroughLoop_35 rfl ?_
    refine j_eq (pc' := 36) (L' := [(0, .ref r), (1, .ref q), (2, .int (nI k)), (3, .ref rw), (4, .int (nI len)), (5, .int (nI u)), (6, .int (nI len - 1 - nI w))]) (st' := [.int (jb (decide (f (k * 28 + 2) = 1)))]) (ws' := [(r, .inr (2, [.ref vr, .int lk, .int cd])), (vr, jaL g 4 vv), (q, .inr (1, [.ref ca, .int n])), (ca, jaI g 224 f), (rw, jaL g N row)]) ?_ rfl rfl (by rw [decide_eq_false (by assumption)]; rfl) rfl
    refine j_istore (L' := [(0, .ref r), (1, .ref q), (2, .int (nI k)), (3, .ref rw), (4, .int (nI len)), (5, .int (nI u)), (6, .int (nI len - 1 - nI w)), (7, .int (jb (decide (f (k * 28 + 2) = 1))))]) C dX3_goThroughLoop_36 (Nat.le_of_ble_eq_true rfl) rfl rfl ?_
    refine j_iload 5 C dX3_goThroughLoop_38 rfl ?_
    refine j_istore (L' := [(0, .ref r), (1, .ref q), (2, .int (nI k)), (3, .ref rw), (4, .int (nI len)), (5, .int (nI u)), (6, .int (nI len - 1 - nI w)), (7, .int (jb (decide (f (k * 28 + 2) = 1)))), (8, .int (nI u))]) C dX3_goThroughLoop_40 (Nat.le_of_ble_eq_true rfl) rfl rfl ?_
    refine j_loop (σ := Nat × (Nat → Int64) × Int32 × Int32) (fun (x9_ : Nat × (Nat → Int64) × Int32 × Int32) => match x9_ with | (i, v1, lk1, cd1) => [(0, .ref r), (1, .ref q), (2, .int (nI k)), (3, .ref rw), (4, .int (nI len)), (5, .int (nI u)), (6, .int (nI len - 1 - nI w)), (7, .int (jb (decide (f (k * 28 + 2) = 1)))), (8, .int (nI i))]) (fun (x9_ : Nat × (Nat → Int64) × Int32 × Int32) => match x9_ with | (i, v1, lk1, cd1) => [(r, .inr (2, [.ref vr, .int lk1, .int cd1])), (vr, jaL g 4 v1), (q, .inr (1, [.ref ca, .int n])), (ca, jaI g 224 f), (rw, jaL g N row)]) (fun (x9_ : Nat × (Nat → Int64) × Int32 × Int32) => match x9_ with | (i, v1, lk1, cd1) => (u ≤ i) ∧ (i ≤ u + len) ∧ (jPl f k a row (decide (f (k * 28 + 2) = 1)) u w len (len - (i + w)) i v1 lk1 cd1 = jLp f k row len vv lk cd)) (fun (x9_ : Nat × (Nat → Int64) × Int32 × Int32) => match x9_ with | (i, v1, lk1, cd1) => u + len - i) (fun x_ hi_3 ih_2 => ?_) (u, vv, lk, cd) ⟨(by omega), (by omega), (by rw [jLp, ha, hu, hw, show nn (nI a) = a from nI_clamp (by omega), show nn (nI u) = u from nI_clamp (by omega), show nn (nI w) = w from nI_clamp (by omega)])⟩ rfl rfl
    obtain ⟨i, v1, lk1, cd1⟩ := x_
    obtain ⟨hI0, hI1, hI2⟩ := (show (u ≤ i) ∧ (i ≤ u + len) ∧ (jPl f k a row (decide (f (k * 28 + 2) = 1)) u w len (len - (i + w)) i v1 lk1 cd1 = jLp f k row len vv lk cd) from hi_3)
    refine j_eq (pc' := 42) (L' := [(0, .ref r), (1, .ref q), (2, .int (nI k)), (3, .ref rw), (4, .int (nI len)), (5, .int (nI u)), (6, .int (nI len - 1 - nI w)), (7, .int (jb (decide (f (k * 28 + 2) = 1)))), (8, .int (nI i))]) (st' := []) (ws' := [(r, .inr (2, [.ref vr, .int lk1, .int cd1])), (vr, jaL g 4 v1), (q, .inr (1, [.ref ca, .int n])), (ca, jaI g 224 f), (rw, jaL g N row)]) ?_ rfl rfl rfl rfl
    refine j_iload 8 C dX3_goThroughLoop_42 rfl ?_
    refine j_iload 6 C dX3_goThroughLoop_44 rfl ?_
    refine j_icmp_gt (tgt := 111) C dX3_goThroughLoop_46 (by decide) (fun c_4 => ?_) (fun c_4 => ?_)
    · skip
      have c_4 : len ≤ i + w := (jlast (by omega) (by omega) (by omega)).mp c_4
      exact j_vretW C hr dX3_goThroughLoop_111 () trivial (by rw [← hI2, show len - (i + w) = 0 by omega]; rfl)
    · skip
      have c_4 : ¬ len ≤ i + w := fun z => c_4 ((jlast (by omega) (by omega) (by omega)).mpr z)
      refine j_iload 7 C dX3_goThroughLoop_49 rfl ?_
      refine j_if_eq (tgt := 59) C dX3_goThroughLoop_51 (by decide) (fun c_5 => ?_) (fun c_5 => ?_)
      · skip
        have c_5 : (decide (f (k * 28 + 2) = 1)) = false := jb_0 c_5
        refine j_iload 6 C dX3_goThroughLoop_59 rfl ?_
        refine j_iload 8 C dX3_goThroughLoop_61 rfl ?_
        refine j_iload 5 C dX3_goThroughLoop_63 rfl ?_
        refine j_isub (x := nI i) (y := nI u) (v := nI (i - u)) C dX3_goThroughLoop_65 (pk_sub (a := i) (b := u) (by omega)) ?_
        refine j_isub (x := nI len - 1 - nI w) (y := nI (i - u)) (v := nI (len - 1 - w - (i - u))) C dX3_goThroughLoop_66 (jplace (by omega) (by omega)) ?_
        obtain ⟨pl, hpl⟩ : ∃ pl : Nat, pl = jPos (decide (f (k * 28 + 2) = 1)) u w len i := ⟨_, rfl⟩
        have hpos : pl < len := by rw [hpl]; unfold jPos; split <;> omega
        refine j_eq (pc' := 67) (L' := [(0, .ref r), (1, .ref q), (2, .int (nI k)), (3, .ref rw), (4, .int (nI len)), (5, .int (nI u)), (6, .int (nI len - 1 - nI w)), (7, .int (jb (decide (f (k * 28 + 2) = 1)))), (8, .int (nI i))]) (st' := [.int (nI pl)]) (ws' := [(r, .inr (2, [.ref vr, .int lk1, .int cd1])), (vr, jaL g 4 v1), (q, .inr (1, [.ref ca, .int n])), (ca, jaI g 224 f), (rw, jaL g N row)]) ?_ rfl rfl (by rw [hpl, jPos, if_neg (by simp_all)]) rfl
        refine j_istore (L' := [(0, .ref r), (1, .ref q), (2, .int (nI k)), (3, .ref rw), (4, .int (nI len)), (5, .int (nI u)), (6, .int (nI len - 1 - nI w)), (7, .int (jb (decide (f (k * 28 + 2) = 1)))), (8, .int (nI i)), (9, .int (nI pl))]) C dX3_goThroughLoop_67 (Nat.le_of_ble_eq_true rfl) rfl rfl ?_
        refine j_iload 9 C dX3_goThroughLoop_69 rfl ?_
        refine j_if_lt (tgt := 88) C dX3_goThroughLoop_71 (by decide) (fun c_6 => ?_) (fun c_6 => ?_)
        · skip
          have c_6 : pl < 0 := (nI_ltI (a := pl) (b := 0) (by omega) (by omega)).mp c_6
          exact absurd c_6 (by omega)
        · skip
          have c_6 : ¬ pl < 0 := fun z => c_6 ((nI_ltI (a := pl) (b := 0) (by omega) (by omega)).mpr z)
          refine j_iload 9 C dX3_goThroughLoop_74 rfl ?_
          refine j_aload_n 3 C dX3_goThroughLoop_76 rfl rfl ?_
          refine j_alenL (v := nI N) 4 C dX3_goThroughLoop_77 rfl rfl ?_
          refine j_icmp_ge (tgt := 88) C dX3_goThroughLoop_78 (by decide) (fun c_7 => ?_) (fun c_7 => ?_)
          · skip
            have c_7 : N ≤ pl := (nI_leI (a := N) (b := pl) (by omega) (by omega)).mp c_7
            exact absurd c_7 (by omega)
          · skip
            have c_7 : ¬ N ≤ pl := fun z => c_7 ((nI_leI (a := N) (b := pl) (by omega) (by omega)).mpr z)
            refine j_aload_n 3 C dX3_goThroughLoop_81 rfl rfl ?_
            refine j_iload 9 C dX3_goThroughLoop_82 rfl ?_
            refine j_laldN (x := pl) 4 C dX3_goThroughLoop_84 rfl rfl (by omega) (by omega) ?_
            refine j_goto (tgt := 89) C dX3_goThroughLoop_85 (by decide) ?_
            refine j_lstore (L' := [(0, .ref r), (1, .ref q), (2, .int (nI k)), (3, .ref rw), (4, .int (nI len)), (5, .int (nI u)), (6, .int (nI len - 1 - nI w)), (7, .int (jb (decide (f (k * 28 + 2) = 1)))), (8, .int (nI i)), (9, .int (nI pl)), (10, .long (row pl))]) C dX3_goThroughLoop_89 (Nat.le_of_ble_eq_true rfl) rfl rfl ?_
            refine j_aload_n 0 C dX3_goThroughLoop_91 rfl rfl ?_
            refine j_aload_n 1 C dX3_goThroughLoop_92 rfl rfl ?_
            refine j_iload_n 2 C dX3_goThroughLoop_93 rfl rfl ?_
            refine j_iload 9 C dX3_goThroughLoop_94 rfl ?_
            refine j_lload 10 C dX3_goThroughLoop_96 rfl ?_
            refine j_callWi [0, 1, 2, 3] (fun _ => [(r, .inr (2, [.ref vr, .int ((jSt f k pl (row pl) a 0 v1 lk1 cd1).2.1), .int ((jSt f k pl (row pl) a 0 v1 lk1 cd1).2.2.1)])), (vr, jaL g 4 ((jSt f k pl (row pl) a 0 v1 lk1 cd1).1)), (q, .inr (1, [.ref ca, .int n])), (ca, jaI g 224 f), (rw, jaL g N row)]) C (j_runV (ci := 0) (As := [.ref q, .int (nI k), .int (nI pl), .long (row pl)]) (rest := []) [0, 1, 2, 3] C (c_X3_doSteps l g r vr lk1 cd1 v1 q ca n f k a pl (row pl) (by omega) ha (by omega) hst) gX3_goThroughLoop_X3_doSteps rfl rfl rfl hd_X3_doSteps ⟨Nat.le_of_ble_eq_true rfl, Nat.le_of_ble_eq_true rfl⟩ rfl rfl rfl rfl dX3_goThroughLoop_98 rfl (Nat.le_of_ble_eq_true rfl) ⟨Nat.le_of_ble_eq_true rfl, Nat.le_of_ble_eq_true rfl⟩) rfl (fun _ => rfl) (fun _ => rfl) (fun z _ hz => ?_)
            subst hz
            refine j_if_ne (tgt := 105) C dX3_goThroughLoop_101 (by decide) (fun c_9 => ?_) (fun c_9 => ?_)
            · skip
              have c_9 : ((jSt f k pl (row pl) a 0 v1 lk1 cd1).2.2.2) = true := jb_1 c_9
              refine j_iinc (v := nI (i + 1)) (L' := [(0, .ref r), (1, .ref q), (2, .int (nI k)), (3, .ref rw), (4, .int (nI len)), (5, .int (nI u)), (6, .int (nI len - 1 - nI w)), (7, .int (jb (decide (f (k * 28 + 2) = 1)))), (8, .int (nI (i + 1))), (9, .int (nI pl)), (10, .long (row pl))]) 8 C dX3_goThroughLoop_105 rfl (nI_add i 1) (Nat.le_of_ble_eq_true rfl) rfl rfl ?_
              refine j_goto (tgt := 42) C dX3_goThroughLoop_108 (by decide) ?_
              refine j_pick (L' := [(0, .ref r), (1, .ref q), (2, .int (nI k)), (3, .ref rw), (4, .int (nI len)), (5, .int (nI u)), (6, .int (nI len - 1 - nI w)), (7, .int (jb (decide (f (k * 28 + 2) = 1)))), (8, .int (nI (i + 1)))]) [0, 1, 2, 3, 4, 5, 6, 7, 8] rfl ?_
              exact ih_2 (i + 1, (jSt f k pl (row pl) a 0 v1 lk1 cd1).1, (jSt f k pl (row pl) a 0 v1 lk1 cd1).2.1, (jSt f k pl (row pl) a 0 v1 lk1 cd1).2.2.1) ⟨(by omega), (by omega), (by rw [← hI2, show len - (i + w) = (len - (i + 1 + w)) + 1 by omega, jPl_s, ← hpl, if_pos (by assumption)])⟩ (show u + len - (i + 1) < u + len - i from by omega)
            · skip
              have c_9 : ((jSt f k pl (row pl) a 0 v1 lk1 cd1).2.2.2) = false := jb_0 c_9
              exact j_vretW C hr dX3_goThroughLoop_104 () trivial (by rw [← hI2, show len - (i + w) = (len - (i + 1 + w)) + 1 by omega, jPl_s, ← hpl, if_neg (by simp_all)])
      · skip
        have c_5 : (decide (f (k * 28 + 2) = 1)) = true := jb_1 c_5
        refine j_iload 8 C dX3_goThroughLoop_54 rfl ?_
        refine j_goto (tgt := 67) C dX3_goThroughLoop_56 (by decide) ?_
        obtain ⟨pl, hpl⟩ : ∃ pl : Nat, pl = jPos (decide (f (k * 28 + 2) = 1)) u w len i := ⟨_, rfl⟩
        have hpos : pl < len := by rw [hpl]; unfold jPos; split <;> omega
        refine j_eq (pc' := 67) (L' := [(0, .ref r), (1, .ref q), (2, .int (nI k)), (3, .ref rw), (4, .int (nI len)), (5, .int (nI u)), (6, .int (nI len - 1 - nI w)), (7, .int (jb (decide (f (k * 28 + 2) = 1)))), (8, .int (nI i))]) (st' := [.int (nI pl)]) (ws' := [(r, .inr (2, [.ref vr, .int lk1, .int cd1])), (vr, jaL g 4 v1), (q, .inr (1, [.ref ca, .int n])), (ca, jaI g 224 f), (rw, jaL g N row)]) ?_ rfl rfl (by rw [hpl, jPos, if_pos (by assumption)]) rfl
        refine j_istore (L' := [(0, .ref r), (1, .ref q), (2, .int (nI k)), (3, .ref rw), (4, .int (nI len)), (5, .int (nI u)), (6, .int (nI len - 1 - nI w)), (7, .int (jb (decide (f (k * 28 + 2) = 1)))), (8, .int (nI i)), (9, .int (nI pl))]) C dX3_goThroughLoop_67 (Nat.le_of_ble_eq_true rfl) rfl rfl ?_
        refine j_iload 9 C dX3_goThroughLoop_69 rfl ?_
        refine j_if_lt (tgt := 88) C dX3_goThroughLoop_71 (by decide) (fun c_10 => ?_) (fun c_10 => ?_)
        · skip
          have c_10 : pl < 0 := (nI_ltI (a := pl) (b := 0) (by omega) (by omega)).mp c_10
          exact absurd c_10 (by omega)
        · skip
          have c_10 : ¬ pl < 0 := fun z => c_10 ((nI_ltI (a := pl) (b := 0) (by omega) (by omega)).mpr z)
          refine j_iload 9 C dX3_goThroughLoop_74 rfl ?_
          refine j_aload_n 3 C dX3_goThroughLoop_76 rfl rfl ?_
          refine j_alenL (v := nI N) 4 C dX3_goThroughLoop_77 rfl rfl ?_
          refine j_icmp_ge (tgt := 88) C dX3_goThroughLoop_78 (by decide) (fun c_11 => ?_) (fun c_11 => ?_)
          · skip
            have c_11 : N ≤ pl := (nI_leI (a := N) (b := pl) (by omega) (by omega)).mp c_11
            exact absurd c_11 (by omega)
          · skip
            have c_11 : ¬ N ≤ pl := fun z => c_11 ((nI_leI (a := N) (b := pl) (by omega) (by omega)).mpr z)
            refine j_aload_n 3 C dX3_goThroughLoop_81 rfl rfl ?_
            refine j_iload 9 C dX3_goThroughLoop_82 rfl ?_
            refine j_laldN (x := pl) 4 C dX3_goThroughLoop_84 rfl rfl (by omega) (by omega) ?_
            refine j_goto (tgt := 89) C dX3_goThroughLoop_85 (by decide) ?_
            refine j_lstore (L' := [(0, .ref r), (1, .ref q), (2, .int (nI k)), (3, .ref rw), (4, .int (nI len)), (5, .int (nI u)), (6, .int (nI len - 1 - nI w)), (7, .int (jb (decide (f (k * 28 + 2) = 1)))), (8, .int (nI i)), (9, .int (nI pl)), (10, .long (row pl))]) C dX3_goThroughLoop_89 (Nat.le_of_ble_eq_true rfl) rfl rfl ?_
            refine j_aload_n 0 C dX3_goThroughLoop_91 rfl rfl ?_
            refine j_aload_n 1 C dX3_goThroughLoop_92 rfl rfl ?_
            refine j_iload_n 2 C dX3_goThroughLoop_93 rfl rfl ?_
            refine j_iload 9 C dX3_goThroughLoop_94 rfl ?_
            refine j_lload 10 C dX3_goThroughLoop_96 rfl ?_
            refine j_callWi [0, 1, 2, 3] (fun _ => [(r, .inr (2, [.ref vr, .int ((jSt f k pl (row pl) a 0 v1 lk1 cd1).2.1), .int ((jSt f k pl (row pl) a 0 v1 lk1 cd1).2.2.1)])), (vr, jaL g 4 ((jSt f k pl (row pl) a 0 v1 lk1 cd1).1)), (q, .inr (1, [.ref ca, .int n])), (ca, jaI g 224 f), (rw, jaL g N row)]) C (j_runV (ci := 0) (As := [.ref q, .int (nI k), .int (nI pl), .long (row pl)]) (rest := []) [0, 1, 2, 3] C (c_X3_doSteps l g r vr lk1 cd1 v1 q ca n f k a pl (row pl) (by omega) ha (by omega) hst) gX3_goThroughLoop_X3_doSteps rfl rfl rfl hd_X3_doSteps ⟨Nat.le_of_ble_eq_true rfl, Nat.le_of_ble_eq_true rfl⟩ rfl rfl rfl rfl dX3_goThroughLoop_98 rfl (Nat.le_of_ble_eq_true rfl) ⟨Nat.le_of_ble_eq_true rfl, Nat.le_of_ble_eq_true rfl⟩) rfl (fun _ => rfl) (fun _ => rfl) (fun z _ hz => ?_)
            subst hz
            refine j_if_ne (tgt := 105) C dX3_goThroughLoop_101 (by decide) (fun c_13 => ?_) (fun c_13 => ?_)
            · skip
              have c_13 : ((jSt f k pl (row pl) a 0 v1 lk1 cd1).2.2.2) = true := jb_1 c_13
              refine j_iinc (v := nI (i + 1)) (L' := [(0, .ref r), (1, .ref q), (2, .int (nI k)), (3, .ref rw), (4, .int (nI len)), (5, .int (nI u)), (6, .int (nI len - 1 - nI w)), (7, .int (jb (decide (f (k * 28 + 2) = 1)))), (8, .int (nI (i + 1))), (9, .int (nI pl)), (10, .long (row pl))]) 8 C dX3_goThroughLoop_105 rfl (nI_add i 1) (Nat.le_of_ble_eq_true rfl) rfl rfl ?_
              refine j_goto (tgt := 42) C dX3_goThroughLoop_108 (by decide) ?_
              refine j_pick (L' := [(0, .ref r), (1, .ref q), (2, .int (nI k)), (3, .ref rw), (4, .int (nI len)), (5, .int (nI u)), (6, .int (nI len - 1 - nI w)), (7, .int (jb (decide (f (k * 28 + 2) = 1)))), (8, .int (nI (i + 1)))]) [0, 1, 2, 3, 4, 5, 6, 7, 8] rfl ?_
              exact ih_2 (i + 1, (jSt f k pl (row pl) a 0 v1 lk1 cd1).1, (jSt f k pl (row pl) a 0 v1 lk1 cd1).2.1, (jSt f k pl (row pl) a 0 v1 lk1 cd1).2.2.1) ⟨(by omega), (by omega), (by rw [← hI2, show len - (i + w) = (len - (i + 1 + w)) + 1 by omega, jPl_s, ← hpl, if_pos (by assumption)])⟩ (show u + len - (i + 1) < u + len - i from by omega)
            · skip
              have c_13 : ((jSt f k pl (row pl) a 0 v1 lk1 cd1).2.2.2) = false := jb_0 c_13
              exact j_vretW C hr dX3_goThroughLoop_104 () trivial (by rw [← hI2, show len - (i + w) = (len - (i + 1 + w)) + 1 by omega, jPl_s, ← hpl, if_neg (by simp_all)])
  · skip
    refine j_iconst (v := 1) C dX3_goThroughLoop_31 rfl ?_
    refine j_goto (tgt := 36) C dX3_goThroughLoop_32 (by decide) ?_
    refine j_eq (pc' := 36) (L' := [(0, .ref r), (1, .ref q), (2, .int (nI k)), (3, .ref rw), (4, .int (nI len)), (5, .int (nI u)), (6, .int (nI len - 1 - nI w))]) (st' := [.int (jb (decide (f (k * 28 + 2) = 1)))]) (ws' := [(r, .inr (2, [.ref vr, .int lk, .int cd])), (vr, jaL g 4 vv), (q, .inr (1, [.ref ca, .int n])), (ca, jaI g 224 f), (rw, jaL g N row)]) ?_ rfl rfl (by rw [decide_eq_true (by assumption)]; rfl) rfl
    refine j_istore (L' := [(0, .ref r), (1, .ref q), (2, .int (nI k)), (3, .ref rw), (4, .int (nI len)), (5, .int (nI u)), (6, .int (nI len - 1 - nI w)), (7, .int (jb (decide (f (k * 28 + 2) = 1))))]) C dX3_goThroughLoop_36 (Nat.le_of_ble_eq_true rfl) rfl rfl ?_
    refine j_iload 5 C dX3_goThroughLoop_38 rfl ?_
    refine j_istore (L' := [(0, .ref r), (1, .ref q), (2, .int (nI k)), (3, .ref rw), (4, .int (nI len)), (5, .int (nI u)), (6, .int (nI len - 1 - nI w)), (7, .int (jb (decide (f (k * 28 + 2) = 1)))), (8, .int (nI u))]) C dX3_goThroughLoop_40 (Nat.le_of_ble_eq_true rfl) rfl rfl ?_
    refine j_loop (σ := Nat × (Nat → Int64) × Int32 × Int32) (fun (x9_ : Nat × (Nat → Int64) × Int32 × Int32) => match x9_ with | (i, v1, lk1, cd1) => [(0, .ref r), (1, .ref q), (2, .int (nI k)), (3, .ref rw), (4, .int (nI len)), (5, .int (nI u)), (6, .int (nI len - 1 - nI w)), (7, .int (jb (decide (f (k * 28 + 2) = 1)))), (8, .int (nI i))]) (fun (x9_ : Nat × (Nat → Int64) × Int32 × Int32) => match x9_ with | (i, v1, lk1, cd1) => [(r, .inr (2, [.ref vr, .int lk1, .int cd1])), (vr, jaL g 4 v1), (q, .inr (1, [.ref ca, .int n])), (ca, jaI g 224 f), (rw, jaL g N row)]) (fun (x9_ : Nat × (Nat → Int64) × Int32 × Int32) => match x9_ with | (i, v1, lk1, cd1) => (u ≤ i) ∧ (i ≤ u + len) ∧ (jPl f k a row (decide (f (k * 28 + 2) = 1)) u w len (len - (i + w)) i v1 lk1 cd1 = jLp f k row len vv lk cd)) (fun (x9_ : Nat × (Nat → Int64) × Int32 × Int32) => match x9_ with | (i, v1, lk1, cd1) => u + len - i) (fun x_ hi_15 ih_14 => ?_) (u, vv, lk, cd) ⟨(by omega), (by omega), (by rw [jLp, ha, hu, hw, show nn (nI a) = a from nI_clamp (by omega), show nn (nI u) = u from nI_clamp (by omega), show nn (nI w) = w from nI_clamp (by omega)])⟩ rfl rfl
    obtain ⟨i, v1, lk1, cd1⟩ := x_
    obtain ⟨hI0, hI1, hI2⟩ := (show (u ≤ i) ∧ (i ≤ u + len) ∧ (jPl f k a row (decide (f (k * 28 + 2) = 1)) u w len (len - (i + w)) i v1 lk1 cd1 = jLp f k row len vv lk cd) from hi_15)
    refine j_eq (pc' := 42) (L' := [(0, .ref r), (1, .ref q), (2, .int (nI k)), (3, .ref rw), (4, .int (nI len)), (5, .int (nI u)), (6, .int (nI len - 1 - nI w)), (7, .int (jb (decide (f (k * 28 + 2) = 1)))), (8, .int (nI i))]) (st' := []) (ws' := [(r, .inr (2, [.ref vr, .int lk1, .int cd1])), (vr, jaL g 4 v1), (q, .inr (1, [.ref ca, .int n])), (ca, jaI g 224 f), (rw, jaL g N row)]) ?_ rfl rfl rfl rfl
    refine j_iload 8 C dX3_goThroughLoop_42 rfl ?_
    refine j_iload 6 C dX3_goThroughLoop_44 rfl ?_
    refine j_icmp_gt (tgt := 111) C dX3_goThroughLoop_46 (by decide) (fun c_16 => ?_) (fun c_16 => ?_)
    · skip
      have c_16 : len ≤ i + w := (jlast (by omega) (by omega) (by omega)).mp c_16
      exact j_vretW C hr dX3_goThroughLoop_111 () trivial (by rw [← hI2, show len - (i + w) = 0 by omega]; rfl)
    · skip
      have c_16 : ¬ len ≤ i + w := fun z => c_16 ((jlast (by omega) (by omega) (by omega)).mpr z)
      refine j_iload 7 C dX3_goThroughLoop_49 rfl ?_
      refine j_if_eq (tgt := 59) C dX3_goThroughLoop_51 (by decide) (fun c_17 => ?_) (fun c_17 => ?_)
      · skip
        have c_17 : (decide (f (k * 28 + 2) = 1)) = false := jb_0 c_17
        refine j_iload 6 C dX3_goThroughLoop_59 rfl ?_
        refine j_iload 8 C dX3_goThroughLoop_61 rfl ?_
        refine j_iload 5 C dX3_goThroughLoop_63 rfl ?_
        refine j_isub (x := nI i) (y := nI u) (v := nI (i - u)) C dX3_goThroughLoop_65 (pk_sub (a := i) (b := u) (by omega)) ?_
        refine j_isub (x := nI len - 1 - nI w) (y := nI (i - u)) (v := nI (len - 1 - w - (i - u))) C dX3_goThroughLoop_66 (jplace (by omega) (by omega)) ?_
        obtain ⟨pl, hpl⟩ : ∃ pl : Nat, pl = jPos (decide (f (k * 28 + 2) = 1)) u w len i := ⟨_, rfl⟩
        have hpos : pl < len := by rw [hpl]; unfold jPos; split <;> omega
        refine j_eq (pc' := 67) (L' := [(0, .ref r), (1, .ref q), (2, .int (nI k)), (3, .ref rw), (4, .int (nI len)), (5, .int (nI u)), (6, .int (nI len - 1 - nI w)), (7, .int (jb (decide (f (k * 28 + 2) = 1)))), (8, .int (nI i))]) (st' := [.int (nI pl)]) (ws' := [(r, .inr (2, [.ref vr, .int lk1, .int cd1])), (vr, jaL g 4 v1), (q, .inr (1, [.ref ca, .int n])), (ca, jaI g 224 f), (rw, jaL g N row)]) ?_ rfl rfl (by rw [hpl, jPos, if_neg (by simp_all)]) rfl
        refine j_istore (L' := [(0, .ref r), (1, .ref q), (2, .int (nI k)), (3, .ref rw), (4, .int (nI len)), (5, .int (nI u)), (6, .int (nI len - 1 - nI w)), (7, .int (jb (decide (f (k * 28 + 2) = 1)))), (8, .int (nI i)), (9, .int (nI pl))]) C dX3_goThroughLoop_67 (Nat.le_of_ble_eq_true rfl) rfl rfl ?_
        refine j_iload 9 C dX3_goThroughLoop_69 rfl ?_
        refine j_if_lt (tgt := 88) C dX3_goThroughLoop_71 (by decide) (fun c_18 => ?_) (fun c_18 => ?_)
        · skip
          have c_18 : pl < 0 := (nI_ltI (a := pl) (b := 0) (by omega) (by omega)).mp c_18
          exact absurd c_18 (by omega)
        · skip
          have c_18 : ¬ pl < 0 := fun z => c_18 ((nI_ltI (a := pl) (b := 0) (by omega) (by omega)).mpr z)
          refine j_iload 9 C dX3_goThroughLoop_74 rfl ?_
          refine j_aload_n 3 C dX3_goThroughLoop_76 rfl rfl ?_
          refine j_alenL (v := nI N) 4 C dX3_goThroughLoop_77 rfl rfl ?_
          refine j_icmp_ge (tgt := 88) C dX3_goThroughLoop_78 (by decide) (fun c_19 => ?_) (fun c_19 => ?_)
          · skip
            have c_19 : N ≤ pl := (nI_leI (a := N) (b := pl) (by omega) (by omega)).mp c_19
            exact absurd c_19 (by omega)
          · skip
            have c_19 : ¬ N ≤ pl := fun z => c_19 ((nI_leI (a := N) (b := pl) (by omega) (by omega)).mpr z)
            refine j_aload_n 3 C dX3_goThroughLoop_81 rfl rfl ?_
            refine j_iload 9 C dX3_goThroughLoop_82 rfl ?_
            refine j_laldN (x := pl) 4 C dX3_goThroughLoop_84 rfl rfl (by omega) (by omega) ?_
            refine j_goto (tgt := 89) C dX3_goThroughLoop_85 (by decide) ?_
            refine j_lstore (L' := [(0, .ref r), (1, .ref q), (2, .int (nI k)), (3, .ref rw), (4, .int (nI len)), (5, .int (nI u)), (6, .int (nI len - 1 - nI w)), (7, .int (jb (decide (f (k * 28 + 2) = 1)))), (8, .int (nI i)), (9, .int (nI pl)), (10, .long (row pl))]) C dX3_goThroughLoop_89 (Nat.le_of_ble_eq_true rfl) rfl rfl ?_
            refine j_aload_n 0 C dX3_goThroughLoop_91 rfl rfl ?_
            refine j_aload_n 1 C dX3_goThroughLoop_92 rfl rfl ?_
            refine j_iload_n 2 C dX3_goThroughLoop_93 rfl rfl ?_
            refine j_iload 9 C dX3_goThroughLoop_94 rfl ?_
            refine j_lload 10 C dX3_goThroughLoop_96 rfl ?_
            refine j_callWi [0, 1, 2, 3] (fun _ => [(r, .inr (2, [.ref vr, .int ((jSt f k pl (row pl) a 0 v1 lk1 cd1).2.1), .int ((jSt f k pl (row pl) a 0 v1 lk1 cd1).2.2.1)])), (vr, jaL g 4 ((jSt f k pl (row pl) a 0 v1 lk1 cd1).1)), (q, .inr (1, [.ref ca, .int n])), (ca, jaI g 224 f), (rw, jaL g N row)]) C (j_runV (ci := 0) (As := [.ref q, .int (nI k), .int (nI pl), .long (row pl)]) (rest := []) [0, 1, 2, 3] C (c_X3_doSteps l g r vr lk1 cd1 v1 q ca n f k a pl (row pl) (by omega) ha (by omega) hst) gX3_goThroughLoop_X3_doSteps rfl rfl rfl hd_X3_doSteps ⟨Nat.le_of_ble_eq_true rfl, Nat.le_of_ble_eq_true rfl⟩ rfl rfl rfl rfl dX3_goThroughLoop_98 rfl (Nat.le_of_ble_eq_true rfl) ⟨Nat.le_of_ble_eq_true rfl, Nat.le_of_ble_eq_true rfl⟩) rfl (fun _ => rfl) (fun _ => rfl) (fun z _ hz => ?_)
            subst hz
            refine j_if_ne (tgt := 105) C dX3_goThroughLoop_101 (by decide) (fun c_21 => ?_) (fun c_21 => ?_)
            · skip
              have c_21 : ((jSt f k pl (row pl) a 0 v1 lk1 cd1).2.2.2) = true := jb_1 c_21
              refine j_iinc (v := nI (i + 1)) (L' := [(0, .ref r), (1, .ref q), (2, .int (nI k)), (3, .ref rw), (4, .int (nI len)), (5, .int (nI u)), (6, .int (nI len - 1 - nI w)), (7, .int (jb (decide (f (k * 28 + 2) = 1)))), (8, .int (nI (i + 1))), (9, .int (nI pl)), (10, .long (row pl))]) 8 C dX3_goThroughLoop_105 rfl (nI_add i 1) (Nat.le_of_ble_eq_true rfl) rfl rfl ?_
              refine j_goto (tgt := 42) C dX3_goThroughLoop_108 (by decide) ?_
              refine j_pick (L' := [(0, .ref r), (1, .ref q), (2, .int (nI k)), (3, .ref rw), (4, .int (nI len)), (5, .int (nI u)), (6, .int (nI len - 1 - nI w)), (7, .int (jb (decide (f (k * 28 + 2) = 1)))), (8, .int (nI (i + 1)))]) [0, 1, 2, 3, 4, 5, 6, 7, 8] rfl ?_
              exact ih_14 (i + 1, (jSt f k pl (row pl) a 0 v1 lk1 cd1).1, (jSt f k pl (row pl) a 0 v1 lk1 cd1).2.1, (jSt f k pl (row pl) a 0 v1 lk1 cd1).2.2.1) ⟨(by omega), (by omega), (by rw [← hI2, show len - (i + w) = (len - (i + 1 + w)) + 1 by omega, jPl_s, ← hpl, if_pos (by assumption)])⟩ (show u + len - (i + 1) < u + len - i from by omega)
            · skip
              have c_21 : ((jSt f k pl (row pl) a 0 v1 lk1 cd1).2.2.2) = false := jb_0 c_21
              exact j_vretW C hr dX3_goThroughLoop_104 () trivial (by rw [← hI2, show len - (i + w) = (len - (i + 1 + w)) + 1 by omega, jPl_s, ← hpl, if_neg (by simp_all)])
      · skip
        have c_17 : (decide (f (k * 28 + 2) = 1)) = true := jb_1 c_17
        refine j_iload 8 C dX3_goThroughLoop_54 rfl ?_
        refine j_goto (tgt := 67) C dX3_goThroughLoop_56 (by decide) ?_
        obtain ⟨pl, hpl⟩ : ∃ pl : Nat, pl = jPos (decide (f (k * 28 + 2) = 1)) u w len i := ⟨_, rfl⟩
        have hpos : pl < len := by rw [hpl]; unfold jPos; split <;> omega
        refine j_eq (pc' := 67) (L' := [(0, .ref r), (1, .ref q), (2, .int (nI k)), (3, .ref rw), (4, .int (nI len)), (5, .int (nI u)), (6, .int (nI len - 1 - nI w)), (7, .int (jb (decide (f (k * 28 + 2) = 1)))), (8, .int (nI i))]) (st' := [.int (nI pl)]) (ws' := [(r, .inr (2, [.ref vr, .int lk1, .int cd1])), (vr, jaL g 4 v1), (q, .inr (1, [.ref ca, .int n])), (ca, jaI g 224 f), (rw, jaL g N row)]) ?_ rfl rfl (by rw [hpl, jPos, if_pos (by assumption)]) rfl
        refine j_istore (L' := [(0, .ref r), (1, .ref q), (2, .int (nI k)), (3, .ref rw), (4, .int (nI len)), (5, .int (nI u)), (6, .int (nI len - 1 - nI w)), (7, .int (jb (decide (f (k * 28 + 2) = 1)))), (8, .int (nI i)), (9, .int (nI pl))]) C dX3_goThroughLoop_67 (Nat.le_of_ble_eq_true rfl) rfl rfl ?_
        refine j_iload 9 C dX3_goThroughLoop_69 rfl ?_
        refine j_if_lt (tgt := 88) C dX3_goThroughLoop_71 (by decide) (fun c_22 => ?_) (fun c_22 => ?_)
        · skip
          have c_22 : pl < 0 := (nI_ltI (a := pl) (b := 0) (by omega) (by omega)).mp c_22
          exact absurd c_22 (by omega)
        · skip
          have c_22 : ¬ pl < 0 := fun z => c_22 ((nI_ltI (a := pl) (b := 0) (by omega) (by omega)).mpr z)
          refine j_iload 9 C dX3_goThroughLoop_74 rfl ?_
          refine j_aload_n 3 C dX3_goThroughLoop_76 rfl rfl ?_
          refine j_alenL (v := nI N) 4 C dX3_goThroughLoop_77 rfl rfl ?_
          refine j_icmp_ge (tgt := 88) C dX3_goThroughLoop_78 (by decide) (fun c_23 => ?_) (fun c_23 => ?_)
          · skip
            have c_23 : N ≤ pl := (nI_leI (a := N) (b := pl) (by omega) (by omega)).mp c_23
            exact absurd c_23 (by omega)
          · skip
            have c_23 : ¬ N ≤ pl := fun z => c_23 ((nI_leI (a := N) (b := pl) (by omega) (by omega)).mpr z)
            refine j_aload_n 3 C dX3_goThroughLoop_81 rfl rfl ?_
            refine j_iload 9 C dX3_goThroughLoop_82 rfl ?_
            refine j_laldN (x := pl) 4 C dX3_goThroughLoop_84 rfl rfl (by omega) (by omega) ?_
            refine j_goto (tgt := 89) C dX3_goThroughLoop_85 (by decide) ?_
            refine j_lstore (L' := [(0, .ref r), (1, .ref q), (2, .int (nI k)), (3, .ref rw), (4, .int (nI len)), (5, .int (nI u)), (6, .int (nI len - 1 - nI w)), (7, .int (jb (decide (f (k * 28 + 2) = 1)))), (8, .int (nI i)), (9, .int (nI pl)), (10, .long (row pl))]) C dX3_goThroughLoop_89 (Nat.le_of_ble_eq_true rfl) rfl rfl ?_
            refine j_aload_n 0 C dX3_goThroughLoop_91 rfl rfl ?_
            refine j_aload_n 1 C dX3_goThroughLoop_92 rfl rfl ?_
            refine j_iload_n 2 C dX3_goThroughLoop_93 rfl rfl ?_
            refine j_iload 9 C dX3_goThroughLoop_94 rfl ?_
            refine j_lload 10 C dX3_goThroughLoop_96 rfl ?_
            refine j_callWi [0, 1, 2, 3] (fun _ => [(r, .inr (2, [.ref vr, .int ((jSt f k pl (row pl) a 0 v1 lk1 cd1).2.1), .int ((jSt f k pl (row pl) a 0 v1 lk1 cd1).2.2.1)])), (vr, jaL g 4 ((jSt f k pl (row pl) a 0 v1 lk1 cd1).1)), (q, .inr (1, [.ref ca, .int n])), (ca, jaI g 224 f), (rw, jaL g N row)]) C (j_runV (ci := 0) (As := [.ref q, .int (nI k), .int (nI pl), .long (row pl)]) (rest := []) [0, 1, 2, 3] C (c_X3_doSteps l g r vr lk1 cd1 v1 q ca n f k a pl (row pl) (by omega) ha (by omega) hst) gX3_goThroughLoop_X3_doSteps rfl rfl rfl hd_X3_doSteps ⟨Nat.le_of_ble_eq_true rfl, Nat.le_of_ble_eq_true rfl⟩ rfl rfl rfl rfl dX3_goThroughLoop_98 rfl (Nat.le_of_ble_eq_true rfl) ⟨Nat.le_of_ble_eq_true rfl, Nat.le_of_ble_eq_true rfl⟩) rfl (fun _ => rfl) (fun _ => rfl) (fun z _ hz => ?_)
            subst hz
            refine j_if_ne (tgt := 105) C dX3_goThroughLoop_101 (by decide) (fun c_25 => ?_) (fun c_25 => ?_)
            · skip
              have c_25 : ((jSt f k pl (row pl) a 0 v1 lk1 cd1).2.2.2) = true := jb_1 c_25
              refine j_iinc (v := nI (i + 1)) (L' := [(0, .ref r), (1, .ref q), (2, .int (nI k)), (3, .ref rw), (4, .int (nI len)), (5, .int (nI u)), (6, .int (nI len - 1 - nI w)), (7, .int (jb (decide (f (k * 28 + 2) = 1)))), (8, .int (nI (i + 1))), (9, .int (nI pl)), (10, .long (row pl))]) 8 C dX3_goThroughLoop_105 rfl (nI_add i 1) (Nat.le_of_ble_eq_true rfl) rfl rfl ?_
              refine j_goto (tgt := 42) C dX3_goThroughLoop_108 (by decide) ?_
              refine j_pick (L' := [(0, .ref r), (1, .ref q), (2, .int (nI k)), (3, .ref rw), (4, .int (nI len)), (5, .int (nI u)), (6, .int (nI len - 1 - nI w)), (7, .int (jb (decide (f (k * 28 + 2) = 1)))), (8, .int (nI (i + 1)))]) [0, 1, 2, 3, 4, 5, 6, 7, 8] rfl ?_
              exact ih_14 (i + 1, (jSt f k pl (row pl) a 0 v1 lk1 cd1).1, (jSt f k pl (row pl) a 0 v1 lk1 cd1).2.1, (jSt f k pl (row pl) a 0 v1 lk1 cd1).2.2.1) ⟨(by omega), (by omega), (by rw [← hI2, show len - (i + w) = (len - (i + 1 + w)) + 1 by omega, jPl_s, ← hpl, if_pos (by assumption)])⟩ (show u + len - (i + 1) < u + len - i from by omega)
            · skip
              have c_25 : ((jSt f k pl (row pl) a 0 v1 lk1 cd1).2.2.2) = false := jb_0 c_25
              exact j_vretW C hr dX3_goThroughLoop_104 () trivial (by rw [← hI2, show len - (i + w) = (len - (i + 1 + w)) + 1 by omega, jPl_s, ← hpl, if_neg (by simp_all)])
set_option maxHeartbeats 4000000 in
set_option maxRecDepth 100000 in
theorem c_X3_goThrough (l : Launch) (g : jG) (r vr : Nat) (lk cd : Int32) (vv : Nat → Int64) (q ca n : Nat) (f : Nat → Int32) (rw len N : Nat) (row : Nat → Int64) (hok : jOk n f) (hlen : len ≤ N) (hN : N ≤ 100) : jWv l yX3_goThrough wsX3_goThrough ({ frames := 5, cells := 0, slots := 0, locals := 124 }) g [.ref r, .ref q, .ref rw, .int (nI len)] [(r, .inr (2, [.ref vr, .int lk, .int cd])), (vr, jaL g 4 vv), (q, .inr (1, [.ref ca, .int (nI n)])), (ca, jaI g 224 f), (rw, jaL g N row)] [(r, .inr (2, [.ref vr, .int ((jRn n f row len).2.1), .int ((jRn n f row len).2.2)])), (vr, jaL g 4 ((jRn n f row len).1)), (q, .inr (1, [.ref ca, .int (nI n)])), (ca, jaI g 224 f), (rw, jaL g N row)] := by
  refine j_enterW (Qc := fun sz_ => va_Qv (fun (_ : Unit) => True) (fun _ t => va_P g.1 vwCl [(r, .inr (2, [.ref vr, .int ((jRn n f row len).2.1), .int ((jRn n f row len).2.2)])), (vr, jaL g 4 ((jRn n f row len).1)), (q, .inr (1, [.ref ca, .int (nI n)])), (ca, jaI g 224 f), (rw, jaL g N row)] t.heap) (va_A [(r, .inr (2, [.ref vr, .int lk, .int cd])), (vr, jaL g 4 vv), (q, .inr (1, [.ref ca, .int (nI n)])), (ca, jaI g 224 f), (rw, jaL g N row)] sz_)) (cc := cX3_goThrough) (maxL := 5) (ret := none) (own := RX3) (L := [(0, .ref r), (1, .ref q), (2, .ref rw), (3, .int (nI len))]) (by decide) rfl rfl (Nat.le_of_ble_eq_true rfl) rfl (fun p e s m args below meth c C hr => ?_)
  have hn8 := hok.1
  refine j_iconst (v := 0) C dX3_goThrough_0 rfl ?_
  refine j_istore (L' := [(0, .ref r), (1, .ref q), (2, .ref rw), (3, .int (nI len)), (4, .int 0)]) C dX3_goThrough_1 (Nat.le_of_ble_eq_true rfl) rfl rfl ?_
  refine j_loop (σ := Nat) (fun (x : Nat) => [(0, .ref r), (1, .ref q), (2, .ref rw), (3, .int (nI len)), (4, .int (nI x))]) (fun (x : Nat) => [(r, .inr (2, [.ref vr, .int lk, .int cd])), (vr, jaL g 4 (jZL vv x)), (q, .inr (1, [.ref ca, .int (nI n)])), (ca, jaI g 224 f), (rw, jaL g N row)]) (fun (x : Nat) => (x ≤ 4)) (fun (x : Nat) => 4 - x) (fun x_ hi_2 ih_1 => ?_) 0 (by omega) rfl (by rw [jZL_0])
  obtain ⟨x, hx_⟩ : ∃ z, z = x_ := ⟨_, rfl⟩
  subst hx_
  have hi_2_0 : (x ≤ 4) := hi_2
  refine j_eq (pc' := 3) (L' := [(0, .ref r), (1, .ref q), (2, .ref rw), (3, .int (nI len)), (4, .int (nI x))]) (st' := []) (ws' := [(r, .inr (2, [.ref vr, .int lk, .int cd])), (vr, jaL g 4 (jZL vv x)), (q, .inr (1, [.ref ca, .int (nI n)])), (ca, jaI g 224 f), (rw, jaL g N row)]) ?_ rfl rfl rfl rfl
  refine j_iload 4 C dX3_goThrough_3 rfl ?_
  refine j_aload_n 0 C dX3_goThrough_5 rfl rfl ?_
  refine j_get (Cn := RX3) (T := TX3) (N := 3) 0 0 C dX3_goThrough_6 hin_X3_goThrough_X3 rfl rfl (by decide) (List.mem_of_getElem? (i := 1) rfl) rfl ?_
  refine j_alenL (v := 4) 1 C dX3_goThrough_9 rfl rfl ?_
  refine j_icmp_ge (tgt := 27) C dX3_goThrough_10 (by decide) (fun c_3 => ?_) (fun c_3 => ?_)
  · skip
    have c_3 : 4 ≤ x := (nI_leI (a := 4) (b := x) (by omega) (by omega)).mp c_3
    refine j_arrL (f' := fun _ => 0) (ws' := [(r, .inr (2, [.ref vr, .int lk, .int cd])), (vr, jaL g 4 (fun _ => 0)), (q, .inr (1, [.ref ca, .int (nI n)])), (ca, jaI g 224 f), (rw, jaL g N row)]) 1 rfl (fun i hi => if_pos (by omega)) rfl ?_
    refine j_aload_n 0 C dX3_goThrough_27 rfl rfl ?_
    refine j_iconst (v := 0) C dX3_goThrough_28 rfl ?_
    refine j_put (Cn := RX3) (T := TX3) (N := 3) (ws' := [(r, .inr (2, [.ref vr, .int 0, .int cd])), (vr, jaL g 4 (fun _ => 0)), (q, .inr (1, [.ref ca, .int (nI n)])), (ca, jaI g 224 f), (rw, jaL g N row)]) tyX3 0 1 C dX3_goThrough_29 hin_X3_goThrough_X3 tyX3_ok nmX3 rfl rfl (by decide) (List.mem_of_getElem? (i := 2) rfl) rfl (tyX3_ok 1 (by decide)) rfl rfl (Nat.le_of_ble_eq_true rfl) rfl ?_
    refine j_aload_n 0 C dX3_goThrough_32 rfl rfl ?_
    refine j_iconst (v := -1) C dX3_goThrough_33 rfl ?_
    refine j_put (Cn := RX3) (T := TX3) (N := 3) (ws' := [(r, .inr (2, [.ref vr, .int 0, .int (-1)])), (vr, jaL g 4 (fun _ => 0)), (q, .inr (1, [.ref ca, .int (nI n)])), (ca, jaI g 224 f), (rw, jaL g N row)]) tyX3 0 2 C dX3_goThrough_34 hin_X3_goThrough_X3 tyX3_ok nmX3 rfl rfl (by decide) (List.mem_of_getElem? (i := 3) rfl) rfl (tyX3_ok 2 (by decide)) rfl rfl (Nat.le_of_ble_eq_true rfl) rfl ?_
    refine j_iconst (v := 0) C dX3_goThrough_37 rfl ?_
    refine j_istore (L' := [(0, .ref r), (1, .ref q), (2, .ref rw), (3, .int (nI len)), (4, .int 0)]) C dX3_goThrough_38 (Nat.le_of_ble_eq_true rfl) rfl rfl ?_
    refine j_loop (σ := Nat × (Nat → Int64) × Int32 × Int32) (fun (x9_ : Nat × (Nat → Int64) × Int32 × Int32) => match x9_ with | (k, v1, lk1, cd1) => [(0, .ref r), (1, .ref q), (2, .ref rw), (3, .int (nI len)), (4, .int (nI k))]) (fun (x9_ : Nat × (Nat → Int64) × Int32 × Int32) => match x9_ with | (k, v1, lk1, cd1) => [(r, .inr (2, [.ref vr, .int lk1, .int cd1])), (vr, jaL g 4 v1), (q, .inr (1, [.ref ca, .int (nI n)])), (ca, jaI g 224 f), (rw, jaL g N row)]) (fun (x9_ : Nat × (Nat → Int64) × Int32 × Int32) => match x9_ with | (k, v1, lk1, cd1) => (k ≤ n) ∧ (jLs f row len (n - k) k v1 lk1 cd1 = jRn n f row len)) (fun (x9_ : Nat × (Nat → Int64) × Int32 × Int32) => match x9_ with | (k, v1, lk1, cd1) => n - k) (fun x_ hi_5 ih_4 => ?_) (0, fun _ => 0, 0, -1) ⟨(by omega), rfl⟩ rfl rfl
    obtain ⟨k, v1, lk1, cd1⟩ := x_
    obtain ⟨hI0, hI1⟩ := (show (k ≤ n) ∧ (jLs f row len (n - k) k v1 lk1 cd1 = jRn n f row len) from hi_5)
    refine j_eq (pc' := 40) (L' := [(0, .ref r), (1, .ref q), (2, .ref rw), (3, .int (nI len)), (4, .int (nI k))]) (st' := []) (ws' := [(r, .inr (2, [.ref vr, .int lk1, .int cd1])), (vr, jaL g 4 v1), (q, .inr (1, [.ref ca, .int (nI n)])), (ca, jaI g 224 f), (rw, jaL g N row)]) ?_ rfl rfl rfl rfl
    refine j_iload 4 C dX3_goThrough_40 rfl ?_
    refine j_aload_n 1 C dX3_goThrough_42 rfl rfl ?_
    refine j_callRi (v := nI n) (j_runV (ci := 2) (As := []) (rest := [.int (nI k)]) [2, 3] C (c_X1_countLoops l g q ca (nI n) f) gX3_goThrough_X1_countLoops rfl rfl rfl hd_X1_countLoops ⟨Nat.le_of_ble_eq_true rfl, Nat.le_of_ble_eq_true rfl⟩ rfl rfl rfl rfl dX3_goThrough_43 rfl (Nat.le_of_ble_eq_true rfl) ⟨Nat.le_of_ble_eq_true rfl, Nat.le_of_ble_eq_true rfl⟩) ?_
    refine j_icmp_ge (tgt := 72) C dX3_goThrough_46 (by decide) (fun c_6 => ?_) (fun c_6 => ?_)
    · skip
      have c_6 : n ≤ k := (nI_leI (a := n) (b := k) (by omega) (by omega)).mp c_6
      exact j_vretW C hr dX3_goThrough_72 () trivial (by first | (rw [← hI1, show n - k = 0 by omega]; rfl) | rw [← hI1, jLs_x _ _ _ _ _ _ _ _ (by assumption)])
    · skip
      have c_6 : ¬ n ≤ k := fun z => c_6 ((nI_leI (a := n) (b := k) (by omega) (by omega)).mpr z)
      refine j_aload_n 0 C dX3_goThrough_49 rfl rfl ?_
      refine j_get (Cn := RX3) (T := TX3) (N := 3) 0 2 C dX3_goThrough_50 hin_X3_goThrough_X3 rfl rfl (by decide) (List.mem_of_getElem? (i := 3) rfl) rfl ?_
      refine j_iconst (v := -1) C dX3_goThrough_53 rfl ?_
      refine j_icmp_ne (tgt := 72) C dX3_goThrough_54 (by decide) (fun c_7 => ?_) (fun c_7 => ?_)
      · skip
        exact j_vretW C hr dX3_goThrough_72 () trivial (by first | (rw [← hI1, show n - k = 0 by omega]; rfl) | rw [← hI1, jLs_x _ _ _ _ _ _ _ _ (by assumption)])
      · skip
        obtain ⟨u, w, a, hu5, hw5, ha6, hu, hw, hup, ha, hst0⟩ := hok.2 k (by omega)
        have hst := jOkS_d hst0
        refine j_aload_n 0 C dX3_goThrough_57 rfl rfl ?_
        refine j_aload_n 1 C dX3_goThrough_58 rfl rfl ?_
        refine j_iload 4 C dX3_goThrough_59 rfl ?_
        refine j_aload_n 2 C dX3_goThrough_61 rfl rfl ?_
        refine j_iload_n 3 C dX3_goThrough_62 rfl rfl ?_
        refine j_callWv [0, 1, 2, 3, 4] (fun _ => [(r, .inr (2, [.ref vr, .int ((jLp f k row len v1 lk1 cd1).2.1), .int ((jLp f k row len v1 lk1 cd1).2.2)])), (vr, jaL g 4 ((jLp f k row len v1 lk1 cd1).1)), (q, .inr (1, [.ref ca, .int (nI n)])), (ca, jaI g 224 f), (rw, jaL g N row)]) C (j_runV (ci := 0) (As := [.ref q, .int (nI k), .ref rw, .int (nI len)]) (rest := []) [0, 1, 2, 3, 4] C (c_X3_goThroughLoop l g r vr lk1 cd1 v1 q ca (nI n) f k a u w rw len N row (by omega) ha (by omega) hst hu (by omega) hw (by omega) (by omega) (by omega)) gX3_goThrough_X3_goThroughLoop rfl rfl rfl hd_X3_goThroughLoop ⟨Nat.le_of_ble_eq_true rfl, Nat.le_of_ble_eq_true rfl⟩ rfl rfl rfl rfl dX3_goThrough_63 rfl (Nat.le_of_ble_eq_true rfl) ⟨Nat.le_of_ble_eq_true rfl, Nat.le_of_ble_eq_true rfl⟩) rfl (fun _ => rfl) (fun _ => rfl) (fun _ _ => ?_)
        refine j_iinc (v := nI (k + 1)) (L' := [(0, .ref r), (1, .ref q), (2, .ref rw), (3, .int (nI len)), (4, .int (nI (k + 1)))]) 4 C dX3_goThrough_66 rfl (nI_add k 1) (Nat.le_of_ble_eq_true rfl) rfl rfl ?_
        refine j_goto (tgt := 40) C dX3_goThrough_69 (by decide) ?_
        exact ih_4 (k + 1, (jLp f k row len v1 lk1 cd1).1, (jLp f k row len v1 lk1 cd1).2.1, (jLp f k row len v1 lk1 cd1).2.2) ⟨(by omega), (by rw [← hI1, show n - k = (n - (k + 1)) + 1 by omega, jLs_s, if_pos (by assumption)])⟩ (show n - (k + 1) < n - k from by omega)
  · skip
    have c_3 : ¬ 4 ≤ x := fun z => c_3 ((nI_leI (a := 4) (b := x) (by omega) (by omega)).mpr z)
    refine j_aload_n 0 C dX3_goThrough_13 rfl rfl ?_
    refine j_get (Cn := RX3) (T := TX3) (N := 3) 0 0 C dX3_goThrough_14 hin_X3_goThrough_X3 rfl rfl (by decide) (List.mem_of_getElem? (i := 1) rfl) rfl ?_
    refine j_iload 4 C dX3_goThrough_17 rfl ?_
    refine j_lconst (v := 0) C dX3_goThrough_19 rfl ?_
    refine j_lastN (x := x) (ws' := [(r, .inr (2, [.ref vr, .int lk, .int cd])), (vr, jaL g 4 (vp_updL (jZL vv x) x 0)), (q, .inr (1, [.ref ca, .int (nI n)])), (ca, jaI g 224 f), (rw, jaL g N row)]) 1 C dX3_goThrough_20 rfl rfl (by omega) (by decide) rfl ?_
    refine j_iinc (v := nI (x + 1)) (L' := [(0, .ref r), (1, .ref q), (2, .ref rw), (3, .int (nI len)), (4, .int (nI (x + 1)))]) 4 C dX3_goThrough_21 rfl (nI_add x 1) (Nat.le_of_ble_eq_true rfl) rfl rfl ?_
    refine j_goto (tgt := 3) C dX3_goThrough_24 (by decide) ?_
    refine j_eq (pc' := 3) (L' := [(0, .ref r), (1, .ref q), (2, .ref rw), (3, .int (nI len)), (4, .int (nI (x + 1)))]) (st' := []) (ws' := [(r, .inr (2, [.ref vr, .int lk, .int cd])), (vr, jaL g 4 (jZL vv (x + 1))), (q, .inr (1, [.ref ca, .int (nI n)])), (ca, jaI g 224 f), (rw, jaL g N row)]) ?_ rfl rfl rfl (by rw [jZL_s])
    exact ih_1 (x + 1) (by omega) (show 4 - (x + 1) < 4 - x from by omega)
set_option maxHeartbeats 4000000 in
set_option maxRecDepth 100000 in
theorem c_X0_begin (l : Launch) (g : jG) (cs dg : Nat) (ln gd : Int32) (h : Nat → Int64) (n v : Nat) (hv : 1 ≤ v) : jWv l yX0_begin wsX0_begin ({ frames := 0, cells := 0, slots := 0, locals := 0 }) g [.ref cs, .int (nI n), .int (nI v)] [(cs, .inr (0, [.ref dg, .int ln, .int gd])), (dg, jaL g 6 h)] [(cs, .inr (0, [.ref dg, .int (nI n), .int (nI (v - 1))])), (dg, jaL g 6 (fun _ => 0))] := by
  refine j_enterW (Qc := fun sz_ => va_Qv (fun (_ : Unit) => True) (fun _ t => va_P g.1 vwCl [(cs, .inr (0, [.ref dg, .int (nI n), .int (nI (v - 1))])), (dg, jaL g 6 (fun _ => 0))] t.heap) (va_A [(cs, .inr (0, [.ref dg, .int ln, .int gd])), (dg, jaL g 6 h)] sz_)) (cc := cX0_begin) (maxL := 4) (ret := none) (own := RX0) (L := [(0, .ref cs), (1, .int (nI n)), (2, .int (nI v))]) (by decide) rfl rfl (Nat.le_of_ble_eq_true rfl) rfl (fun p e s m args below meth c C hr => ?_)
  refine j_aload_n 0 C dX0_begin_0 rfl rfl ?_
  refine j_iload_n 1 C dX0_begin_1 rfl rfl ?_
  refine j_put (Cn := RX0) (T := TX0) (N := 3) (ws' := [(cs, .inr (0, [.ref dg, .int (nI n), .int gd])), (dg, jaL g 6 h)]) tyX0 0 1 C dX0_begin_2 hin_X0_begin_X0 tyX0_ok nmX0 rfl rfl (by decide) (List.mem_of_getElem? (i := 1) rfl) rfl (tyX0_ok 1 (by decide)) rfl rfl (Nat.le_of_ble_eq_true rfl) rfl ?_
  refine j_aload_n 0 C dX0_begin_5 rfl rfl ?_
  refine j_iload_n 2 C dX0_begin_6 rfl rfl ?_
  refine j_iconst (v := 1) C dX0_begin_7 rfl ?_
  refine j_isub (x := nI v) (y := 1) (v := nI (v - 1)) C dX0_begin_8 (pk_sub (a := v) (b := 1) (by omega)) ?_
  refine j_put (Cn := RX0) (T := TX0) (N := 3) (ws' := [(cs, .inr (0, [.ref dg, .int (nI n), .int (nI (v - 1))])), (dg, jaL g 6 h)]) tyX0 0 2 C dX0_begin_9 hin_X0_begin_X0 tyX0_ok nmX0 rfl rfl (by decide) (List.mem_of_getElem? (i := 2) rfl) rfl (tyX0_ok 2 (by decide)) rfl rfl (Nat.le_of_ble_eq_true rfl) rfl ?_
  refine j_iconst (v := 0) C dX0_begin_12 rfl ?_
  refine j_istore_n (L' := [(0, .ref cs), (1, .int (nI n)), (2, .int (nI v)), (3, .int 0)]) C dX0_begin_13 rfl (Nat.le_of_ble_eq_true rfl) rfl rfl ?_
  refine j_loop (σ := Nat) (fun (x : Nat) => [(0, .ref cs), (1, .int (nI n)), (2, .int (nI v)), (3, .int (nI x))]) (fun (x : Nat) => [(cs, .inr (0, [.ref dg, .int (nI n), .int (nI (v - 1))])), (dg, jaL g 6 (jZL h x))]) (fun (x : Nat) => (x ≤ 6)) (fun (x : Nat) => 6 - x) (fun x_ hi_2 ih_1 => ?_) 0 (by omega) rfl (by rw [jZL_0])
  obtain ⟨x, hx_⟩ : ∃ z, z = x_ := ⟨_, rfl⟩
  subst hx_
  have hi_2_0 : (x ≤ 6) := hi_2
  refine j_eq (pc' := 14) (L' := [(0, .ref cs), (1, .int (nI n)), (2, .int (nI v)), (3, .int (nI x))]) (st' := []) (ws' := [(cs, .inr (0, [.ref dg, .int (nI n), .int (nI (v - 1))])), (dg, jaL g 6 (jZL h x))]) ?_ rfl rfl rfl rfl
  refine j_iload_n 3 C dX0_begin_14 rfl rfl ?_
  refine j_aload_n 0 C dX0_begin_15 rfl rfl ?_
  refine j_get (Cn := RX0) (T := TX0) (N := 3) 0 0 C dX0_begin_16 hin_X0_begin_X0 rfl rfl (by decide) (List.mem_of_getElem? (i := 3) rfl) rfl ?_
  refine j_alenL (v := 6) 1 C dX0_begin_19 rfl rfl ?_
  refine j_icmp_ge (tgt := 36) C dX0_begin_20 (by decide) (fun c_3 => ?_) (fun c_3 => ?_)
  · skip
    have c_3 : 6 ≤ x := (nI_leI (a := 6) (b := x) (by omega) (by omega)).mp c_3
    refine j_arrL (f' := fun _ => 0) (ws' := [(cs, .inr (0, [.ref dg, .int (nI n), .int (nI (v - 1))])), (dg, jaL g 6 (fun _ => 0))]) 1 rfl (fun i hi => if_pos (by omega)) rfl ?_
    exact j_vretW C hr dX0_begin_36 () trivial rfl
  · skip
    have c_3 : ¬ 6 ≤ x := fun z => c_3 ((nI_leI (a := 6) (b := x) (by omega) (by omega)).mpr z)
    refine j_aload_n 0 C dX0_begin_23 rfl rfl ?_
    refine j_get (Cn := RX0) (T := TX0) (N := 3) 0 0 C dX0_begin_24 hin_X0_begin_X0 rfl rfl (by decide) (List.mem_of_getElem? (i := 3) rfl) rfl ?_
    refine j_iload_n 3 C dX0_begin_27 rfl rfl ?_
    refine j_lconst (v := 0) C dX0_begin_28 rfl ?_
    refine j_lastN (x := x) (ws' := [(cs, .inr (0, [.ref dg, .int (nI n), .int (nI (v - 1))])), (dg, jaL g 6 (vp_updL (jZL h x) x 0))]) 1 C dX0_begin_29 rfl rfl (by omega) (by decide) rfl ?_
    refine j_iinc (v := nI (x + 1)) (L' := [(0, .ref cs), (1, .int (nI n)), (2, .int (nI v)), (3, .int (nI (x + 1)))]) 3 C dX0_begin_30 rfl (nI_add x 1) (Nat.le_of_ble_eq_true rfl) rfl rfl ?_
    refine j_goto (tgt := 14) C dX0_begin_33 (by decide) ?_
    refine j_eq (pc' := 14) (L' := [(0, .ref cs), (1, .int (nI n)), (2, .int (nI v)), (3, .int (nI (x + 1)))]) (st' := []) (ws' := [(cs, .inr (0, [.ref dg, .int (nI n), .int (nI (v - 1))])), (dg, jaL g 6 (jZL h (x + 1)))]) ?_ rfl rfl rfl (by rw [jZL_s])
    exact ih_1 (x + 1) (by omega) (show 6 - (x + 1) < 6 - x from by omega)
set_option maxHeartbeats 4000000 in
set_option maxRecDepth 100000 in
theorem c_X0_goOn (l : Launch) (g : jG) (cs dg n v0 : Nat) (h : Nat → Int64) (hn : n ≤ 6) : jWv l yX0_goOn wsX0_goOn ({ frames := 0, cells := 0, slots := 0, locals := 0 }) g [.ref cs] [(cs, .inr (0, [.ref dg, .int (nI n), .int (nI v0)])), (dg, jaL g 6 h)] [(cs, .inr (0, [.ref dg, .int (nI n), .int (nI v0)])), (dg, jaL g 6 (jInc (nI v0).toInt64 n h))] := by
  refine j_enterW (Qc := fun sz_ => va_Qv (fun (_ : Unit) => True) (fun _ t => va_P g.1 vwCl [(cs, .inr (0, [.ref dg, .int (nI n), .int (nI v0)])), (dg, jaL g 6 (jInc (nI v0).toInt64 n h))] t.heap) (va_A [(cs, .inr (0, [.ref dg, .int (nI n), .int (nI v0)])), (dg, jaL g 6 h)] sz_)) (cc := cX0_goOn) (maxL := 2) (ret := none) (own := RX0) (L := [(0, .ref cs)]) (by decide) rfl rfl (Nat.le_of_ble_eq_true rfl) rfl (fun p e s m args below meth c C hr => ?_)
  refine j_aload_n 0 C dX0_goOn_0 rfl rfl ?_
  refine j_get (Cn := RX0) (T := TX0) (N := 3) 0 1 C dX0_goOn_1 hin_X0_goOn_X0 rfl rfl (by decide) (List.mem_of_getElem? (i := 1) rfl) rfl ?_
  refine j_iconst (v := 1) C dX0_goOn_4 rfl ?_
  refine j_isub (x := nI n) (y := 1) (v := nI n - 1) C dX0_goOn_5 rfl ?_
  refine j_istore_n (L' := [(0, .ref cs), (1, .int (nI n - 1))]) C dX0_goOn_6 rfl (Nat.le_of_ble_eq_true rfl) rfl rfl ?_
  refine j_loop (σ := Nat × (Nat → Int64)) (fun (x9_ : Nat × (Nat → Int64)) => match x9_ with | (x, h1) => [(0, .ref cs), (1, .int (nI x - 1))]) (fun (x9_ : Nat × (Nat → Int64)) => match x9_ with | (x, h1) => [(cs, .inr (0, [.ref dg, .int (nI n), .int (nI v0)])), (dg, jaL g 6 h1)]) (fun (x9_ : Nat × (Nat → Int64)) => match x9_ with | (x, h1) => (x ≤ 6) ∧ (jInc (nI v0).toInt64 x h1 = jInc (nI v0).toInt64 n h)) (fun (x9_ : Nat × (Nat → Int64)) => match x9_ with | (x, h1) => x) (fun x_ hi_2 ih_1 => ?_) (n, h) ⟨hn, rfl⟩ rfl rfl
  obtain ⟨x, h1⟩ := x_
  obtain ⟨hI0, hI1⟩ := (show (x ≤ 6) ∧ (jInc (nI v0).toInt64 x h1 = jInc (nI v0).toInt64 n h) from hi_2)
  refine j_eq (pc' := 7) (L' := [(0, .ref cs), (1, .int (nI x - 1))]) (st' := []) (ws' := [(cs, .inr (0, [.ref dg, .int (nI n), .int (nI v0)])), (dg, jaL g 6 h1)]) ?_ rfl rfl rfl rfl
  refine j_iload_n 1 C dX0_goOn_7 rfl rfl ?_
  refine j_if_lt (tgt := 59) C dX0_goOn_8 (by decide) (fun c_3 => ?_) (fun c_3 => ?_)
  · skip
    obtain rfl : x = 0 := (jm_lt0 (by omega)).mp c_3
    exact j_vretW C hr dX0_goOn_59 () trivial (by rw [← hI1]; rfl)
  · skip
    have c_3 : ¬ x = 0 := fun z => c_3 ((jm_lt0 (by omega)).mpr z)
    obtain ⟨y, rfl⟩ : ∃ y, x = y + 1 := ⟨x - 1, by omega⟩
    refine j_eq (pc' := 11) (L' := [(0, .ref cs), (1, .int (nI y))]) (st' := []) (ws' := [(cs, .inr (0, [.ref dg, .int (nI n), .int (nI v0)])), (dg, jaL g 6 h1)]) ?_ rfl (by rw [jm_s]) rfl rfl
    refine j_iload_n 1 C dX0_goOn_11 rfl rfl ?_
    refine j_aload_n 0 C dX0_goOn_12 rfl rfl ?_
    refine j_get (Cn := RX0) (T := TX0) (N := 3) 0 0 C dX0_goOn_13 hin_X0_goOn_X0 rfl rfl (by decide) (List.mem_of_getElem? (i := 2) rfl) rfl ?_
    refine j_alenL (v := 6) 1 C dX0_goOn_16 rfl rfl ?_
    refine j_icmp_ge (tgt := 59) C dX0_goOn_17 (by decide) (fun c_4 => ?_) (fun c_4 => ?_)
    · skip
      have c_4 : 6 ≤ y := (nI_leI (a := 6) (b := y) (by omega) (by omega)).mp c_4
      exact absurd c_4 (by omega)
    · skip
      have c_4 : ¬ 6 ≤ y := fun z => c_4 ((nI_leI (a := 6) (b := y) (by omega) (by omega)).mpr z)
      refine j_aload_n 0 C dX0_goOn_20 rfl rfl ?_
      refine j_get (Cn := RX0) (T := TX0) (N := 3) 0 0 C dX0_goOn_21 hin_X0_goOn_X0 rfl rfl (by decide) (List.mem_of_getElem? (i := 2) rfl) rfl ?_
      refine j_iload_n 1 C dX0_goOn_24 rfl rfl ?_
      refine j_laldN (x := y) 1 C dX0_goOn_25 rfl rfl (by omega) (by decide) ?_
      refine j_aload_n 0 C dX0_goOn_26 rfl rfl ?_
      refine j_get (Cn := RX0) (T := TX0) (N := 3) 0 2 C dX0_goOn_27 hin_X0_goOn_X0 rfl rfl (by decide) (List.mem_of_getElem? (i := 3) rfl) rfl ?_
      refine j_i2l (v := (nI v0).toInt64) C dX0_goOn_30 rfl ?_
      refine j_lcmp_ge (tgt := 46) C dX0_goOn_31 dX0_goOn_32 (by decide) (fun c_5 => ?_) (fun c_5 => ?_)
      · skip
        refine j_aload_n 0 C dX0_goOn_46 rfl rfl ?_
        refine j_get (Cn := RX0) (T := TX0) (N := 3) 0 0 C dX0_goOn_47 hin_X0_goOn_X0 rfl rfl (by decide) (List.mem_of_getElem? (i := 2) rfl) rfl ?_
        refine j_iload_n 1 C dX0_goOn_50 rfl rfl ?_
        refine j_lconst (v := 0) C dX0_goOn_51 rfl ?_
        refine j_lastN (x := y) (ws' := [(cs, .inr (0, [.ref dg, .int (nI n), .int (nI v0)])), (dg, jaL g 6 (vp_updL h1 y 0))]) 1 C dX0_goOn_52 rfl rfl (by omega) (by decide) rfl ?_
        refine j_iinc (v := nI y - 1) (L' := [(0, .ref cs), (1, .int (nI y - 1))]) 1 C dX0_goOn_53 rfl (jm_m1 y) (Nat.le_of_ble_eq_true rfl) rfl rfl ?_
        refine j_goto (tgt := 7) C dX0_goOn_56 (by decide) ?_
        exact ih_1 (y, vp_updL h1 y 0) ⟨(by omega), (by rw [← hI1, jInc_s, if_pos (by assumption)])⟩ (show y < y + 1 from by omega)
      · skip
        refine j_aload_n 0 C dX0_goOn_35 rfl rfl ?_
        refine j_get (Cn := RX0) (T := TX0) (N := 3) 0 0 C dX0_goOn_36 hin_X0_goOn_X0 rfl rfl (by decide) (List.mem_of_getElem? (i := 2) rfl) rfl ?_
        refine j_iload_n 1 C dX0_goOn_39 rfl rfl ?_
        refine j_dup2 C dX0_goOn_40 rfl rfl ?_
        refine j_laldN (x := y) 1 C dX0_goOn_41 rfl rfl (by omega) (by decide) ?_
        refine j_lconst (v := 1) C dX0_goOn_42 rfl ?_
        refine j_ladd (v := (h1 y) + 1) C dX0_goOn_43 rfl ?_
        refine j_lastN (x := y) (ws' := [(cs, .inr (0, [.ref dg, .int (nI n), .int (nI v0)])), (dg, jaL g 6 (vp_updL h1 y ((h1 y) + 1)))]) 1 C dX0_goOn_44 rfl rfl (by omega) (by decide) rfl ?_
        exact j_vretW C hr dX0_goOn_45 () trivial (by rw [← hI1, jInc_s, if_neg (by assumption)])
