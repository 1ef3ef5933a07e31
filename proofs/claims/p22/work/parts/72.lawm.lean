/-! LAW 3: below, cell, more, with -/
def jBw (v n : Int32) : Int32 := (v &&& 2147483647) - (v &&& 2147483647) / n * n
theorem jBw_u (v : Int32) : ∃ u : Nat, u < 2 ^ 31 ∧ v &&& 2147483647 = nI u := by
  refine ⟨(v &&& 2147483647).toBitVec.toNat, ?_, ?_⟩
  · rw [Int32.toBitVec_and, BitVec.toNat_and]
    exact Nat.lt_of_le_of_lt Nat.and_le_right (by decide)
  · apply Int32.toBitVec_inj.mp
    show _ = BitVec.ofNat 32 _
    simp
theorem nI_rem {u N : Nat} (hu : u < 2 ^ 31) (h0 : 0 < N) (hN : N < 2 ^ 31) : nI u - nI u / nI N * nI N = nI (u % N) := by
  have h1 := Nat.div_add_mod u N
  have h2 : u / N * N = N * (u / N) := Nat.mul_comm _ _
  rw [pk_div hu h0 hN, pk_mul, pk_sub (by omega)]
  congr 1
  omega
theorem jBw_n (v : Int32) {N : Nat} (h0 : 0 < N) (hN : N < 2 ^ 31) : ∃ k, k < N ∧ jBw v (nI N) = nI k := by
  obtain ⟨u, hu, e⟩ := jBw_u v
  exact ⟨u % N, Nat.mod_lt _ h0, by unfold jBw; rw [e, nI_rem hu h0 hN]⟩
theorem hd_L_below : yL_below.cls ≠ "java/lang/invoke/MethodHandle" ∧ yL_below.cls ≠ "java/lang/invoke/VarHandle" ∧ (parseMethodDescriptor yL_below.desc).map (fun d => d.parameters.length) = some 2 := by decide +kernel
theorem hd_L_cell : yL_cell.cls ≠ "java/lang/invoke/MethodHandle" ∧ yL_cell.cls ≠ "java/lang/invoke/VarHandle" ∧ (parseMethodDescriptor yL_cell.desc).map (fun d => d.parameters.length) = some 2 := by decide +kernel
theorem hd_L_more : yL_more.cls ≠ "java/lang/invoke/MethodHandle" ∧ yL_more.cls ≠ "java/lang/invoke/VarHandle" ∧ (parseMethodDescriptor yL_more.desc).map (fun d => d.parameters.length) = some 2 := by decide +kernel
theorem hd_L_with : yL_with.cls ≠ "java/lang/invoke/MethodHandle" ∧ yL_with.cls ≠ "java/lang/invoke/VarHandle" ∧ (parseMethodDescriptor yL_with.desc).map (fun d => d.parameters.length) = some 4 := by decide +kernel
set_option maxHeartbeats 4000000 in
theorem c_L_below (l : Launch) (g : jG) (b Ln : Nat) (xs : Nat → Int32) (v n : Int32) (hn : ¬ n = 0) : jOs l yL_below wsL_below ({ frames := 0, cells := 0, slots := 0, locals := 0 }) g b Ln xs [.int v, .int n] [] (fun o w => o = .returned (some (.int (jBw v n))) ∧ w = []) := by
  refine j_enterS (cc := cL_below) (maxL := 2) (ret := (some .int)) (own := RL) (L := [(0, .int v), (1, .int n)]) (by decide) rfl rfl (Nat.le_of_ble_eq_true rfl) rfl (fun p e s m args below meth c C hr K => ?_)
  refine j_iload_n 0 C dL_below_0 rfl rfl ?_
  refine j_ldcI (v := 2147483647) C dL_below_1 (List.mem_of_getElem? (i := 1) rfl) ?_
  refine j_iand (v := v &&& 2147483647) C dL_below_3 rfl ?_
  refine j_iload_n 1 C dL_below_4 rfl rfl ?_
  refine j_irem (v := jBw v n) C dL_below_5 hn rfl ?_
  exact j_iretS (rt := .int) C hr dL_below_6 ⟨rfl, rfl⟩
set_option maxHeartbeats 4000000 in
theorem c_L_cell (l : Launch) (g : jG) (b Ln : Nat) (xs : Nat → Int32) (k : Nat) (hk : k < 2 ^ 30) (hL : Ln < 2 ^ 30) : jOs l yL_cell wsL_cell ({ frames := 0, cells := 0, slots := 0, locals := 0 }) g b Ln xs [.ref b, .int (nI k)] [] (fun o w => (∃ r : Int32, o = .returned (some (.int r))) ∧ w = []) := by
  refine j_enterS (cc := cL_cell) (maxL := 2) (ret := (some .int)) (own := RL) (L := [(0, .ref b), (1, .int (nI k))]) (by decide) rfl rfl (Nat.le_of_ble_eq_true rfl) rfl (fun p e s m args below meth c C hr K => ?_)
  refine j_iload_n 1 C dL_cell_0 rfl rfl ?_
  refine j_aload_n 0 C dL_cell_1 rfl rfl ?_
  refine j_slenS C K dL_cell_2 ?_
  refine j_icmp_ge (tgt := 12) C dL_cell_3 (by decide) (fun h => ?_) (fun h => ?_)
  · refine j_ldcI (v := 790386105) C dL_cell_12 (List.mem_of_getElem? (i := 1) rfl) ?_
    refine j_iload_n 1 C dL_cell_14 rfl rfl ?_
    refine j_iconst (v := 3) C dL_cell_15 rfl ?_
    refine j_iadd C dL_cell_16 rfl ?_
    refine j_imul C dL_cell_17 rfl ?_
    exact j_iretS (rt := .int) C hr dL_cell_18 ⟨⟨_, rfl⟩, rfl⟩
  · have hk2 : k < Ln := Nat.lt_of_not_le (fun z => h ((nI_leI (by omega) (by omega)).mpr z))
    refine j_aload_n 0 C dL_cell_6 rfl rfl ?_
    refine j_iload_n 1 C dL_cell_7 rfl rfl ?_
    refine j_sldS (x := k) C K dL_cell_8 rfl hk2 (by omega) ?_
    refine j_goto (tgt := 18) C dL_cell_9 (by decide) ?_
    exact j_iretS (rt := .int) C hr dL_cell_18 ⟨⟨_, rfl⟩, rfl⟩
section LAWM
variable {p : Program} {l : Launch} {e : Env} {R : Room} {s : State} {m : MethodId} {args : Array Value} {below : List Frame} {meth : Method} {c : Code} {Q : State → Prop} {A : Nat → Prop} {g : jG} {nL cells slots pc : Nat} {L : List (Nat × Value)} {st : List Value} {ws : va_W} {cc : ByteArray} {Ts : List Cond} {b Ln : Nat} {xs : Nat → Int32}
theorem j_below {v : Int32} (N : Nat) (h0 : 0 < N) (hN : N < 2 ^ 31) (C : jC p s m args meth c cc Ts RL nL A g) (K : jSc s b Ln xs A) (hG : GoodIn Ts (va_wsS RL 77 yL_below wsL_below)) (hR : 1 ≤ R.frames ∧ 21 ≤ R.locals) (hd : decode cc pc = .ok (.invokestatic 77, 3)) (hrm : (st.map fun v => v.category).sum ≤ 8) (hf : cells ≤ R.cells ∧ slots ≤ R.slots)
    (k : ∀ i, i < N → jJ p l e R s m args below meth c Q A g (va_S A s.heap) nL cells slots (pc + 3) L (.int (nI i) :: st) ws) : jJ p l e R s m args below meth c Q A g (va_S A s.heap) nL cells slots pc L (.int (nI N) :: .int v :: st) ws := by
  have hne : ¬ nI N = 0 := fun z => by
    have h1 := (nI_eq (a := N) (b := 0) hN (by decide)).mp z
    omega
  refine j_sS (Fx := ws) (V := []) (As := [.int v, .int (nI N)]) (rest := st) C K (c_L_below l g b Ln xs v (nI N) hne) (fun o w h => ⟨_, h.1⟩) hG rfl hd_L_below ⟨hR.1, hR.2⟩ (by rw [List.append_nil]) hd rfl hrm hf (fun v9 w h => ?_)
  obtain ⟨h1, rfl⟩ := h
  cases h1
  obtain ⟨i, hi, e⟩ := jBw_n v h0 hN
  rw [e, List.append_nil]
  exact k i hi
theorem j_scell {i : Int32} (x : Nat) (hx : x < 2 ^ 30) (hL : Ln < 2 ^ 30) (hi : i = nI x) (C : jC p s m args meth c cc Ts RL nL A g) (K : jSc s b Ln xs A) (hG : GoodIn Ts (va_wsS RL 73 yL_cell wsL_cell)) (hR : 1 ≤ R.frames ∧ 21 ≤ R.locals) (hd : decode cc pc = .ok (.invokestatic 73, 3)) (hrm : (st.map fun v => v.category).sum ≤ 8) (hf : cells ≤ R.cells ∧ slots ≤ R.slots)
    (k : ∀ r : Int32, jJ p l e R s m args below meth c Q A g (va_S A s.heap) nL cells slots (pc + 3) L (.int r :: st) ws) : jJ p l e R s m args below meth c Q A g (va_S A s.heap) nL cells slots pc L (.int i :: .ref b :: st) ws := by
  subst hi
  refine j_sS (Fx := ws) (V := []) (As := [.ref b, .int (nI x)]) (rest := st) C K (c_L_cell l g b Ln xs x hx hL) (fun o w h => by obtain ⟨⟨r, h1⟩, -⟩ := h; exact ⟨_, h1⟩) hG rfl hd_L_cell ⟨hR.1, hR.2⟩ (by rw [List.append_nil]) hd rfl hrm hf (fun v9 w h => ?_)
  obtain ⟨⟨r, h1⟩, rfl⟩ := h
  cases h1
  rw [List.append_nil]
  exact k r
end LAWM
-- more: the row's numbers stay in front
set_option maxHeartbeats 4000000 in
theorem c_L_more (l : Launch) (g : jG) (b Ln : Nat) (xs : Nat → Int32) (r v M : Nat) (F G : Nat → Int32) (hM : M ≤ 16) : jOs l yL_more wsL_more ({ frames := 0, cells := 1, slots := 20, locals := 0 }) g b Ln xs [.ref r, .ref v] [(r, jaI g M F), (v, jaI g 4 G)] (fun o w => ∃ (q : Nat) (F' : Nat → Int32), o = .returned (some (.ref q)) ∧ w = [(r, jaI g M F), (v, jaI g 4 G), (q, jaI g (M + 4) F')] ∧ ∀ i, i < M → F' i = F i) := by
  refine j_enterS (cc := cL_more) (maxL := 4) (ret := (some (.array .int))) (own := RL) (L := [(0, .ref r), (1, .ref v)]) (by decide) rfl rfl (Nat.le_of_ble_eq_true rfl) rfl (fun p e s m args below meth c C hr K => ?_)
  refine j_aload_n 0 C dL_more_0 rfl rfl ?_
  refine j_alenI (v := nI M) 0 C dL_more_1 rfl rfl ?_
  refine j_aload_n 1 C dL_more_2 rfl rfl ?_
  refine j_alenI (v := nI 4) 1 C dL_more_3 rfl rfl ?_
  refine j_iadd (v := nI (M + 4)) C dL_more_4 (nI_add M 4) ?_
  refine j_newaI (N := M + 4) C dL_more_5 (List.mem_of_getElem? (i := 1) rfl) rfl (by omega) ⟨Nat.le_of_ble_eq_true rfl, by show 0 + (M + 4) ≤ 20; omega⟩ (fun q => ?_)
  refine j_astore_n (L' := [(0, .ref r), (1, .ref v), (2, .ref q)]) C dL_more_7 rfl (Nat.le_of_ble_eq_true rfl) rfl rfl ?_
  refine j_iconst (v := 0) C dL_more_8 rfl ?_
  refine j_istore_n (L' := [(0, .ref r), (1, .ref v), (2, .ref q), (3, .int 0)]) C dL_more_9 rfl (Nat.le_of_ble_eq_true rfl) rfl rfl ?_
  refine j_widen (k := 1) (n := 20) (Nat.le_of_ble_eq_true rfl) (by omega) ?_
  refine j_loop (σ := Nat × (Nat → Int32)) (fun z => [(0, .ref r), (1, .ref v), (2, .ref q), (3, .int (nI z.1))]) (fun z => [(r, jaI g M F), (v, jaI g 4 G), (q, jaI g (M + 4) z.2)]) (fun z => z.1 ≤ M + 4 ∧ ∀ i, i < z.1 → i < M → z.2 i = F i) (fun z => M + 4 - z.1) (fun z hI ih => ?_) (0, fun _ => 0) ⟨Nat.zero_le _, fun i hi => absurd hi (Nat.not_lt_zero _)⟩ rfl rfl
  obtain ⟨x, F'⟩ := z
  obtain ⟨hx, hF⟩ := hI
  dsimp only at hx hF ih ⊢
  refine j_iload_n 3 C dL_more_10 rfl rfl ?_
  refine j_aload_n 2 C dL_more_11 rfl rfl ?_
  refine j_alenI (v := nI (M + 4)) 2 C dL_more_12 rfl rfl ?_
  refine j_icmp_ge (tgt := 43) C dL_more_13 (by decide) (fun h => ?_) (fun h => ?_)
  · have h1 := (nI_leI (by omega) (by omega)).mp h
    refine j_aload_n 2 C dL_more_43 rfl rfl ?_
    exact j_aretS C hr (Or.inr ⟨_, rfl⟩) dL_more_44 ⟨q, F', rfl, rfl, fun i hi => hF i (by omega) hi⟩
  · have h1 : x < M + 4 := Nat.lt_of_not_le (fun z => h ((nI_leI (by omega) (by omega)).mpr z))
    have fin : ∀ y : Int32, (x < M → y = F x) → jJ p l e (headSpec wsL_more ({ frames := 0, cells := 1, slots := 20, locals := 0 } : Room)).room s m args below meth c (MQ below (jQs (fun o w => ∃ (q : Nat) (F' : Nat → Int32), o = .returned (some (.ref q)) ∧ w = [(r, jaI g M F), (v, jaI g 4 G), (q, jaI g (M + 4) F')] ∧ ∀ i, i < M → F' i = F i) g (va_A [(r, jaI g M F), (v, jaI g 4 G)] s.heap.size)) args s 1 20 (va_A [(r, jaI g M F), (v, jaI g 4 G)] s.heap.size)) (va_A [(r, jaI g M F), (v, jaI g 4 G)] s.heap.size) g (va_S (va_A [(r, jaI g M F), (v, jaI g 4 G)] s.heap.size) s.heap) 4 1 20 36 [(0, .ref r), (1, .ref v), (2, .ref q), (3, .int (nI x))] [.int y, .int (nI x), .ref q] [(r, jaI g M F), (v, jaI g 4 G), (q, jaI g (M + 4) F')] := fun y hy => by
      refine j_iastN (x := x) (ws' := [(r, jaI g M F), (v, jaI g 4 G), (q, jaI g (M + 4) (upd F' x y))]) 2 C dL_more_36 rfl rfl h1 (by omega) rfl ?_
      refine j_iinc (v := nI (x + 1)) (L' := [(0, .ref r), (1, .ref v), (2, .ref q), (3, .int (nI (x + 1)))]) 3 C dL_more_37 rfl (nI_add x 1) (Nat.le_of_ble_eq_true rfl) rfl rfl ?_
      refine j_goto (tgt := 10) C dL_more_40 (by decide) ?_
      refine ih (x + 1, upd F' x y) ⟨h1, fun i hi hM2 => ?_⟩ (by show M + 4 - (x + 1) < M + 4 - x; omega)
      show upd F' x y i = F i
      unfold upd
      by_cases e9 : i = x
      · rw [if_pos e9, e9]; exact hy (by omega)
      · have hi2 : i < x + 1 := hi
        rw [if_neg e9]; exact hF i (by omega) hM2
    refine j_aload_n 2 C dL_more_16 rfl rfl ?_
    refine j_iload_n 3 C dL_more_17 rfl rfl ?_
    refine j_iload_n 3 C dL_more_18 rfl rfl ?_
    refine j_aload_n 0 C dL_more_19 rfl rfl ?_
    refine j_alenI (v := nI M) 0 C dL_more_20 rfl rfl ?_
    refine j_icmp_ge (tgt := 30) C dL_more_21 (by decide) (fun h2 => ?_) (fun h2 => ?_)
    · have h3 := (nI_leI (by omega) (by omega)).mp h2
      refine j_aload_n 1 C dL_more_30 rfl rfl ?_
      refine j_iload_n 3 C dL_more_31 rfl rfl ?_
      refine j_aload_n 0 C dL_more_32 rfl rfl ?_
      refine j_alenI (v := nI M) 0 C dL_more_33 rfl rfl ?_
      refine j_isub (v := nI (x - M)) C dL_more_34 (pk_sub h3) ?_
      refine j_ialdN (x := x - M) 1 C dL_more_35 rfl rfl (by omega) (by decide) ?_
      exact fin _ (fun z => by omega)
    · have h3 : x < M := Nat.lt_of_not_le (fun z => h2 ((nI_leI (by omega) (by omega)).mpr z))
      refine j_aload_n 0 C dL_more_24 rfl rfl ?_
      refine j_iload_n 3 C dL_more_25 rfl rfl ?_
      refine j_ialdN (x := x) 0 C dL_more_26 rfl rfl h3 (by omega) ?_
      refine j_goto (tgt := 36) C dL_more_27 (by decide) ?_
      exact fin _ (fun _ => rfl)
abbrev jLF (g : jG) (r : Nat → Nat) (M : Nat → Nat) (F : Nat → Nat → Int32) : Nat → Nat × va_E := fun i => (r i, jaI g (M i) (F i))
theorem jpl_at {F : Nat → Nat × va_E} {N x : Nat} (h : x < N) : (jpl F N)[x]? = some (F x) := by
  unfold jpl
  rw [List.getElem?_map, List.getElem?_range h]
  rfl
-- with: one loop more behind the others
set_option maxHeartbeats 4000000 in
theorem c_L_with (l : Launch) (g : jG) (b Ln : Nat) (xs : Nat → Int32) (P V k : Nat) (T T1 : Nat → Option Nat) (r M : Nat → Nat) (F : Nat → Nat → Int32) (hk : k ≤ 4) (hT : ∀ i, i < k → T i = some (r i)) (hT1 : T1 0 = some (r k)) : jOs l yL_with wsL_with ({ frames := 0, cells := 1, slots := 5, locals := 0 }) g b Ln xs [.ref P, .int (nI k), .int 0, .ref V] ((P, jaR g k T) :: (V, jaR g 1 T1) :: jpl (jLF g r M F) (k + 1)) (fun o w => ∃ (q : Nat) (T' : Nat → Option Nat), o = .returned (some (.ref q)) ∧ w = (q, jaR g (k + 1) T') :: (P, jaR g k T) :: (V, jaR g 1 T1) :: jpl (jLF g r M F) (k + 1) ∧ ∀ i, i < k + 1 → T' i = some (r i)) := by
  refine j_enterS (cc := cL_with) (maxL := 6) (ret := (some (.array (.array .int)))) (own := RL) (L := [(0, .ref P), (1, .int (nI k)), (2, .int 0), (3, .ref V)]) (by decide) rfl rfl (Nat.le_of_ble_eq_true rfl) rfl (fun p e s m args below meth c C hr K => ?_)
  refine j_aload_n 0 C dL_with_0 rfl rfl ?_
  refine j_alenR 0 C dL_with_1 rfl ?_
  refine j_iload_n 2 C dL_with_2 rfl rfl ?_
  refine j_isub (v := nI k) C dL_with_3 (pk_sub (a := k) (b := 0) (Nat.zero_le _)) ?_
  refine j_aload_n 3 C dL_with_4 rfl rfl ?_
  refine j_alenR 1 C dL_with_5 rfl ?_
  refine j_iadd (v := nI (k + 1)) C dL_with_6 (nI_add k 1) ?_
  refine j_anewR (N := k + 1) C K.1 dL_with_7 (List.mem_of_getElem? (i := 1) rfl) rfl (by omega) ⟨Nat.le_of_ble_eq_true rfl, by show 0 + (k + 1) ≤ 5; omega⟩ (fun q => ?_)
  refine j_perm (ws' := (q, jaR g (k + 1) (fun _ => none)) :: (P, jaR g k T) :: (V, jaR g 1 T1) :: jpl (jLF g r M F) (k + 1)) (List.perm_append_singleton _ _).symm ?_
  refine j_astore (L' := [(0, .ref P), (1, .int (nI k)), (2, .int 0), (3, .ref V), (4, .ref q)]) C dL_with_10 (Nat.le_of_ble_eq_true rfl) rfl rfl ?_
  refine j_iconst (v := 0) C dL_with_12 rfl ?_
  refine j_istore (L' := [(0, .ref P), (1, .int (nI k)), (2, .int 0), (3, .ref V), (4, .ref q), (5, .int 0)]) C dL_with_13 (Nat.le_of_ble_eq_true rfl) rfl rfl ?_
  refine j_widen (k := 1) (n := 5) (Nat.le_of_ble_eq_true rfl) (by omega) ?_
  refine j_loop (σ := Nat × (Nat → Option Nat)) (fun z => [(0, .ref P), (1, .int (nI k)), (2, .int 0), (3, .ref V), (4, .ref q), (5, .int (nI z.1))]) (fun z => (q, jaR g (k + 1) z.2) :: (P, jaR g k T) :: (V, jaR g 1 T1) :: jpl (jLF g r M F) (k + 1)) (fun z => z.1 ≤ k + 1 ∧ ∀ i, i < z.1 → z.2 i = some (r i)) (fun z => k + 1 - z.1) (fun z hI ih => ?_) (0, fun _ => none) ⟨Nat.zero_le _, fun i hi => absurd hi (Nat.not_lt_zero _)⟩ rfl rfl
  obtain ⟨x, T'⟩ := z
  obtain ⟨hx, hF⟩ := hI
  dsimp only at hx hF ih ⊢
  refine j_iload 5 C dL_with_15 rfl ?_
  refine j_aload 4 C dL_with_17 rfl ?_
  refine j_alenR 0 C dL_with_19 rfl ?_
  refine j_icmp_ge (tgt := 74) C dL_with_20 (by decide) (fun h => ?_) (fun h => ?_)
  · have h1 := (nI_leI (by omega) (by omega)).mp h
    refine j_aload 4 C dL_with_74 rfl ?_
    exact j_aretS C hr (Or.inr ⟨_, rfl⟩) dL_with_76 ⟨q, T', rfl, rfl, fun i hi => hF i (by omega)⟩
  · have h1 : x < k + 1 := Nat.lt_of_not_le (fun z => h ((nI_leI (by omega) (by omega)).mpr z))
    have fin : ∀ y : Value, y = .ref (r x) → jJ p l e (headSpec wsL_with ({ frames := 0, cells := 1, slots := 5, locals := 0 } : Room)).room s m args below meth c (MQ below (jQs (fun o w => ∃ (q : Nat) (T' : Nat → Option Nat), o = .returned (some (.ref q)) ∧ w = (q, jaR g (k + 1) T') :: (P, jaR g k T) :: (V, jaR g 1 T1) :: jpl (jLF g r M F) (k + 1) ∧ ∀ i, i < k + 1 → T' i = some (r i)) g (va_A ((P, jaR g k T) :: (V, jaR g 1 T1) :: jpl (jLF g r M F) (k + 1)) s.heap.size)) args s 1 5 (va_A ((P, jaR g k T) :: (V, jaR g 1 T1) :: jpl (jLF g r M F) (k + 1)) s.heap.size)) (va_A ((P, jaR g k T) :: (V, jaR g 1 T1) :: jpl (jLF g r M F) (k + 1)) s.heap.size) g (va_S (va_A ((P, jaR g k T) :: (V, jaR g 1 T1) :: jpl (jLF g r M F) (k + 1)) s.heap.size) s.heap) 6 1 5 67 [(0, .ref P), (1, .int (nI k)), (2, .int 0), (3, .ref V), (4, .ref q), (5, .int (nI x))] [y, .int (nI x), .ref q] ((q, jaR g (k + 1) T') :: (P, jaR g k T) :: (V, jaR g 1 T1) :: jpl (jLF g r M F) (k + 1)) := fun y hy => by
      subst hy
      refine j_astR (x := x) (N := M x) (fv := F x) (ws' := (q, jaR g (k + 1) (va_up T' x (some (r x)))) :: (P, jaR g k T) :: (V, jaR g 1 T1) :: jpl (jLF g r M F) (k + 1)) 0 (x + 3) C K.1 dL_with_67 rfl (by show (jpl (jLF g r M F) (k + 1))[x]? = _; exact jpl_at h1) rfl h1 (by omega) rfl ?_
      refine j_iinc (v := nI (x + 1)) (L' := [(0, .ref P), (1, .int (nI k)), (2, .int 0), (3, .ref V), (4, .ref q), (5, .int (nI (x + 1)))]) 5 C dL_with_68 rfl (nI_add x 1) (Nat.le_of_ble_eq_true rfl) rfl rfl ?_
      refine j_goto (tgt := 15) C dL_with_71 (by decide) ?_
      refine ih (x + 1, va_up T' x (some (r x))) ⟨h1, fun i hi => ?_⟩ (by show k + 1 - (x + 1) < k + 1 - x; omega)
      show va_up T' x (some (r x)) i = some (r i)
      unfold va_up
      by_cases e9 : i = x
      · rw [if_pos e9, e9]
      · have hi2 : i < x + 1 := hi
        rw [if_neg e9]; exact hF i (by omega)
    refine j_aload 4 C dL_with_23 rfl ?_
    refine j_iload 5 C dL_with_25 rfl ?_
    refine j_iload 5 C dL_with_27 rfl ?_
    refine j_iload_n 1 C dL_with_29 rfl rfl ?_
    refine j_icmp_ge (tgt := 40) C dL_with_30 (by decide) (fun h2 => ?_) (fun h2 => ?_)
    · have h3 := (nI_leI (by omega) (by omega)).mp h2
      refine j_iload 5 C dL_with_40 rfl ?_
      refine j_iload_n 1 C dL_with_42 rfl rfl ?_
      refine j_aload_n 3 C dL_with_43 rfl rfl ?_
      refine j_alenR 2 C dL_with_44 rfl ?_
      refine j_iadd (v := nI (k + 1)) C dL_with_45 (nI_add k 1) ?_
      refine j_icmp_ge (tgt := 58) C dL_with_46 (by decide) (fun h4 => ?_) (fun h4 => ?_)
      · have h5 := (nI_leI (by omega) (by omega)).mp h4
        exact absurd h5 (by omega)
      · have hxk : x = k := by omega
        refine j_aload_n 3 C dL_with_49 rfl rfl ?_
        refine j_iload 5 C dL_with_50 rfl ?_
        refine j_iload_n 1 C dL_with_52 rfl rfl ?_
        refine j_isub (v := nI 0) C dL_with_53 (by rw [hxk, pk_sub (Nat.le_refl _), Nat.sub_self]) ?_
        refine j_aldR (x := 0) 2 C dL_with_54 rfl rfl (by decide) (by decide) ?_
        refine j_goto (tgt := 67) C dL_with_55 (by decide) ?_
        exact fin _ (by rw [hT1, hxk]; rfl)
    · have h3 : x < k := Nat.lt_of_not_le (fun z => h2 ((nI_leI (by omega) (by omega)).mpr z))
      refine j_aload_n 0 C dL_with_33 rfl rfl ?_
      refine j_iload 5 C dL_with_34 rfl ?_
      refine j_aldR (x := x) 1 C dL_with_36 rfl rfl h3 (by omega) ?_
      refine j_goto (tgt := 67) C dL_with_37 (by decide) ?_
      exact fin _ (by rw [hT x h3]; rfl)
