set_option maxRecDepth 100000 in
theorem hin_X4_cost_X4 : ∀ w ∈ u_ws RX4 TX4 8, w ∈ wsX4_cost := fun w h => List.mem_cons_of_mem _ (by exact List.mem_append_left _ (List.mem_append_left _ (List.mem_append_left _ (List.mem_append_left _ (List.mem_append_left _ (List.mem_append_right _ h))))))
set_option maxRecDepth 100000 in
theorem hin_X4_cost_X0 : ∀ w ∈ u_ws RX0 TX0 3, w ∈ wsX4_cost := fun w h => List.mem_cons_of_mem _ (by exact List.mem_append_left _ (List.mem_append_left _ (List.mem_append_left _ (List.mem_append_left _ (List.mem_append_right _ h)))))
theorem hd_X3_countLooks : yX3_countLooks.cls = RX3 ∧ yX3_countLooks.cls ≠ "java/lang/invoke/MethodHandle" ∧ yX3_countLooks.cls ≠ "java/lang/invoke/VarHandle" ∧ (parseMethodDescriptor yX3_countLooks.desc).map (fun d => d.parameters.length) = some 0 := by decide +kernel
set_option maxRecDepth 100000 in
theorem hin_X4_exits_X4 : ∀ w ∈ u_ws RX4 TX4 8, w ∈ wsX4_exits := fun w h => List.mem_cons_of_mem _ (by exact List.mem_append_left _ (List.mem_append_left _ (List.mem_append_left _ (List.mem_append_left _ (List.mem_append_left _ (List.mem_append_right _ h))))))
set_option maxRecDepth 100000 in
theorem hin_X4_exits_X0 : ∀ w ∈ u_ws RX0 TX0 3, w ∈ wsX4_exits := fun w h => List.mem_cons_of_mem _ (by exact List.mem_append_left _ (List.mem_append_left _ (List.mem_append_left _ (List.mem_append_left _ (List.mem_append_right _ h)))))
set_option maxRecDepth 100000 in
theorem hin_X4_digest_X4 : ∀ w ∈ u_ws RX4 TX4 8, w ∈ wsX4_digest := fun w h => List.mem_cons_of_mem _ (by exact List.mem_append_left _ (List.mem_append_left _ (List.mem_append_right _ h)))
theorem hd_X1_mixInto : yX1_mixInto.cls = RX1 ∧ yX1_mixInto.cls ≠ "java/lang/invoke/MethodHandle" ∧ yX1_mixInto.cls ≠ "java/lang/invoke/VarHandle" ∧ (parseMethodDescriptor yX1_mixInto.desc).map (fun d => d.parameters.length) = some 1 := by decide +kernel
set_option maxHeartbeats 4000000 in
set_option maxRecDepth 100000 in
theorem c_X4_cost_true (l : Launch) (g : jG) (x0 mp N rp : Nat) (rl : Int32) (lt p1 p2 cz : Nat) (T : Nat → Option Nat) (k : Nat) (q ca n : Nat) (f : Nat → Int32) (dg : Nat) (ln gd : Int32) (h0 : Nat → Int64) (v1 : Nat) (lka cda : Int32) (wa : Nat → Int64) (d v : Nat) (hk : k < N) (hN : N ≤ 10) (hq : T k = some q) (hok : jOk n f) (hd : d ≤ 6) (hv : v ≤ 4) (hv1 : 1 ≤ v) (hp : v ^ d ≤ 1024) (hI : ∀ x, x + 1 < v ^ d → jInc (nI (v - 1)).toInt64 d (jCs d v x) = jCs d v (x + 1)) : jXi l yX4_cost wsX4_cost ({ frames := 6, cells := 0, slots := 0, locals := 148 }) g [.ref x0, .int (nI k), .int (nI d), .int (nI v), .int (jb true)] [(x0, .inr (3, [.ref mp, .int (nI N), .ref rp, .int rl, .ref lt, .ref p1, .ref p2, .ref cz])), (mp, jaP g 10 T), (q, .inr (1, [.ref ca, .int (nI n)])), (ca, jaI g 224 f), (cz, .inr (0, [.ref dg, .int ln, .int gd])), (dg, jaL g 6 h0), (p1, .inr (2, [.ref v1, .int lka, .int cda])), (v1, jaL g 4 wa)] (fun (u9_ : Int32 × Int32 × (Nat → Int64) × (Nat → Int64)) => [(x0, .inr (3, [.ref mp, .int (nI N), .ref rp, .int rl, .ref lt, .ref p1, .ref p2, .ref cz])), (mp, jaP g 10 T), (q, .inr (1, [.ref ca, .int (nI n)])), (ca, jaI g 224 f), (cz, .inr (0, [.ref dg, .int (nI d), .int (nI (v - 1))])), (dg, jaL g 6 u9_.2.2.2), (p1, .inr (2, [.ref v1, .int u9_.1, .int u9_.2.1])), (v1, jaL g 4 u9_.2.2.1)]) (jCo true (jKx n f d v) (v ^ d) 0 0) := by
  refine j_enterW (y := yX4_cost) (wsy := wsX4_cost) (rm := { frames := 6, cells := 0, slots := 0, locals := 148 }) (g := g) (As := [.ref x0, .int (nI k), .int (nI d), .int (nI v), .int (jb true)]) (wc := [(x0, .inr (3, [.ref mp, .int (nI N), .ref rp, .int rl, .ref lt, .ref p1, .ref p2, .ref cz])), (mp, jaP g 10 T), (q, .inr (1, [.ref ca, .int (nI n)])), (ca, jaI g 224 f), (cz, .inr (0, [.ref dg, .int ln, .int gd])), (dg, jaL g 6 h0), (p1, .inr (2, [.ref v1, .int lka, .int cda])), (v1, jaL g 4 wa)]) (mc := 0) (ms := 0) (Qc := fun sz_ => va_Qi (fun r (_ : Int32 × Int32 × (Nat → Int64) × (Nat → Int64)) => r = jCo true (jKx n f d v) (v ^ d) 0 0) (fun u t => va_P g.1 vwCl ((fun (u9_ : Int32 × Int32 × (Nat → Int64) × (Nat → Int64)) => [(x0, .inr (3, [.ref mp, .int (nI N), .ref rp, .int rl, .ref lt, .ref p1, .ref p2, .ref cz])), (mp, jaP g 10 T), (q, .inr (1, [.ref ca, .int (nI n)])), (ca, jaI g 224 f), (cz, .inr (0, [.ref dg, .int (nI d), .int (nI (v - 1))])), (dg, jaL g 6 u9_.2.2.2), (p1, .inr (2, [.ref v1, .int u9_.1, .int u9_.2.1])), (v1, jaL g 4 u9_.2.2.1)]) u) t.heap) (va_A [(x0, .inr (3, [.ref mp, .int (nI N), .ref rp, .int rl, .ref lt, .ref p1, .ref p2, .ref cz])), (mp, jaP g 10 T), (q, .inr (1, [.ref ca, .int (nI n)])), (ca, jaI g 224 f), (cz, .inr (0, [.ref dg, .int ln, .int gd])), (dg, jaL g 6 h0), (p1, .inr (2, [.ref v1, .int lka, .int cda])), (v1, jaL g 4 wa)] sz_)) (cc := cX4_cost) (maxL := 11) (ret := (some .int)) (own := RX4) (L := [(0, .ref x0), (1, .int (nI k)), (2, .int (nI d)), (3, .int (nI v)), (4, .int (jb true))]) (by decide) rfl rfl (Nat.le_of_ble_eq_true rfl) rfl (fun p e s m args below meth c C hr => ?_)
  refine j_aload_n 0 C dX4_cost_0 rfl rfl ?_
  refine j_iload_n 1 C dX4_cost_1 rfl rfl ?_
  refine j_callRr (v := q) (j_runV (ci := 0) (As := [.int (nI k)]) (rest := []) [0, 1] C (c_X4_programAt l g x0 mp N rp rl lt p1 p2 cz T k q (by omega) (by omega) hq) gX4_cost_X4_programAt rfl rfl rfl hd_X4_programAt ⟨Nat.le_of_ble_eq_true rfl, Nat.le_of_ble_eq_true rfl⟩ rfl rfl rfl rfl dX4_cost_2 rfl (Nat.le_of_ble_eq_true rfl) ⟨Nat.le_of_ble_eq_true rfl, Nat.le_of_ble_eq_true rfl⟩) ?_
  refine j_astore (L' := [(0, .ref x0), (1, .int (nI k)), (2, .int (nI d)), (3, .int (nI v)), (4, .int (jb true)), (5, .ref q)]) C dX4_cost_5 (Nat.le_of_ble_eq_true rfl) rfl rfl ?_
  refine j_iload_n 2 C dX4_cost_7 rfl rfl ?_
  refine j_iload_n 3 C dX4_cost_8 rfl rfl ?_
  refine j_callRi (v := nI (v ^ d)) (j_runS (As := [.int (nI d), .int (nI v)]) (rest := []) [] C (c_X4_checkedRows l g d v (by omega) (by omega) (by omega) (by omega)) gX4_cost_X4_checkedRows rfl rfl rfl hd_X4_checkedRows ⟨Nat.le_of_ble_eq_true rfl, Nat.le_of_ble_eq_true rfl⟩ rfl rfl dX4_cost_9 rfl (Nat.le_of_ble_eq_true rfl) ⟨Nat.le_of_ble_eq_true rfl, Nat.le_of_ble_eq_true rfl⟩) ?_
  refine j_istore (L' := [(0, .ref x0), (1, .int (nI k)), (2, .int (nI d)), (3, .int (nI v)), (4, .int (jb true)), (5, .ref q), (6, .int (nI (v ^ d)))]) C dX4_cost_12 (Nat.le_of_ble_eq_true rfl) rfl rfl ?_
  refine j_iconst (v := 0) C dX4_cost_14 rfl ?_
  refine j_istore (L' := [(0, .ref x0), (1, .int (nI k)), (2, .int (nI d)), (3, .int (nI v)), (4, .int (jb true)), (5, .ref q), (6, .int (nI (v ^ d))), (7, .int 0)]) C dX4_cost_15 (Nat.le_of_ble_eq_true rfl) rfl rfl ?_
  refine j_iconst (v := 0) C dX4_cost_17 rfl ?_
  refine j_istore (L' := [(0, .ref x0), (1, .int (nI k)), (2, .int (nI d)), (3, .int (nI v)), (4, .int (jb true)), (5, .ref q), (6, .int (nI (v ^ d))), (7, .int 0), (8, .int 0)]) C dX4_cost_18 (Nat.le_of_ble_eq_true rfl) rfl rfl ?_
  refine j_aload_n 0 C dX4_cost_20 rfl rfl ?_
  refine j_get (Cn := RX4) (T := TX4) (N := 8) 0 7 C dX4_cost_21 hin_X4_cost_X4 rfl rfl (by decide) (List.mem_of_getElem? (i := 1) rfl) rfl ?_
  refine j_iload_n 2 C dX4_cost_24 rfl rfl ?_
  refine j_iload_n 3 C dX4_cost_25 rfl rfl ?_
  refine j_callWv [4, 5] (fun _ => [(x0, .inr (3, [.ref mp, .int (nI N), .ref rp, .int rl, .ref lt, .ref p1, .ref p2, .ref cz])), (mp, jaP g 10 T), (q, .inr (1, [.ref ca, .int (nI n)])), (ca, jaI g 224 f), (cz, .inr (0, [.ref dg, .int (nI d), .int (nI (v - 1))])), (dg, jaL g 6 (fun _ => 0)), (p1, .inr (2, [.ref v1, .int lka, .int cda])), (v1, jaL g 4 wa)]) C (j_runV (ci := 4) (As := [.int (nI d), .int (nI v)]) (rest := []) [4, 5] C (c_X0_begin l g cz dg ln gd h0 d v (by omega)) gX4_cost_X0_begin rfl rfl rfl hd_X0_begin ⟨Nat.le_of_ble_eq_true rfl, Nat.le_of_ble_eq_true rfl⟩ rfl rfl rfl rfl dX4_cost_26 rfl (Nat.le_of_ble_eq_true rfl) ⟨Nat.le_of_ble_eq_true rfl, Nat.le_of_ble_eq_true rfl⟩) rfl (fun _ => rfl) (fun _ => rfl) (fun _ _ => ?_)
  refine j_iconst (v := 0) C dX4_cost_29 rfl ?_
  refine j_istore (L' := [(0, .ref x0), (1, .int (nI k)), (2, .int (nI d)), (3, .int (nI v)), (4, .int (jb true)), (5, .ref q), (6, .int (nI (v ^ d))), (7, .int 0), (8, .int 0), (9, .int 0)]) C dX4_cost_30 (Nat.le_of_ble_eq_true rfl) rfl rfl ?_
  refine j_pick (L' := [(0, .ref x0), (1, .int (nI k)), (2, .int (nI d)), (3, .int (nI v)), (4, .int (jb true)), (5, .ref q), (6, .int (nI (v ^ d))), (7, .int 0), (8, .int 0), (9, .int 0)]) [0, 1, 2, 3, 4, 5, 6, 7, 8, 9] rfl ?_
  refine j_loop (σ := Nat × Int32 × Int32 × Int32 × Int32 × (Nat → Int64) × (Nat → Int64)) (fun (x9_ : Nat × Int32 × Int32 × Int32 × Int32 × (Nat → Int64) × (Nat → Int64)) => match x9_ with | (x, t, z, lk1, cd1, w1, h) => [(0, .ref x0), (1, .int (nI k)), (2, .int (nI d)), (3, .int (nI v)), (4, .int (jb true)), (5, .ref q), (6, .int (nI (v ^ d))), (7, .int t), (8, .int z), (9, .int (nI x))]) (fun (x9_ : Nat × Int32 × Int32 × Int32 × Int32 × (Nat → Int64) × (Nat → Int64)) => match x9_ with | (x, t, z, lk1, cd1, w1, h) => [(x0, .inr (3, [.ref mp, .int (nI N), .ref rp, .int rl, .ref lt, .ref p1, .ref p2, .ref cz])), (mp, jaP g 10 T), (q, .inr (1, [.ref ca, .int (nI n)])), (ca, jaI g 224 f), (cz, .inr (0, [.ref dg, .int (nI d), .int (nI (v - 1))])), (dg, jaL g 6 h), (p1, .inr (2, [.ref v1, .int lk1, .int cd1])), (v1, jaL g 4 w1)]) (fun (x9_ : Nat × Int32 × Int32 × Int32 × Int32 × (Nat → Int64) × (Nat → Int64)) => match x9_ with | (x, t, z, lk1, cd1, w1, h) => (x ≤ v ^ d) ∧ (jCo true (jKx n f d v) (v ^ d - x) x t = jCo true (jKx n f d v) (v ^ d) 0 0) ∧ (jCo false (jKx n f d v) (v ^ d - x) x z = jCo false (jKx n f d v) (v ^ d) 0 0) ∧ (x < v ^ d → h = jCs d v x)) (fun (x9_ : Nat × Int32 × Int32 × Int32 × Int32 × (Nat → Int64) × (Nat → Int64)) => match x9_ with | (x, t, z, lk1, cd1, w1, h) => v ^ d - x) (fun x_ hi_2 ih_1 => ?_) (0, 0, 0, lka, cda, wa, fun _ => 0) ⟨(by omega), rfl, rfl, (fun _ => (jCs_0 d v).symm)⟩ rfl rfl
  obtain ⟨x, t, z, lk1, cd1, w1, h⟩ := x_
  obtain ⟨hI0, hI1, hI2, hH⟩ := (show (x ≤ v ^ d) ∧ (jCo true (jKx n f d v) (v ^ d - x) x t = jCo true (jKx n f d v) (v ^ d) 0 0) ∧ (jCo false (jKx n f d v) (v ^ d - x) x z = jCo false (jKx n f d v) (v ^ d) 0 0) ∧ (x < v ^ d → h = jCs d v x) from hi_2)
  refine j_eq (pc' := 32) (L' := [(0, .ref x0), (1, .int (nI k)), (2, .int (nI d)), (3, .int (nI v)), (4, .int (jb true)), (5, .ref q), (6, .int (nI (v ^ d))), (7, .int t), (8, .int z), (9, .int (nI x))]) (st' := []) (ws' := [(x0, .inr (3, [.ref mp, .int (nI N), .ref rp, .int rl, .ref lt, .ref p1, .ref p2, .ref cz])), (mp, jaP g 10 T), (q, .inr (1, [.ref ca, .int (nI n)])), (ca, jaI g 224 f), (cz, .inr (0, [.ref dg, .int (nI d), .int (nI (v - 1))])), (dg, jaL g 6 h), (p1, .inr (2, [.ref v1, .int lk1, .int cd1])), (v1, jaL g 4 w1)]) ?_ rfl rfl rfl rfl
  refine j_iload 9 C dX4_cost_32 rfl ?_
  refine j_iload 6 C dX4_cost_34 rfl ?_
  refine j_icmp_ge (tgt := 107) C dX4_cost_36 (by decide) (fun c_3 => ?_) (fun c_3 => ?_)
  · skip
    have c_3 : (v ^ d) ≤ x := (nI_leI (a := v ^ d) (b := x) (by omega) (by omega)).mp c_3
    refine j_iload 4 C dX4_cost_107 rfl ?_
    refine j_if_eq (tgt := 117) C dX4_cost_109 (by decide) (fun c_4 => ?_) (fun c_4 => ?_)
    · skip
      have c_4 : true = false := jb_0 c_4
      (first | exact absurd c_4 (by decide) | exact absurd c_4 (by omega) | simp_all)
    · skip
      have c_4 : true = true := jb_1 c_4
      refine j_iload 7 C dX4_cost_112 rfl ?_
      refine j_goto (tgt := 119) C dX4_cost_114 (by decide) ?_
      exact j_iretW (v := t) C hr dX4_cost_119 (lk1, cd1, w1, h) (by first | (rw [← hI1, show v ^ d - x = 0 by omega]; rfl) | (rw [← hI2, show v ^ d - x = 0 by omega]; rfl)) rfl
  · skip
    have c_3 : ¬ (v ^ d) ≤ x := fun z => c_3 ((nI_leI (a := v ^ d) (b := x) (by omega) (by omega)).mpr z)
    have hc := hH (by omega)
    obtain ⟨r1, hr1⟩ : ∃ r, jRn n f h d = r := ⟨_, rfl⟩
    have hK : (jKx n f d v) x = r1.2.1 := by rw [← hr1, hc]; rfl
    refine j_aload_n 0 C dX4_cost_39 rfl rfl ?_
    refine j_get (Cn := RX4) (T := TX4) (N := 8) 0 5 C dX4_cost_40 hin_X4_cost_X4 rfl rfl (by decide) (List.mem_of_getElem? (i := 2) rfl) rfl ?_
    refine j_aload 5 C dX4_cost_43 rfl ?_
    refine j_aload_n 0 C dX4_cost_45 rfl rfl ?_
    refine j_get (Cn := RX4) (T := TX4) (N := 8) 0 7 C dX4_cost_46 hin_X4_cost_X4 rfl rfl (by decide) (List.mem_of_getElem? (i := 1) rfl) rfl ?_
    refine j_getN (Cn := RX0) (T := TX0) (N := 3) 4 0 C dX4_cost_49 hin_X4_cost_X0 rfl rfl (by decide) C.2.2.2.2.2.2.1.2.2.2.2.2.2.2.1 rfl ?_
    refine j_aload_n 0 C dX4_cost_52 rfl rfl ?_
    refine j_get (Cn := RX4) (T := TX4) (N := 8) 0 7 C dX4_cost_53 hin_X4_cost_X4 rfl rfl (by decide) (List.mem_of_getElem? (i := 1) rfl) rfl ?_
    refine j_getN (Cn := RX0) (T := TX0) (N := 3) 4 1 C dX4_cost_56 hin_X4_cost_X0 rfl rfl (by decide) C.2.2.2.2.2.2.1.2.2.2.2.2.2.2.2 rfl ?_
    refine j_callWv [6, 7, 2, 3, 5] (fun _ => [(x0, .inr (3, [.ref mp, .int (nI N), .ref rp, .int rl, .ref lt, .ref p1, .ref p2, .ref cz])), (mp, jaP g 10 T), (q, .inr (1, [.ref ca, .int (nI n)])), (ca, jaI g 224 f), (cz, .inr (0, [.ref dg, .int (nI d), .int (nI (v - 1))])), (dg, jaL g 6 h), (p1, .inr (2, [.ref v1, .int ((jRn n f h d).2.1), .int ((jRn n f h d).2.2)])), (v1, jaL g 4 ((jRn n f h d).1))]) C (j_runV (ci := 6) (As := [.ref q, .ref dg, .int (nI d)]) (rest := []) [6, 7, 2, 3, 5] C (c_X3_goThrough l g p1 v1 lk1 cd1 w1 q ca n f dg d 6 h (by omega) (by omega) (by omega)) gX4_cost_X3_goThrough rfl rfl rfl hd_X3_goThrough ⟨Nat.le_of_ble_eq_true rfl, Nat.le_of_ble_eq_true rfl⟩ rfl rfl rfl rfl dX4_cost_59 rfl (Nat.le_of_ble_eq_true rfl) ⟨Nat.le_of_ble_eq_true rfl, Nat.le_of_ble_eq_true rfl⟩) rfl (fun _ => rfl) (fun _ => rfl) (fun _ _ => ?_)
    refine j_eq (pc' := 62) (L' := [(0, .ref x0), (1, .int (nI k)), (2, .int (nI d)), (3, .int (nI v)), (4, .int (jb true)), (5, .ref q), (6, .int (nI (v ^ d))), (7, .int t), (8, .int z), (9, .int (nI x))]) (st' := []) (ws' := [(x0, .inr (3, [.ref mp, .int (nI N), .ref rp, .int rl, .ref lt, .ref p1, .ref p2, .ref cz])), (mp, jaP g 10 T), (q, .inr (1, [.ref ca, .int (nI n)])), (ca, jaI g 224 f), (cz, .inr (0, [.ref dg, .int (nI d), .int (nI (v - 1))])), (dg, jaL g 6 h), (p1, .inr (2, [.ref v1, .int r1.2.1, .int r1.2.2])), (v1, jaL g 4 r1.1)]) ?_ rfl rfl rfl (by simp only [hr1])
    refine j_aload_n 0 C dX4_cost_62 rfl rfl ?_
    refine j_get (Cn := RX4) (T := TX4) (N := 8) 0 5 C dX4_cost_63 hin_X4_cost_X4 rfl rfl (by decide) (List.mem_of_getElem? (i := 2) rfl) rfl ?_
    refine j_callRi (v := r1.2.1) (j_runV (ci := 6) (As := []) (rest := []) [6, 7] C (c_X3_countLooks l g p1 v1 r1.2.1 r1.2.2 r1.1) gX4_cost_X3_countLooks rfl rfl rfl hd_X3_countLooks ⟨Nat.le_of_ble_eq_true rfl, Nat.le_of_ble_eq_true rfl⟩ rfl rfl rfl rfl dX4_cost_66 rfl (Nat.le_of_ble_eq_true rfl) ⟨Nat.le_of_ble_eq_true rfl, Nat.le_of_ble_eq_true rfl⟩) ?_
    refine j_istore (L' := [(0, .ref x0), (1, .int (nI k)), (2, .int (nI d)), (3, .int (nI v)), (4, .int (jb true)), (5, .ref q), (6, .int (nI (v ^ d))), (7, .int t), (8, .int z), (9, .int (nI x)), (10, .int r1.2.1)]) C dX4_cost_69 (Nat.le_of_ble_eq_true rfl) rfl rfl ?_
    refine j_iload 10 C dX4_cost_71 rfl ?_
    refine j_iload 7 C dX4_cost_73 rfl ?_
    refine j_icmp_le (tgt := 83) C dX4_cost_75 (by decide) (fun c_5 => ?_) (fun c_5 => ?_)
    · skip
      refine j_iload 7 C dX4_cost_83 rfl ?_
      refine j_istore (L' := [(0, .ref x0), (1, .int (nI k)), (2, .int (nI d)), (3, .int (nI v)), (4, .int (jb true)), (5, .ref q), (6, .int (nI (v ^ d))), (7, .int t), (8, .int z), (9, .int (nI x)), (10, .int r1.2.1)]) C dX4_cost_85 (Nat.le_of_ble_eq_true rfl) rfl rfl ?_
      refine j_iload 8 C dX4_cost_87 rfl ?_
      refine j_iload 10 C dX4_cost_89 rfl ?_
      refine j_iadd (x := z) (y := r1.2.1) (v := z + r1.2.1) C dX4_cost_91 rfl ?_
      refine j_istore (L' := [(0, .ref x0), (1, .int (nI k)), (2, .int (nI d)), (3, .int (nI v)), (4, .int (jb true)), (5, .ref q), (6, .int (nI (v ^ d))), (7, .int t), (8, .int (z + r1.2.1)), (9, .int (nI x)), (10, .int r1.2.1)]) C dX4_cost_92 (Nat.le_of_ble_eq_true rfl) rfl rfl ?_
      refine j_aload_n 0 C dX4_cost_94 rfl rfl ?_
      refine j_get (Cn := RX4) (T := TX4) (N := 8) 0 7 C dX4_cost_95 hin_X4_cost_X4 rfl rfl (by decide) (List.mem_of_getElem? (i := 1) rfl) rfl ?_
      refine j_callWv [4, 5] (fun _ => [(x0, .inr (3, [.ref mp, .int (nI N), .ref rp, .int rl, .ref lt, .ref p1, .ref p2, .ref cz])), (mp, jaP g 10 T), (q, .inr (1, [.ref ca, .int (nI n)])), (ca, jaI g 224 f), (cz, .inr (0, [.ref dg, .int (nI d), .int (nI (v - 1))])), (dg, jaL g 6 (jInc (nI (v - 1)).toInt64 d h)), (p1, .inr (2, [.ref v1, .int r1.2.1, .int r1.2.2])), (v1, jaL g 4 r1.1)]) C (j_runV (ci := 4) (As := []) (rest := []) [4, 5] C (c_X0_goOn l g cz dg d (v - 1) h (by omega)) gX4_cost_X0_goOn rfl rfl rfl hd_X0_goOn ⟨Nat.le_of_ble_eq_true rfl, Nat.le_of_ble_eq_true rfl⟩ rfl rfl rfl rfl dX4_cost_98 rfl (Nat.le_of_ble_eq_true rfl) ⟨Nat.le_of_ble_eq_true rfl, Nat.le_of_ble_eq_true rfl⟩) rfl (fun _ => rfl) (fun _ => rfl) (fun _ _ => ?_)
      refine j_iinc (v := nI (x + 1)) (L' := [(0, .ref x0), (1, .int (nI k)), (2, .int (nI d)), (3, .int (nI v)), (4, .int (jb true)), (5, .ref q), (6, .int (nI (v ^ d))), (7, .int t), (8, .int (z + r1.2.1)), (9, .int (nI (x + 1))), (10, .int r1.2.1)]) 9 C dX4_cost_101 rfl (nI_add x 1) (Nat.le_of_ble_eq_true rfl) rfl rfl ?_
      refine j_goto (tgt := 32) C dX4_cost_104 (by decide) ?_
      refine j_pick (L' := [(0, .ref x0), (1, .int (nI k)), (2, .int (nI d)), (3, .int (nI v)), (4, .int (jb true)), (5, .ref q), (6, .int (nI (v ^ d))), (7, .int t), (8, .int (z + r1.2.1)), (9, .int (nI (x + 1)))]) [0, 1, 2, 3, 4, 5, 6, 7, 8, 9] rfl ?_
      exact ih_1 (x + 1, t, z + r1.2.1, r1.2.1, r1.2.2, r1.1, jInc (nI (v - 1)).toInt64 d h) ⟨(by omega), (by rw [← hI1, show v ^ d - x = (v ^ d - (x + 1)) + 1 by omega, jCo_s, if_pos rfl, hK]; first | rw [if_neg (Int32.not_lt.mpr (by assumption))] | rw [if_pos (Int32.not_le.mp (by assumption))]), (by rw [← hI2, show v ^ d - x = (v ^ d - (x + 1)) + 1 by omega, jCo_s, if_neg (by decide), hK]), (fun hx => by rw [← hI _ hx, hc])⟩ (show v ^ d - (x + 1) < v ^ d - x from by omega)
    · skip
      refine j_iload 10 C dX4_cost_78 rfl ?_
      refine j_goto (tgt := 85) C dX4_cost_80 (by decide) ?_
      refine j_istore (L' := [(0, .ref x0), (1, .int (nI k)), (2, .int (nI d)), (3, .int (nI v)), (4, .int (jb true)), (5, .ref q), (6, .int (nI (v ^ d))), (7, .int r1.2.1), (8, .int z), (9, .int (nI x)), (10, .int r1.2.1)]) C dX4_cost_85 (Nat.le_of_ble_eq_true rfl) rfl rfl ?_
      refine j_iload 8 C dX4_cost_87 rfl ?_
      refine j_iload 10 C dX4_cost_89 rfl ?_
      refine j_iadd (x := z) (y := r1.2.1) (v := z + r1.2.1) C dX4_cost_91 rfl ?_
      refine j_istore (L' := [(0, .ref x0), (1, .int (nI k)), (2, .int (nI d)), (3, .int (nI v)), (4, .int (jb true)), (5, .ref q), (6, .int (nI (v ^ d))), (7, .int r1.2.1), (8, .int (z + r1.2.1)), (9, .int (nI x)), (10, .int r1.2.1)]) C dX4_cost_92 (Nat.le_of_ble_eq_true rfl) rfl rfl ?_
      refine j_aload_n 0 C dX4_cost_94 rfl rfl ?_
      refine j_get (Cn := RX4) (T := TX4) (N := 8) 0 7 C dX4_cost_95 hin_X4_cost_X4 rfl rfl (by decide) (List.mem_of_getElem? (i := 1) rfl) rfl ?_
      refine j_callWv [4, 5] (fun _ => [(x0, .inr (3, [.ref mp, .int (nI N), .ref rp, .int rl, .ref lt, .ref p1, .ref p2, .ref cz])), (mp, jaP g 10 T), (q, .inr (1, [.ref ca, .int (nI n)])), (ca, jaI g 224 f), (cz, .inr (0, [.ref dg, .int (nI d), .int (nI (v - 1))])), (dg, jaL g 6 (jInc (nI (v - 1)).toInt64 d h)), (p1, .inr (2, [.ref v1, .int r1.2.1, .int r1.2.2])), (v1, jaL g 4 r1.1)]) C (j_runV (ci := 4) (As := []) (rest := []) [4, 5] C (c_X0_goOn l g cz dg d (v - 1) h (by omega)) gX4_cost_X0_goOn rfl rfl rfl hd_X0_goOn ⟨Nat.le_of_ble_eq_true rfl, Nat.le_of_ble_eq_true rfl⟩ rfl rfl rfl rfl dX4_cost_98 rfl (Nat.le_of_ble_eq_true rfl) ⟨Nat.le_of_ble_eq_true rfl, Nat.le_of_ble_eq_true rfl⟩) rfl (fun _ => rfl) (fun _ => rfl) (fun _ _ => ?_)
      refine j_iinc (v := nI (x + 1)) (L' := [(0, .ref x0), (1, .int (nI k)), (2, .int (nI d)), (3, .int (nI v)), (4, .int (jb true)), (5, .ref q), (6, .int (nI (v ^ d))), (7, .int r1.2.1), (8, .int (z + r1.2.1)), (9, .int (nI (x + 1))), (10, .int r1.2.1)]) 9 C dX4_cost_101 rfl (nI_add x 1) (Nat.le_of_ble_eq_true rfl) rfl rfl ?_
      refine j_goto (tgt := 32) C dX4_cost_104 (by decide) ?_
      refine j_pick (L' := [(0, .ref x0), (1, .int (nI k)), (2, .int (nI d)), (3, .int (nI v)), (4, .int (jb true)), (5, .ref q), (6, .int (nI (v ^ d))), (7, .int r1.2.1), (8, .int (z + r1.2.1)), (9, .int (nI (x + 1)))]) [0, 1, 2, 3, 4, 5, 6, 7, 8, 9] rfl ?_
      exact ih_1 (x + 1, r1.2.1, z + r1.2.1, r1.2.1, r1.2.2, r1.1, jInc (nI (v - 1)).toInt64 d h) ⟨(by omega), (by rw [← hI1, show v ^ d - x = (v ^ d - (x + 1)) + 1 by omega, jCo_s, if_pos rfl, hK]; first | rw [if_neg (Int32.not_lt.mpr (by assumption))] | rw [if_pos (Int32.not_le.mp (by assumption))]), (by rw [← hI2, show v ^ d - x = (v ^ d - (x + 1)) + 1 by omega, jCo_s, if_neg (by decide), hK]), (fun hx => by rw [← hI _ hx, hc])⟩ (show v ^ d - (x + 1) < v ^ d - x from by omega)
set_option maxHeartbeats 4000000 in
set_option maxRecDepth 100000 in
theorem c_X4_cost_false (l : Launch) (g : jG) (x0 mp N rp : Nat) (rl : Int32) (lt p1 p2 cz : Nat) (T : Nat → Option Nat) (k : Nat) (q ca n : Nat) (f : Nat → Int32) (dg : Nat) (ln gd : Int32) (h0 : Nat → Int64) (v1 : Nat) (lka cda : Int32) (wa : Nat → Int64) (d v : Nat) (hk : k < N) (hN : N ≤ 10) (hq : T k = some q) (hok : jOk n f) (hd : d ≤ 6) (hv : v ≤ 4) (hv1 : 1 ≤ v) (hp : v ^ d ≤ 1024) (hI : ∀ x, x + 1 < v ^ d → jInc (nI (v - 1)).toInt64 d (jCs d v x) = jCs d v (x + 1)) : jXi l yX4_cost wsX4_cost ({ frames := 6, cells := 0, slots := 0, locals := 148 }) g [.ref x0, .int (nI k), .int (nI d), .int (nI v), .int (jb false)] [(x0, .inr (3, [.ref mp, .int (nI N), .ref rp, .int rl, .ref lt, .ref p1, .ref p2, .ref cz])), (mp, jaP g 10 T), (q, .inr (1, [.ref ca, .int (nI n)])), (ca, jaI g 224 f), (cz, .inr (0, [.ref dg, .int ln, .int gd])), (dg, jaL g 6 h0), (p1, .inr (2, [.ref v1, .int lka, .int cda])), (v1, jaL g 4 wa)] (fun (u9_ : Int32 × Int32 × (Nat → Int64) × (Nat → Int64)) => [(x0, .inr (3, [.ref mp, .int (nI N), .ref rp, .int rl, .ref lt, .ref p1, .ref p2, .ref cz])), (mp, jaP g 10 T), (q, .inr (1, [.ref ca, .int (nI n)])), (ca, jaI g 224 f), (cz, .inr (0, [.ref dg, .int (nI d), .int (nI (v - 1))])), (dg, jaL g 6 u9_.2.2.2), (p1, .inr (2, [.ref v1, .int u9_.1, .int u9_.2.1])), (v1, jaL g 4 u9_.2.2.1)]) (jCo false (jKx n f d v) (v ^ d) 0 0) := by
  refine j_enterW (y := yX4_cost) (wsy := wsX4_cost) (rm := { frames := 6, cells := 0, slots := 0, locals := 148 }) (g := g) (As := [.ref x0, .int (nI k), .int (nI d), .int (nI v), .int (jb false)]) (wc := [(x0, .inr (3, [.ref mp, .int (nI N), .ref rp, .int rl, .ref lt, .ref p1, .ref p2, .ref cz])), (mp, jaP g 10 T), (q, .inr (1, [.ref ca, .int (nI n)])), (ca, jaI g 224 f), (cz, .inr (0, [.ref dg, .int ln, .int gd])), (dg, jaL g 6 h0), (p1, .inr (2, [.ref v1, .int lka, .int cda])), (v1, jaL g 4 wa)]) (mc := 0) (ms := 0) (Qc := fun sz_ => va_Qi (fun r (_ : Int32 × Int32 × (Nat → Int64) × (Nat → Int64)) => r = jCo false (jKx n f d v) (v ^ d) 0 0) (fun u t => va_P g.1 vwCl ((fun (u9_ : Int32 × Int32 × (Nat → Int64) × (Nat → Int64)) => [(x0, .inr (3, [.ref mp, .int (nI N), .ref rp, .int rl, .ref lt, .ref p1, .ref p2, .ref cz])), (mp, jaP g 10 T), (q, .inr (1, [.ref ca, .int (nI n)])), (ca, jaI g 224 f), (cz, .inr (0, [.ref dg, .int (nI d), .int (nI (v - 1))])), (dg, jaL g 6 u9_.2.2.2), (p1, .inr (2, [.ref v1, .int u9_.1, .int u9_.2.1])), (v1, jaL g 4 u9_.2.2.1)]) u) t.heap) (va_A [(x0, .inr (3, [.ref mp, .int (nI N), .ref rp, .int rl, .ref lt, .ref p1, .ref p2, .ref cz])), (mp, jaP g 10 T), (q, .inr (1, [.ref ca, .int (nI n)])), (ca, jaI g 224 f), (cz, .inr (0, [.ref dg, .int ln, .int gd])), (dg, jaL g 6 h0), (p1, .inr (2, [.ref v1, .int lka, .int cda])), (v1, jaL g 4 wa)] sz_)) (cc := cX4_cost) (maxL := 11) (ret := (some .int)) (own := RX4) (L := [(0, .ref x0), (1, .int (nI k)), (2, .int (nI d)), (3, .int (nI v)), (4, .int (jb false))]) (by decide) rfl rfl (Nat.le_of_ble_eq_true rfl) rfl (fun p e s m args below meth c C hr => ?_)
  refine j_aload_n 0 C dX4_cost_0 rfl rfl ?_
  refine j_iload_n 1 C dX4_cost_1 rfl rfl ?_
  refine j_callRr (v := q) (j_runV (ci := 0) (As := [.int (nI k)]) (rest := []) [0, 1] C (c_X4_programAt l g x0 mp N rp rl lt p1 p2 cz T k q (by omega) (by omega) hq) gX4_cost_X4_programAt rfl rfl rfl hd_X4_programAt ⟨Nat.le_of_ble_eq_true rfl, Nat.le_of_ble_eq_true rfl⟩ rfl rfl rfl rfl dX4_cost_2 rfl (Nat.le_of_ble_eq_true rfl) ⟨Nat.le_of_ble_eq_true rfl, Nat.le_of_ble_eq_true rfl⟩) ?_
  refine j_astore (L' := [(0, .ref x0), (1, .int (nI k)), (2, .int (nI d)), (3, .int (nI v)), (4, .int (jb false)), (5, .ref q)]) C dX4_cost_5 (Nat.le_of_ble_eq_true rfl) rfl rfl ?_
  refine j_iload_n 2 C dX4_cost_7 rfl rfl ?_
  refine j_iload_n 3 C dX4_cost_8 rfl rfl ?_
  refine j_callRi (v := nI (v ^ d)) (j_runS (As := [.int (nI d), .int (nI v)]) (rest := []) [] C (c_X4_checkedRows l g d v (by omega) (by omega) (by omega) (by omega)) gX4_cost_X4_checkedRows rfl rfl rfl hd_X4_checkedRows ⟨Nat.le_of_ble_eq_true rfl, Nat.le_of_ble_eq_true rfl⟩ rfl rfl dX4_cost_9 rfl (Nat.le_of_ble_eq_true rfl) ⟨Nat.le_of_ble_eq_true rfl, Nat.le_of_ble_eq_true rfl⟩) ?_
  refine j_istore (L' := [(0, .ref x0), (1, .int (nI k)), (2, .int (nI d)), (3, .int (nI v)), (4, .int (jb false)), (5, .ref q), (6, .int (nI (v ^ d)))]) C dX4_cost_12 (Nat.le_of_ble_eq_true rfl) rfl rfl ?_
  refine j_iconst (v := 0) C dX4_cost_14 rfl ?_
  refine j_istore (L' := [(0, .ref x0), (1, .int (nI k)), (2, .int (nI d)), (3, .int (nI v)), (4, .int (jb false)), (5, .ref q), (6, .int (nI (v ^ d))), (7, .int 0)]) C dX4_cost_15 (Nat.le_of_ble_eq_true rfl) rfl rfl ?_
  refine j_iconst (v := 0) C dX4_cost_17 rfl ?_
  refine j_istore (L' := [(0, .ref x0), (1, .int (nI k)), (2, .int (nI d)), (3, .int (nI v)), (4, .int (jb false)), (5, .ref q), (6, .int (nI (v ^ d))), (7, .int 0), (8, .int 0)]) C dX4_cost_18 (Nat.le_of_ble_eq_true rfl) rfl rfl ?_
  refine j_aload_n 0 C dX4_cost_20 rfl rfl ?_
  refine j_get (Cn := RX4) (T := TX4) (N := 8) 0 7 C dX4_cost_21 hin_X4_cost_X4 rfl rfl (by decide) (List.mem_of_getElem? (i := 1) rfl) rfl ?_
  refine j_iload_n 2 C dX4_cost_24 rfl rfl ?_
  refine j_iload_n 3 C dX4_cost_25 rfl rfl ?_
  refine j_callWv [4, 5] (fun _ => [(x0, .inr (3, [.ref mp, .int (nI N), .ref rp, .int rl, .ref lt, .ref p1, .ref p2, .ref cz])), (mp, jaP g 10 T), (q, .inr (1, [.ref ca, .int (nI n)])), (ca, jaI g 224 f), (cz, .inr (0, [.ref dg, .int (nI d), .int (nI (v - 1))])), (dg, jaL g 6 (fun _ => 0)), (p1, .inr (2, [.ref v1, .int lka, .int cda])), (v1, jaL g 4 wa)]) C (j_runV (ci := 4) (As := [.int (nI d), .int (nI v)]) (rest := []) [4, 5] C (c_X0_begin l g cz dg ln gd h0 d v (by omega)) gX4_cost_X0_begin rfl rfl rfl hd_X0_begin ⟨Nat.le_of_ble_eq_true rfl, Nat.le_of_ble_eq_true rfl⟩ rfl rfl rfl rfl dX4_cost_26 rfl (Nat.le_of_ble_eq_true rfl) ⟨Nat.le_of_ble_eq_true rfl, Nat.le_of_ble_eq_true rfl⟩) rfl (fun _ => rfl) (fun _ => rfl) (fun _ _ => ?_)
  refine j_iconst (v := 0) C dX4_cost_29 rfl ?_
  refine j_istore (L' := [(0, .ref x0), (1, .int (nI k)), (2, .int (nI d)), (3, .int (nI v)), (4, .int (jb false)), (5, .ref q), (6, .int (nI (v ^ d))), (7, .int 0), (8, .int 0), (9, .int 0)]) C dX4_cost_30 (Nat.le_of_ble_eq_true rfl) rfl rfl ?_
  refine j_pick (L' := [(0, .ref x0), (1, .int (nI k)), (2, .int (nI d)), (3, .int (nI v)), (4, .int (jb false)), (5, .ref q), (6, .int (nI (v ^ d))), (7, .int 0), (8, .int 0), (9, .int 0)]) [0, 1, 2, 3, 4, 5, 6, 7, 8, 9] rfl ?_
  refine j_loop (σ := Nat × Int32 × Int32 × Int32 × Int32 × (Nat → Int64) × (Nat → Int64)) (fun (x9_ : Nat × Int32 × Int32 × Int32 × Int32 × (Nat → Int64) × (Nat → Int64)) => match x9_ with | (x, t, z, lk1, cd1, w1, h) => [(0, .ref x0), (1, .int (nI k)), (2, .int (nI d)), (3, .int (nI v)), (4, .int (jb false)), (5, .ref q), (6, .int (nI (v ^ d))), (7, .int t), (8, .int z), (9, .int (nI x))]) (fun (x9_ : Nat × Int32 × Int32 × Int32 × Int32 × (Nat → Int64) × (Nat → Int64)) => match x9_ with | (x, t, z, lk1, cd1, w1, h) => [(x0, .inr (3, [.ref mp, .int (nI N), .ref rp, .int rl, .ref lt, .ref p1, .ref p2, .ref cz])), (mp, jaP g 10 T), (q, .inr (1, [.ref ca, .int (nI n)])), (ca, jaI g 224 f), (cz, .inr (0, [.ref dg, .int (nI d), .int (nI (v - 1))])), (dg, jaL g 6 h), (p1, .inr (2, [.ref v1, .int lk1, .int cd1])), (v1, jaL g 4 w1)]) (fun (x9_ : Nat × Int32 × Int32 × Int32 × Int32 × (Nat → Int64) × (Nat → Int64)) => match x9_ with | (x, t, z, lk1, cd1, w1, h) => (x ≤ v ^ d) ∧ (jCo true (jKx n f d v) (v ^ d - x) x t = jCo true (jKx n f d v) (v ^ d) 0 0) ∧ (jCo false (jKx n f d v) (v ^ d - x) x z = jCo false (jKx n f d v) (v ^ d) 0 0) ∧ (x < v ^ d → h = jCs d v x)) (fun (x9_ : Nat × Int32 × Int32 × Int32 × Int32 × (Nat → Int64) × (Nat → Int64)) => match x9_ with | (x, t, z, lk1, cd1, w1, h) => v ^ d - x) (fun x_ hi_2 ih_1 => ?_) (0, 0, 0, lka, cda, wa, fun _ => 0) ⟨(by omega), rfl, rfl, (fun _ => (jCs_0 d v).symm)⟩ rfl rfl
  obtain ⟨x, t, z, lk1, cd1, w1, h⟩ := x_
  obtain ⟨hI0, hI1, hI2, hH⟩ := (show (x ≤ v ^ d) ∧ (jCo true (jKx n f d v) (v ^ d - x) x t = jCo true (jKx n f d v) (v ^ d) 0 0) ∧ (jCo false (jKx n f d v) (v ^ d - x) x z = jCo false (jKx n f d v) (v ^ d) 0 0) ∧ (x < v ^ d → h = jCs d v x) from hi_2)
  refine j_eq (pc' := 32) (L' := [(0, .ref x0), (1, .int (nI k)), (2, .int (nI d)), (3, .int (nI v)), (4, .int (jb false)), (5, .ref q), (6, .int (nI (v ^ d))), (7, .int t), (8, .int z), (9, .int (nI x))]) (st' := []) (ws' := [(x0, .inr (3, [.ref mp, .int (nI N), .ref rp, .int rl, .ref lt, .ref p1, .ref p2, .ref cz])), (mp, jaP g 10 T), (q, .inr (1, [.ref ca, .int (nI n)])), (ca, jaI g 224 f), (cz, .inr (0, [.ref dg, .int (nI d), .int (nI (v - 1))])), (dg, jaL g 6 h), (p1, .inr (2, [.ref v1, .int lk1, .int cd1])), (v1, jaL g 4 w1)]) ?_ rfl rfl rfl rfl
  refine j_iload 9 C dX4_cost_32 rfl ?_
  refine j_iload 6 C dX4_cost_34 rfl ?_
  refine j_icmp_ge (tgt := 107) C dX4_cost_36 (by decide) (fun c_3 => ?_) (fun c_3 => ?_)
  · skip
    have c_3 : (v ^ d) ≤ x := (nI_leI (a := v ^ d) (b := x) (by omega) (by omega)).mp c_3
    refine j_iload 4 C dX4_cost_107 rfl ?_
    refine j_if_eq (tgt := 117) C dX4_cost_109 (by decide) (fun c_4 => ?_) (fun c_4 => ?_)
    · skip
      have c_4 : false = false := jb_0 c_4
      refine j_iload 8 C dX4_cost_117 rfl ?_
      exact j_iretW (v := z) C hr dX4_cost_119 (lk1, cd1, w1, h) (by first | (rw [← hI1, show v ^ d - x = 0 by omega]; rfl) | (rw [← hI2, show v ^ d - x = 0 by omega]; rfl)) rfl
    · skip
      have c_4 : false = true := jb_1 c_4
      (first | exact absurd c_4 (by decide) | exact absurd c_4 (by omega) | simp_all)
  · skip
    have c_3 : ¬ (v ^ d) ≤ x := fun z => c_3 ((nI_leI (a := v ^ d) (b := x) (by omega) (by omega)).mpr z)
    have hc := hH (by omega)
    obtain ⟨r1, hr1⟩ : ∃ r, jRn n f h d = r := ⟨_, rfl⟩
    have hK : (jKx n f d v) x = r1.2.1 := by rw [← hr1, hc]; rfl
    refine j_aload_n 0 C dX4_cost_39 rfl rfl ?_
    refine j_get (Cn := RX4) (T := TX4) (N := 8) 0 5 C dX4_cost_40 hin_X4_cost_X4 rfl rfl (by decide) (List.mem_of_getElem? (i := 2) rfl) rfl ?_
    refine j_aload 5 C dX4_cost_43 rfl ?_
    refine j_aload_n 0 C dX4_cost_45 rfl rfl ?_
    refine j_get (Cn := RX4) (T := TX4) (N := 8) 0 7 C dX4_cost_46 hin_X4_cost_X4 rfl rfl (by decide) (List.mem_of_getElem? (i := 1) rfl) rfl ?_
    refine j_getN (Cn := RX0) (T := TX0) (N := 3) 4 0 C dX4_cost_49 hin_X4_cost_X0 rfl rfl (by decide) C.2.2.2.2.2.2.1.2.2.2.2.2.2.2.1 rfl ?_
    refine j_aload_n 0 C dX4_cost_52 rfl rfl ?_
    refine j_get (Cn := RX4) (T := TX4) (N := 8) 0 7 C dX4_cost_53 hin_X4_cost_X4 rfl rfl (by decide) (List.mem_of_getElem? (i := 1) rfl) rfl ?_
    refine j_getN (Cn := RX0) (T := TX0) (N := 3) 4 1 C dX4_cost_56 hin_X4_cost_X0 rfl rfl (by decide) C.2.2.2.2.2.2.1.2.2.2.2.2.2.2.2 rfl ?_
    refine j_callWv [6, 7, 2, 3, 5] (fun _ => [(x0, .inr (3, [.ref mp, .int (nI N), .ref rp, .int rl, .ref lt, .ref p1, .ref p2, .ref cz])), (mp, jaP g 10 T), (q, .inr (1, [.ref ca, .int (nI n)])), (ca, jaI g 224 f), (cz, .inr (0, [.ref dg, .int (nI d), .int (nI (v - 1))])), (dg, jaL g 6 h), (p1, .inr (2, [.ref v1, .int ((jRn n f h d).2.1), .int ((jRn n f h d).2.2)])), (v1, jaL g 4 ((jRn n f h d).1))]) C (j_runV (ci := 6) (As := [.ref q, .ref dg, .int (nI d)]) (rest := []) [6, 7, 2, 3, 5] C (c_X3_goThrough l g p1 v1 lk1 cd1 w1 q ca n f dg d 6 h (by omega) (by omega) (by omega)) gX4_cost_X3_goThrough rfl rfl rfl hd_X3_goThrough ⟨Nat.le_of_ble_eq_true rfl, Nat.le_of_ble_eq_true rfl⟩ rfl rfl rfl rfl dX4_cost_59 rfl (Nat.le_of_ble_eq_true rfl) ⟨Nat.le_of_ble_eq_true rfl, Nat.le_of_ble_eq_true rfl⟩) rfl (fun _ => rfl) (fun _ => rfl) (fun _ _ => ?_)
    refine j_eq (pc' := 62) (L' := [(0, .ref x0), (1, .int (nI k)), (2, .int (nI d)), (3, .int (nI v)), (4, .int (jb false)), (5, .ref q), (6, .int (nI (v ^ d))), (7, .int t), (8, .int z), (9, .int (nI x))]) (st' := []) (ws' := [(x0, .inr (3, [.ref mp, .int (nI N), .ref rp, .int rl, .ref lt, .ref p1, .ref p2, .ref cz])), (mp, jaP g 10 T), (q, .inr (1, [.ref ca, .int (nI n)])), (ca, jaI g 224 f), (cz, .inr (0, [.ref dg, .int (nI d), .int (nI (v - 1))])), (dg, jaL g 6 h), (p1, .inr (2, [.ref v1, .int r1.2.1, .int r1.2.2])), (v1, jaL g 4 r1.1)]) ?_ rfl rfl rfl (by simp only [hr1])
    refine j_aload_n 0 C dX4_cost_62 rfl rfl ?_
    refine j_get (Cn := RX4) (T := TX4) (N := 8) 0 5 C dX4_cost_63 hin_X4_cost_X4 rfl rfl (by decide) (List.mem_of_getElem? (i := 2) rfl) rfl ?_
    refine j_callRi (v := r1.2.1) (j_runV (ci := 6) (As := []) (rest := []) [6, 7] C (c_X3_countLooks l g p1 v1 r1.2.1 r1.2.2 r1.1) gX4_cost_X3_countLooks rfl rfl rfl hd_X3_countLooks ⟨Nat.le_of_ble_eq_true rfl, Nat.le_of_ble_eq_true rfl⟩ rfl rfl rfl rfl dX4_cost_66 rfl (Nat.le_of_ble_eq_true rfl) ⟨Nat.le_of_ble_eq_true rfl, Nat.le_of_ble_eq_true rfl⟩) ?_
    refine j_istore (L' := [(0, .ref x0), (1, .int (nI k)), (2, .int (nI d)), (3, .int (nI v)), (4, .int (jb false)), (5, .ref q), (6, .int (nI (v ^ d))), (7, .int t), (8, .int z), (9, .int (nI x)), (10, .int r1.2.1)]) C dX4_cost_69 (Nat.le_of_ble_eq_true rfl) rfl rfl ?_
    refine j_iload 10 C dX4_cost_71 rfl ?_
    refine j_iload 7 C dX4_cost_73 rfl ?_
    refine j_icmp_le (tgt := 83) C dX4_cost_75 (by decide) (fun c_5 => ?_) (fun c_5 => ?_)
    · skip
      refine j_iload 7 C dX4_cost_83 rfl ?_
      refine j_istore (L' := [(0, .ref x0), (1, .int (nI k)), (2, .int (nI d)), (3, .int (nI v)), (4, .int (jb false)), (5, .ref q), (6, .int (nI (v ^ d))), (7, .int t), (8, .int z), (9, .int (nI x)), (10, .int r1.2.1)]) C dX4_cost_85 (Nat.le_of_ble_eq_true rfl) rfl rfl ?_
      refine j_iload 8 C dX4_cost_87 rfl ?_
      refine j_iload 10 C dX4_cost_89 rfl ?_
      refine j_iadd (x := z) (y := r1.2.1) (v := z + r1.2.1) C dX4_cost_91 rfl ?_
      refine j_istore (L' := [(0, .ref x0), (1, .int (nI k)), (2, .int (nI d)), (3, .int (nI v)), (4, .int (jb false)), (5, .ref q), (6, .int (nI (v ^ d))), (7, .int t), (8, .int (z + r1.2.1)), (9, .int (nI x)), (10, .int r1.2.1)]) C dX4_cost_92 (Nat.le_of_ble_eq_true rfl) rfl rfl ?_
      refine j_aload_n 0 C dX4_cost_94 rfl rfl ?_
      refine j_get (Cn := RX4) (T := TX4) (N := 8) 0 7 C dX4_cost_95 hin_X4_cost_X4 rfl rfl (by decide) (List.mem_of_getElem? (i := 1) rfl) rfl ?_
      refine j_callWv [4, 5] (fun _ => [(x0, .inr (3, [.ref mp, .int (nI N), .ref rp, .int rl, .ref lt, .ref p1, .ref p2, .ref cz])), (mp, jaP g 10 T), (q, .inr (1, [.ref ca, .int (nI n)])), (ca, jaI g 224 f), (cz, .inr (0, [.ref dg, .int (nI d), .int (nI (v - 1))])), (dg, jaL g 6 (jInc (nI (v - 1)).toInt64 d h)), (p1, .inr (2, [.ref v1, .int r1.2.1, .int r1.2.2])), (v1, jaL g 4 r1.1)]) C (j_runV (ci := 4) (As := []) (rest := []) [4, 5] C (c_X0_goOn l g cz dg d (v - 1) h (by omega)) gX4_cost_X0_goOn rfl rfl rfl hd_X0_goOn ⟨Nat.le_of_ble_eq_true rfl, Nat.le_of_ble_eq_true rfl⟩ rfl rfl rfl rfl dX4_cost_98 rfl (Nat.le_of_ble_eq_true rfl) ⟨Nat.le_of_ble_eq_true rfl, Nat.le_of_ble_eq_true rfl⟩) rfl (fun _ => rfl) (fun _ => rfl) (fun _ _ => ?_)
      refine j_iinc (v := nI (x + 1)) (L' := [(0, .ref x0), (1, .int (nI k)), (2, .int (nI d)), (3, .int (nI v)), (4, .int (jb false)), (5, .ref q), (6, .int (nI (v ^ d))), (7, .int t), (8, .int (z + r1.2.1)), (9, .int (nI (x + 1))), (10, .int r1.2.1)]) 9 C dX4_cost_101 rfl (nI_add x 1) (Nat.le_of_ble_eq_true rfl) rfl rfl ?_
      refine j_goto (tgt := 32) C dX4_cost_104 (by decide) ?_
      refine j_pick (L' := [(0, .ref x0), (1, .int (nI k)), (2, .int (nI d)), (3, .int (nI v)), (4, .int (jb false)), (5, .ref q), (6, .int (nI (v ^ d))), (7, .int t), (8, .int (z + r1.2.1)), (9, .int (nI (x + 1)))]) [0, 1, 2, 3, 4, 5, 6, 7, 8, 9] rfl ?_
      exact ih_1 (x + 1, t, z + r1.2.1, r1.2.1, r1.2.2, r1.1, jInc (nI (v - 1)).toInt64 d h) ⟨(by omega), (by rw [← hI1, show v ^ d - x = (v ^ d - (x + 1)) + 1 by omega, jCo_s, if_pos rfl, hK]; first | rw [if_neg (Int32.not_lt.mpr (by assumption))] | rw [if_pos (Int32.not_le.mp (by assumption))]), (by rw [← hI2, show v ^ d - x = (v ^ d - (x + 1)) + 1 by omega, jCo_s, if_neg (by decide), hK]), (fun hx => by rw [← hI _ hx, hc])⟩ (show v ^ d - (x + 1) < v ^ d - x from by omega)
    · skip
      refine j_iload 10 C dX4_cost_78 rfl ?_
      refine j_goto (tgt := 85) C dX4_cost_80 (by decide) ?_
      refine j_istore (L' := [(0, .ref x0), (1, .int (nI k)), (2, .int (nI d)), (3, .int (nI v)), (4, .int (jb false)), (5, .ref q), (6, .int (nI (v ^ d))), (7, .int r1.2.1), (8, .int z), (9, .int (nI x)), (10, .int r1.2.1)]) C dX4_cost_85 (Nat.le_of_ble_eq_true rfl) rfl rfl ?_
      refine j_iload 8 C dX4_cost_87 rfl ?_
      refine j_iload 10 C dX4_cost_89 rfl ?_
      refine j_iadd (x := z) (y := r1.2.1) (v := z + r1.2.1) C dX4_cost_91 rfl ?_
      refine j_istore (L' := [(0, .ref x0), (1, .int (nI k)), (2, .int (nI d)), (3, .int (nI v)), (4, .int (jb false)), (5, .ref q), (6, .int (nI (v ^ d))), (7, .int r1.2.1), (8, .int (z + r1.2.1)), (9, .int (nI x)), (10, .int r1.2.1)]) C dX4_cost_92 (Nat.le_of_ble_eq_true rfl) rfl rfl ?_
      refine j_aload_n 0 C dX4_cost_94 rfl rfl ?_
      refine j_get (Cn := RX4) (T := TX4) (N := 8) 0 7 C dX4_cost_95 hin_X4_cost_X4 rfl rfl (by decide) (List.mem_of_getElem? (i := 1) rfl) rfl ?_
      refine j_callWv [4, 5] (fun _ => [(x0, .inr (3, [.ref mp, .int (nI N), .ref rp, .int rl, .ref lt, .ref p1, .ref p2, .ref cz])), (mp, jaP g 10 T), (q, .inr (1, [.ref ca, .int (nI n)])), (ca, jaI g 224 f), (cz, .inr (0, [.ref dg, .int (nI d), .int (nI (v - 1))])), (dg, jaL g 6 (jInc (nI (v - 1)).toInt64 d h)), (p1, .inr (2, [.ref v1, .int r1.2.1, .int r1.2.2])), (v1, jaL g 4 r1.1)]) C (j_runV (ci := 4) (As := []) (rest := []) [4, 5] C (c_X0_goOn l g cz dg d (v - 1) h (by omega)) gX4_cost_X0_goOn rfl rfl rfl hd_X0_goOn ⟨Nat.le_of_ble_eq_true rfl, Nat.le_of_ble_eq_true rfl⟩ rfl rfl rfl rfl dX4_cost_98 rfl (Nat.le_of_ble_eq_true rfl) ⟨Nat.le_of_ble_eq_true rfl, Nat.le_of_ble_eq_true rfl⟩) rfl (fun _ => rfl) (fun _ => rfl) (fun _ _ => ?_)
      refine j_iinc (v := nI (x + 1)) (L' := [(0, .ref x0), (1, .int (nI k)), (2, .int (nI d)), (3, .int (nI v)), (4, .int (jb false)), (5, .ref q), (6, .int (nI (v ^ d))), (7, .int r1.2.1), (8, .int (z + r1.2.1)), (9, .int (nI (x + 1))), (10, .int r1.2.1)]) 9 C dX4_cost_101 rfl (nI_add x 1) (Nat.le_of_ble_eq_true rfl) rfl rfl ?_
      refine j_goto (tgt := 32) C dX4_cost_104 (by decide) ?_
      refine j_pick (L' := [(0, .ref x0), (1, .int (nI k)), (2, .int (nI d)), (3, .int (nI v)), (4, .int (jb false)), (5, .ref q), (6, .int (nI (v ^ d))), (7, .int r1.2.1), (8, .int (z + r1.2.1)), (9, .int (nI (x + 1)))]) [0, 1, 2, 3, 4, 5, 6, 7, 8, 9] rfl ?_
      exact ih_1 (x + 1, r1.2.1, z + r1.2.1, r1.2.1, r1.2.2, r1.1, jInc (nI (v - 1)).toInt64 d h) ⟨(by omega), (by rw [← hI1, show v ^ d - x = (v ^ d - (x + 1)) + 1 by omega, jCo_s, if_pos rfl, hK]; first | rw [if_neg (Int32.not_lt.mpr (by assumption))] | rw [if_pos (Int32.not_le.mp (by assumption))]), (by rw [← hI2, show v ^ d - x = (v ^ d - (x + 1)) + 1 by omega, jCo_s, if_neg (by decide), hK]), (fun hx => by rw [← hI _ hx, hc])⟩ (show v ^ d - (x + 1) < v ^ d - x from by omega)
set_option maxHeartbeats 4000000 in
set_option maxRecDepth 100000 in
theorem c_X4_exits (l : Launch) (g : jG) (x0 mp N rp : Nat) (rl : Int32) (lt p1 p2 cz : Nat) (T : Nat → Option Nat) (k : Nat) (q ca n : Nat) (f : Nat → Int32) (dg : Nat) (ln gd : Int32) (h0 : Nat → Int64) (v1 : Nat) (lka cda : Int32) (wa : Nat → Int64) (d v : Nat) (hk : k < N) (hN : N ≤ 10) (hq : T k = some q) (hok : jOk n f) (hd : d ≤ 6) (hv : v ≤ 4) (hv1 : 1 ≤ v) (hp : v ^ d ≤ 1024) (hI : ∀ x, x + 1 < v ^ d → jInc (nI (v - 1)).toInt64 d (jCs d v x) = jCs d v (x + 1)) : jXd l yX4_exits wsX4_exits ({ frames := 6, cells := 0, slots := 0, locals := 148 }) g [.ref x0, .int (nI k), .int (nI d), .int (nI v)] [(x0, .inr (3, [.ref mp, .int (nI N), .ref rp, .int rl, .ref lt, .ref p1, .ref p2, .ref cz])), (mp, jaP g 10 T), (q, .inr (1, [.ref ca, .int (nI n)])), (ca, jaI g 224 f), (cz, .inr (0, [.ref dg, .int ln, .int gd])), (dg, jaL g 6 h0), (p1, .inr (2, [.ref v1, .int lka, .int cda])), (v1, jaL g 4 wa)] (fun (u9_ : Int32 × Int32 × (Nat → Int64) × (Nat → Int64)) => [(x0, .inr (3, [.ref mp, .int (nI N), .ref rp, .int rl, .ref lt, .ref p1, .ref p2, .ref cz])), (mp, jaP g 10 T), (q, .inr (1, [.ref ca, .int (nI n)])), (ca, jaI g 224 f), (cz, .inr (0, [.ref dg, .int (nI d), .int (nI (v - 1))])), (dg, jaL g 6 u9_.2.2.2), (p1, .inr (2, [.ref v1, .int u9_.1, .int u9_.2.1])), (v1, jaL g 4 u9_.2.2.1)]) (FP.ddiv (FP.i2d (nI (jDf (jCx n f d v) (v ^ d) 0 0))) (FP.i2d (nI (v ^ d)))) := by
  refine j_enterW (y := yX4_exits) (wsy := wsX4_exits) (rm := { frames := 6, cells := 0, slots := 0, locals := 148 }) (g := g) (As := [.ref x0, .int (nI k), .int (nI d), .int (nI v)]) (wc := [(x0, .inr (3, [.ref mp, .int (nI N), .ref rp, .int rl, .ref lt, .ref p1, .ref p2, .ref cz])), (mp, jaP g 10 T), (q, .inr (1, [.ref ca, .int (nI n)])), (ca, jaI g 224 f), (cz, .inr (0, [.ref dg, .int ln, .int gd])), (dg, jaL g 6 h0), (p1, .inr (2, [.ref v1, .int lka, .int cda])), (v1, jaL g 4 wa)]) (mc := 0) (ms := 0) (Qc := fun sz_ => va_Qd (fun r (_ : Int32 × Int32 × (Nat → Int64) × (Nat → Int64)) => r = FP.ddiv (FP.i2d (nI (jDf (jCx n f d v) (v ^ d) 0 0))) (FP.i2d (nI (v ^ d)))) (fun u t => va_P g.1 vwCl ((fun (u9_ : Int32 × Int32 × (Nat → Int64) × (Nat → Int64)) => [(x0, .inr (3, [.ref mp, .int (nI N), .ref rp, .int rl, .ref lt, .ref p1, .ref p2, .ref cz])), (mp, jaP g 10 T), (q, .inr (1, [.ref ca, .int (nI n)])), (ca, jaI g 224 f), (cz, .inr (0, [.ref dg, .int (nI d), .int (nI (v - 1))])), (dg, jaL g 6 u9_.2.2.2), (p1, .inr (2, [.ref v1, .int u9_.1, .int u9_.2.1])), (v1, jaL g 4 u9_.2.2.1)]) u) t.heap) (va_A [(x0, .inr (3, [.ref mp, .int (nI N), .ref rp, .int rl, .ref lt, .ref p1, .ref p2, .ref cz])), (mp, jaP g 10 T), (q, .inr (1, [.ref ca, .int (nI n)])), (ca, jaI g 224 f), (cz, .inr (0, [.ref dg, .int ln, .int gd])), (dg, jaL g 6 h0), (p1, .inr (2, [.ref v1, .int lka, .int cda])), (v1, jaL g 4 wa)] sz_)) (cc := cX4_exits) (maxL := 8) (ret := (some .double)) (own := RX4) (L := [(0, .ref x0), (1, .int (nI k)), (2, .int (nI d)), (3, .int (nI v))]) (by decide) rfl rfl (Nat.le_of_ble_eq_true rfl) rfl (fun p e s m args below meth c C hr => ?_)
  refine j_aload_n 0 C dX4_exits_0 rfl rfl ?_
  refine j_iload_n 1 C dX4_exits_1 rfl rfl ?_
  refine j_callRr (v := q) (j_runV (ci := 0) (As := [.int (nI k)]) (rest := []) [0, 1] C (c_X4_programAt l g x0 mp N rp rl lt p1 p2 cz T k q (by omega) (by omega) hq) gX4_exits_X4_programAt rfl rfl rfl hd_X4_programAt ⟨Nat.le_of_ble_eq_true rfl, Nat.le_of_ble_eq_true rfl⟩ rfl rfl rfl rfl dX4_exits_2 rfl (Nat.le_of_ble_eq_true rfl) ⟨Nat.le_of_ble_eq_true rfl, Nat.le_of_ble_eq_true rfl⟩) ?_
  refine j_astore (L' := [(0, .ref x0), (1, .int (nI k)), (2, .int (nI d)), (3, .int (nI v)), (4, .ref q)]) C dX4_exits_5 (Nat.le_of_ble_eq_true rfl) rfl rfl ?_
  refine j_iload_n 2 C dX4_exits_7 rfl rfl ?_
  refine j_iload_n 3 C dX4_exits_8 rfl rfl ?_
  refine j_callRi (v := nI (v ^ d)) (j_runS (As := [.int (nI d), .int (nI v)]) (rest := []) [] C (c_X4_checkedRows l g d v (by omega) (by omega) (by omega) (by omega)) gX4_exits_X4_checkedRows rfl rfl rfl hd_X4_checkedRows ⟨Nat.le_of_ble_eq_true rfl, Nat.le_of_ble_eq_true rfl⟩ rfl rfl dX4_exits_9 rfl (Nat.le_of_ble_eq_true rfl) ⟨Nat.le_of_ble_eq_true rfl, Nat.le_of_ble_eq_true rfl⟩) ?_
  refine j_istore (L' := [(0, .ref x0), (1, .int (nI k)), (2, .int (nI d)), (3, .int (nI v)), (4, .ref q), (5, .int (nI (v ^ d)))]) C dX4_exits_12 (Nat.le_of_ble_eq_true rfl) rfl rfl ?_
  refine j_iconst (v := 0) C dX4_exits_14 rfl ?_
  refine j_istore (L' := [(0, .ref x0), (1, .int (nI k)), (2, .int (nI d)), (3, .int (nI v)), (4, .ref q), (5, .int (nI (v ^ d))), (6, .int 0)]) C dX4_exits_15 (Nat.le_of_ble_eq_true rfl) rfl rfl ?_
  refine j_aload_n 0 C dX4_exits_17 rfl rfl ?_
  refine j_get (Cn := RX4) (T := TX4) (N := 8) 0 7 C dX4_exits_18 hin_X4_exits_X4 rfl rfl (by decide) (List.mem_of_getElem? (i := 1) rfl) rfl ?_
  refine j_iload_n 2 C dX4_exits_21 rfl rfl ?_
  refine j_iload_n 3 C dX4_exits_22 rfl rfl ?_
  refine j_callWv [4, 5] (fun _ => [(x0, .inr (3, [.ref mp, .int (nI N), .ref rp, .int rl, .ref lt, .ref p1, .ref p2, .ref cz])), (mp, jaP g 10 T), (q, .inr (1, [.ref ca, .int (nI n)])), (ca, jaI g 224 f), (cz, .inr (0, [.ref dg, .int (nI d), .int (nI (v - 1))])), (dg, jaL g 6 (fun _ => 0)), (p1, .inr (2, [.ref v1, .int lka, .int cda])), (v1, jaL g 4 wa)]) C (j_runV (ci := 4) (As := [.int (nI d), .int (nI v)]) (rest := []) [4, 5] C (c_X0_begin l g cz dg ln gd h0 d v (by omega)) gX4_exits_X0_begin rfl rfl rfl hd_X0_begin ⟨Nat.le_of_ble_eq_true rfl, Nat.le_of_ble_eq_true rfl⟩ rfl rfl rfl rfl dX4_exits_23 rfl (Nat.le_of_ble_eq_true rfl) ⟨Nat.le_of_ble_eq_true rfl, Nat.le_of_ble_eq_true rfl⟩) rfl (fun _ => rfl) (fun _ => rfl) (fun _ _ => ?_)
  refine j_iconst (v := 0) C dX4_exits_26 rfl ?_
  refine j_istore (L' := [(0, .ref x0), (1, .int (nI k)), (2, .int (nI d)), (3, .int (nI v)), (4, .ref q), (5, .int (nI (v ^ d))), (6, .int 0), (7, .int 0)]) C dX4_exits_27 (Nat.le_of_ble_eq_true rfl) rfl rfl ?_
  refine j_loop (σ := Nat × Nat × Int32 × Int32 × (Nat → Int64) × (Nat → Int64)) (fun (x9_ : Nat × Nat × Int32 × Int32 × (Nat → Int64) × (Nat → Int64)) => match x9_ with | (x, qq, lk1, cd1, w1, h) => [(0, .ref x0), (1, .int (nI k)), (2, .int (nI d)), (3, .int (nI v)), (4, .ref q), (5, .int (nI (v ^ d))), (6, .int (nI qq)), (7, .int (nI x))]) (fun (x9_ : Nat × Nat × Int32 × Int32 × (Nat → Int64) × (Nat → Int64)) => match x9_ with | (x, qq, lk1, cd1, w1, h) => [(x0, .inr (3, [.ref mp, .int (nI N), .ref rp, .int rl, .ref lt, .ref p1, .ref p2, .ref cz])), (mp, jaP g 10 T), (q, .inr (1, [.ref ca, .int (nI n)])), (ca, jaI g 224 f), (cz, .inr (0, [.ref dg, .int (nI d), .int (nI (v - 1))])), (dg, jaL g 6 h), (p1, .inr (2, [.ref v1, .int lk1, .int cd1])), (v1, jaL g 4 w1)]) (fun (x9_ : Nat × Nat × Int32 × Int32 × (Nat → Int64) × (Nat → Int64)) => match x9_ with | (x, qq, lk1, cd1, w1, h) => (x ≤ v ^ d) ∧ (jDf (jCx n f d v) (v ^ d - x) x qq = jDf (jCx n f d v) (v ^ d) 0 0) ∧ (x < v ^ d → h = jCs d v x)) (fun (x9_ : Nat × Nat × Int32 × Int32 × (Nat → Int64) × (Nat → Int64)) => match x9_ with | (x, qq, lk1, cd1, w1, h) => v ^ d - x) (fun x_ hi_2 ih_1 => ?_) (0, 0, lka, cda, wa, fun _ => 0) ⟨(by omega), rfl, (fun _ => (jCs_0 d v).symm)⟩ rfl rfl
  obtain ⟨x, qq, lk1, cd1, w1, h⟩ := x_
  obtain ⟨hI0, hI1, hH⟩ := (show (x ≤ v ^ d) ∧ (jDf (jCx n f d v) (v ^ d - x) x qq = jDf (jCx n f d v) (v ^ d) 0 0) ∧ (x < v ^ d → h = jCs d v x) from hi_2)
  refine j_eq (pc' := 29) (L' := [(0, .ref x0), (1, .int (nI k)), (2, .int (nI d)), (3, .int (nI v)), (4, .ref q), (5, .int (nI (v ^ d))), (6, .int (nI qq)), (7, .int (nI x))]) (st' := []) (ws' := [(x0, .inr (3, [.ref mp, .int (nI N), .ref rp, .int rl, .ref lt, .ref p1, .ref p2, .ref cz])), (mp, jaP g 10 T), (q, .inr (1, [.ref ca, .int (nI n)])), (ca, jaI g 224 f), (cz, .inr (0, [.ref dg, .int (nI d), .int (nI (v - 1))])), (dg, jaL g 6 h), (p1, .inr (2, [.ref v1, .int lk1, .int cd1])), (v1, jaL g 4 w1)]) ?_ rfl rfl rfl rfl
  refine j_iload 7 C dX4_exits_29 rfl ?_
  refine j_iload 5 C dX4_exits_31 rfl ?_
  refine j_icmp_ge (tgt := 86) C dX4_exits_33 (by decide) (fun c_3 => ?_) (fun c_3 => ?_)
  · skip
    have c_3 : (v ^ d) ≤ x := (nI_leI (a := v ^ d) (b := x) (by omega) (by omega)).mp c_3
    have hpos : 1 ≤ v ^ d := Nat.pos_of_ne_zero (fun z => by rw [Nat.pow_eq_zero] at z; omega)
    have hq9 : qq = jDf (jCx n f d v) (v ^ d) 0 0 := by rw [← hI1, show v ^ d - x = 0 by omega]; rfl
    refine j_iload 5 C dX4_exits_86 rfl ?_
    refine j_if_le (tgt := 101) C dX4_exits_88 (by decide) (fun c_4 => ?_) (fun c_4 => ?_)
    · skip
      have c_4 : (v ^ d) ≤ 0 := (nI_leI (a := v ^ d) (b := 0) (by omega) (by omega)).mp c_4
      exact absurd c_4 (by omega)
    · skip
      have c_4 : ¬ (v ^ d) ≤ 0 := fun z => c_4 ((nI_leI (a := v ^ d) (b := 0) (by omega) (by omega)).mpr z)
      refine j_iload 6 C dX4_exits_91 rfl ?_
      refine j_i2d C dX4_exits_93 ?_
      refine j_iload 5 C dX4_exits_94 rfl ?_
      refine j_i2d C dX4_exits_96 ?_
      refine j_ddiv C dX4_exits_97 (jdiv_n64 (nI_ne0 (by omega) (by omega))) ?_
      refine j_goto (tgt := 102) C dX4_exits_98 (by decide) ?_
      exact j_dretW (v := FP.ddiv (FP.i2d (nI qq)) (FP.i2d (nI (v ^ d)))) C hr dX4_exits_102 (lk1, cd1, w1, h) (by rw [hq9]) rfl
  · skip
    have c_3 : ¬ (v ^ d) ≤ x := fun z => c_3 ((nI_leI (a := v ^ d) (b := x) (by omega) (by omega)).mpr z)
    have hc := hH (by omega)
    obtain ⟨r1, hr1⟩ : ∃ r, jRn n f h d = r := ⟨_, rfl⟩
    have hS : (jCx n f d v) x = decide (r1.2.2 = -1) := by rw [← hr1, hc]; rfl
    refine j_aload_n 0 C dX4_exits_36 rfl rfl ?_
    refine j_get (Cn := RX4) (T := TX4) (N := 8) 0 5 C dX4_exits_37 hin_X4_exits_X4 rfl rfl (by decide) (List.mem_of_getElem? (i := 2) rfl) rfl ?_
    refine j_aload 4 C dX4_exits_40 rfl ?_
    refine j_aload_n 0 C dX4_exits_42 rfl rfl ?_
    refine j_get (Cn := RX4) (T := TX4) (N := 8) 0 7 C dX4_exits_43 hin_X4_exits_X4 rfl rfl (by decide) (List.mem_of_getElem? (i := 1) rfl) rfl ?_
    refine j_getN (Cn := RX0) (T := TX0) (N := 3) 4 0 C dX4_exits_46 hin_X4_exits_X0 rfl rfl (by decide) C.2.2.2.2.2.2.1.2.2.2.2.2.2.2.1 rfl ?_
    refine j_aload_n 0 C dX4_exits_49 rfl rfl ?_
    refine j_get (Cn := RX4) (T := TX4) (N := 8) 0 7 C dX4_exits_50 hin_X4_exits_X4 rfl rfl (by decide) (List.mem_of_getElem? (i := 1) rfl) rfl ?_
    refine j_getN (Cn := RX0) (T := TX0) (N := 3) 4 1 C dX4_exits_53 hin_X4_exits_X0 rfl rfl (by decide) C.2.2.2.2.2.2.1.2.2.2.2.2.2.2.2 rfl ?_
    refine j_callWv [6, 7, 2, 3, 5] (fun _ => [(x0, .inr (3, [.ref mp, .int (nI N), .ref rp, .int rl, .ref lt, .ref p1, .ref p2, .ref cz])), (mp, jaP g 10 T), (q, .inr (1, [.ref ca, .int (nI n)])), (ca, jaI g 224 f), (cz, .inr (0, [.ref dg, .int (nI d), .int (nI (v - 1))])), (dg, jaL g 6 h), (p1, .inr (2, [.ref v1, .int ((jRn n f h d).2.1), .int ((jRn n f h d).2.2)])), (v1, jaL g 4 ((jRn n f h d).1))]) C (j_runV (ci := 6) (As := [.ref q, .ref dg, .int (nI d)]) (rest := []) [6, 7, 2, 3, 5] C (c_X3_goThrough l g p1 v1 lk1 cd1 w1 q ca n f dg d 6 h (by omega) (by omega) (by omega)) gX4_exits_X3_goThrough rfl rfl rfl hd_X3_goThrough ⟨Nat.le_of_ble_eq_true rfl, Nat.le_of_ble_eq_true rfl⟩ rfl rfl rfl rfl dX4_exits_56 rfl (Nat.le_of_ble_eq_true rfl) ⟨Nat.le_of_ble_eq_true rfl, Nat.le_of_ble_eq_true rfl⟩) rfl (fun _ => rfl) (fun _ => rfl) (fun _ _ => ?_)
    refine j_eq (pc' := 59) (L' := [(0, .ref x0), (1, .int (nI k)), (2, .int (nI d)), (3, .int (nI v)), (4, .ref q), (5, .int (nI (v ^ d))), (6, .int (nI qq)), (7, .int (nI x))]) (st' := []) (ws' := [(x0, .inr (3, [.ref mp, .int (nI N), .ref rp, .int rl, .ref lt, .ref p1, .ref p2, .ref cz])), (mp, jaP g 10 T), (q, .inr (1, [.ref ca, .int (nI n)])), (ca, jaI g 224 f), (cz, .inr (0, [.ref dg, .int (nI d), .int (nI (v - 1))])), (dg, jaL g 6 h), (p1, .inr (2, [.ref v1, .int r1.2.1, .int r1.2.2])), (v1, jaL g 4 r1.1)]) ?_ rfl rfl rfl (by simp only [hr1])
    refine j_aload_n 0 C dX4_exits_59 rfl rfl ?_
    refine j_get (Cn := RX4) (T := TX4) (N := 8) 0 5 C dX4_exits_60 hin_X4_exits_X4 rfl rfl (by decide) (List.mem_of_getElem? (i := 2) rfl) rfl ?_
    refine j_callRi (v := r1.2.2) (j_runV (ci := 6) (As := []) (rest := []) [6, 7] C (c_X3_codeOfExit l g p1 v1 r1.2.1 r1.2.2 r1.1) gX4_exits_X3_codeOfExit rfl rfl rfl hd_X3_codeOfExit ⟨Nat.le_of_ble_eq_true rfl, Nat.le_of_ble_eq_true rfl⟩ rfl rfl rfl rfl dX4_exits_63 rfl (Nat.le_of_ble_eq_true rfl) ⟨Nat.le_of_ble_eq_true rfl, Nat.le_of_ble_eq_true rfl⟩) ?_
    refine j_iconst (v := -1) C dX4_exits_66 rfl ?_
    refine j_icmp_eq (tgt := 73) C dX4_exits_67 (by decide) (fun c_5 => ?_) (fun c_5 => ?_)
    · skip
      refine j_aload_n 0 C dX4_exits_73 rfl rfl ?_
      refine j_get (Cn := RX4) (T := TX4) (N := 8) 0 7 C dX4_exits_74 hin_X4_exits_X4 rfl rfl (by decide) (List.mem_of_getElem? (i := 1) rfl) rfl ?_
      refine j_callWv [4, 5] (fun _ => [(x0, .inr (3, [.ref mp, .int (nI N), .ref rp, .int rl, .ref lt, .ref p1, .ref p2, .ref cz])), (mp, jaP g 10 T), (q, .inr (1, [.ref ca, .int (nI n)])), (ca, jaI g 224 f), (cz, .inr (0, [.ref dg, .int (nI d), .int (nI (v - 1))])), (dg, jaL g 6 (jInc (nI (v - 1)).toInt64 d h)), (p1, .inr (2, [.ref v1, .int r1.2.1, .int r1.2.2])), (v1, jaL g 4 r1.1)]) C (j_runV (ci := 4) (As := []) (rest := []) [4, 5] C (c_X0_goOn l g cz dg d (v - 1) h (by omega)) gX4_exits_X0_goOn rfl rfl rfl hd_X0_goOn ⟨Nat.le_of_ble_eq_true rfl, Nat.le_of_ble_eq_true rfl⟩ rfl rfl rfl rfl dX4_exits_77 rfl (Nat.le_of_ble_eq_true rfl) ⟨Nat.le_of_ble_eq_true rfl, Nat.le_of_ble_eq_true rfl⟩) rfl (fun _ => rfl) (fun _ => rfl) (fun _ _ => ?_)
      refine j_iinc (v := nI (x + 1)) (L' := [(0, .ref x0), (1, .int (nI k)), (2, .int (nI d)), (3, .int (nI v)), (4, .ref q), (5, .int (nI (v ^ d))), (6, .int (nI qq)), (7, .int (nI (x + 1)))]) 7 C dX4_exits_80 rfl (nI_add x 1) (Nat.le_of_ble_eq_true rfl) rfl rfl ?_
      refine j_goto (tgt := 29) C dX4_exits_83 (by decide) ?_
      exact ih_1 (x + 1, qq, r1.2.1, r1.2.2, r1.1, jInc (nI (v - 1)).toInt64 d h) ⟨(by omega), (by rw [← hI1, show v ^ d - x = (v ^ d - (x + 1)) + 1 by omega, jDf_s, hS]; first | rw [if_pos (decide_eq_true (by assumption))] | rw [if_neg (by rw [decide_eq_false (by assumption)]; decide)]), (fun hx => by rw [← hI _ hx, hc])⟩ (show v ^ d - (x + 1) < v ^ d - x from by omega)
    · skip
      refine j_iinc (v := nI (qq + 1)) (L' := [(0, .ref x0), (1, .int (nI k)), (2, .int (nI d)), (3, .int (nI v)), (4, .ref q), (5, .int (nI (v ^ d))), (6, .int (nI (qq + 1))), (7, .int (nI x))]) 6 C dX4_exits_70 rfl (nI_add qq 1) (Nat.le_of_ble_eq_true rfl) rfl rfl ?_
      refine j_aload_n 0 C dX4_exits_73 rfl rfl ?_
      refine j_get (Cn := RX4) (T := TX4) (N := 8) 0 7 C dX4_exits_74 hin_X4_exits_X4 rfl rfl (by decide) (List.mem_of_getElem? (i := 1) rfl) rfl ?_
      refine j_callWv [4, 5] (fun _ => [(x0, .inr (3, [.ref mp, .int (nI N), .ref rp, .int rl, .ref lt, .ref p1, .ref p2, .ref cz])), (mp, jaP g 10 T), (q, .inr (1, [.ref ca, .int (nI n)])), (ca, jaI g 224 f), (cz, .inr (0, [.ref dg, .int (nI d), .int (nI (v - 1))])), (dg, jaL g 6 (jInc (nI (v - 1)).toInt64 d h)), (p1, .inr (2, [.ref v1, .int r1.2.1, .int r1.2.2])), (v1, jaL g 4 r1.1)]) C (j_runV (ci := 4) (As := []) (rest := []) [4, 5] C (c_X0_goOn l g cz dg d (v - 1) h (by omega)) gX4_exits_X0_goOn rfl rfl rfl hd_X0_goOn ⟨Nat.le_of_ble_eq_true rfl, Nat.le_of_ble_eq_true rfl⟩ rfl rfl rfl rfl dX4_exits_77 rfl (Nat.le_of_ble_eq_true rfl) ⟨Nat.le_of_ble_eq_true rfl, Nat.le_of_ble_eq_true rfl⟩) rfl (fun _ => rfl) (fun _ => rfl) (fun _ _ => ?_)
      refine j_iinc (v := nI (x + 1)) (L' := [(0, .ref x0), (1, .int (nI k)), (2, .int (nI d)), (3, .int (nI v)), (4, .ref q), (5, .int (nI (v ^ d))), (6, .int (nI (qq + 1))), (7, .int (nI (x + 1)))]) 7 C dX4_exits_80 rfl (nI_add x 1) (Nat.le_of_ble_eq_true rfl) rfl rfl ?_
      refine j_goto (tgt := 29) C dX4_exits_83 (by decide) ?_
      exact ih_1 (x + 1, qq + 1, r1.2.1, r1.2.2, r1.1, jInc (nI (v - 1)).toInt64 d h) ⟨(by omega), (by rw [← hI1, show v ^ d - x = (v ^ d - (x + 1)) + 1 by omega, jDf_s, hS]; first | rw [if_pos (decide_eq_true (by assumption))] | rw [if_neg (by rw [decide_eq_false (by assumption)]; decide)]), (fun hx => by rw [← hI _ hx, hc])⟩ (show v ^ d - (x + 1) < v ^ d - x from by omega)
set_option maxHeartbeats 4000000 in
set_option maxRecDepth 100000 in
theorem c_X4_digest (l : Launch) (g : jG) (x0 mp N rp : Nat) (len : Nat) (lt p1 p2 cz : Nat) (T : Nat → Option Nat) (vr : Nat) (lk cd : Int32) (vv row : Nat → Int64) (qs cs9 pn : Nat → Nat) (pf : Nat → Nat → Int32) (hN : N ≤ 10) (hl : len ≤ 40) (hT : ∀ i, i < N → T i = some (qs i)) (hw : ∀ i, i < N → pn i ≤ 8 ∧ ∀ k, k < pn i → ∃ a, a ≤ 6 ∧ pf i (k * 28 + 3) = nI a) : jWl l yX4_digest wsX4_digest ({ frames := 4, cells := 0, slots := 0, locals := 91 }) g [.ref x0] ((x0, .inr (3, [.ref mp, .int (nI N), .ref rp, .int (nI len), .ref lt, .ref p1, .ref p2, .ref cz])) :: (mp, jaP g 10 T) :: (rp, jaL g 40 row) :: (lt, .inr (2, [.ref vr, .int lk, .int cd])) :: (vr, jaL g 4 vv) :: (jpl (fun i => (qs i, .inr (1, [.ref (cs9 i), .int (nI (pn i))]))) N ++ jpl (fun i => (cs9 i, jaI g 224 (pf i))) N)) ((x0, .inr (3, [.ref mp, .int (nI N), .ref rp, .int (nI len), .ref lt, .ref p1, .ref p2, .ref cz])) :: (mp, jaP g 10 T) :: (rp, jaL g 40 row) :: (lt, .inr (2, [.ref vr, .int lk, .int cd])) :: (vr, jaL g 4 vv) :: (jpl (fun i => (qs i, .inr (1, [.ref (cs9 i), .int (nI (pn i))]))) N ++ jpl (fun i => (cs9 i, jaI g 224 (pf i))) N)) (jDG N pn pf row len (jRan vv lk)) := by
  refine j_enterW (Qc := fun sz_ => va_Ql (fun r (_ : Unit) => r = jDG N pn pf row len (jRan vv lk)) (fun _ t => va_P g.1 vwCl ((x0, .inr (3, [.ref mp, .int (nI N), .ref rp, .int (nI len), .ref lt, .ref p1, .ref p2, .ref cz])) :: (mp, jaP g 10 T) :: (rp, jaL g 40 row) :: (lt, .inr (2, [.ref vr, .int lk, .int cd])) :: (vr, jaL g 4 vv) :: (jpl (fun i => (qs i, .inr (1, [.ref (cs9 i), .int (nI (pn i))]))) N ++ jpl (fun i => (cs9 i, jaI g 224 (pf i))) N)) t.heap) (va_A ((x0, .inr (3, [.ref mp, .int (nI N), .ref rp, .int (nI len), .ref lt, .ref p1, .ref p2, .ref cz])) :: (mp, jaP g 10 T) :: (rp, jaL g 40 row) :: (lt, .inr (2, [.ref vr, .int lk, .int cd])) :: (vr, jaL g 4 vv) :: (jpl (fun i => (qs i, .inr (1, [.ref (cs9 i), .int (nI (pn i))]))) N ++ jpl (fun i => (cs9 i, jaI g 224 (pf i))) N)) sz_)) (cc := cX4_digest) (maxL := 5) (ret := (some .long)) (own := RX4) (L := [(0, .ref x0)]) (by decide) rfl rfl (Nat.le_of_ble_eq_true rfl) rfl (fun p e s m args below meth c C hr => ?_)
  refine j_ldc2 (v := 373) C dX4_digest_0 (List.mem_of_getElem? (i := 1) rfl) ?_
  refine j_aload_n 0 C dX4_digest_3 rfl rfl ?_
  refine j_get (Cn := RX4) (T := TX4) (N := 8) 0 1 C dX4_digest_4 hin_X4_digest_X4 rfl rfl (by decide) (List.mem_of_getElem? (i := 2) rfl) rfl ?_
  refine j_i2l (v := (nI N).toInt64) C dX4_digest_7 rfl ?_
  refine j_callRl (v := jMx 373 ((nI N).toInt64)) (j_runS (As := [.long 373, .long ((nI N).toInt64)]) (rest := []) [] C (c_X4_mix l g 373 ((nI N).toInt64)) gX4_digest_X4_mix rfl rfl rfl hd_X4_mix ⟨Nat.le_of_ble_eq_true rfl, Nat.le_of_ble_eq_true rfl⟩ rfl rfl dX4_digest_8 rfl (Nat.le_of_ble_eq_true rfl) ⟨Nat.le_of_ble_eq_true rfl, Nat.le_of_ble_eq_true rfl⟩) ?_
  refine j_lstore_n (L' := [(0, .ref x0), (1, .long (jMx 373 ((nI N).toInt64)))]) C dX4_digest_11 rfl (Nat.le_of_ble_eq_true rfl) rfl rfl ?_
  refine j_iconst (v := 0) C dX4_digest_12 rfl ?_
  refine j_istore_n (L' := [(0, .ref x0), (1, .long (jMx 373 ((nI N).toInt64))), (3, .int 0)]) C dX4_digest_13 rfl (Nat.le_of_ble_eq_true rfl) rfl rfl ?_
  refine j_pick (L' := [(0, .ref x0), (1, .long (jMx 373 ((nI N).toInt64))), (3, .int 0)]) [0, 1, 2] rfl ?_
  refine j_loop (σ := Nat × Int64) (fun (x9_ : Nat × Int64) => match x9_ with | (i, d0) => [(0, .ref x0), (1, .long d0), (3, .int (nI i))]) (fun (x9_ : Nat × Int64) => match x9_ with | (i, d0) => ((x0, .inr (3, [.ref mp, .int (nI N), .ref rp, .int (nI len), .ref lt, .ref p1, .ref p2, .ref cz])) :: (mp, jaP g 10 T) :: (rp, jaL g 40 row) :: (lt, .inr (2, [.ref vr, .int lk, .int cd])) :: (vr, jaL g 4 vv) :: (jpl (fun i => (qs i, .inr (1, [.ref (cs9 i), .int (nI (pn i))]))) N ++ jpl (fun i => (cs9 i, jaI g 224 (pf i))) N))) (fun (x9_ : Nat × Int64) => match x9_ with | (i, d0) => (i ≤ N) ∧ (jDp pn pf (N - i) i d0 = jDp pn pf N 0 (jMx 373 (nI N).toInt64))) (fun (x9_ : Nat × Int64) => match x9_ with | (i, d0) => N - i) (fun x_ hi_2 ih_1 => ?_) (0, jMx 373 (nI N).toInt64) ⟨(by omega), rfl⟩ rfl rfl
  obtain ⟨i, d0⟩ := x_
  obtain ⟨hI0, hI1⟩ := (show (i ≤ N) ∧ (jDp pn pf (N - i) i d0 = jDp pn pf N 0 (jMx 373 (nI N).toInt64)) from hi_2)
  refine j_eq (pc' := 14) (L' := [(0, .ref x0), (1, .long d0), (3, .int (nI i))]) (st' := []) (ws' := ((x0, .inr (3, [.ref mp, .int (nI N), .ref rp, .int (nI len), .ref lt, .ref p1, .ref p2, .ref cz])) :: (mp, jaP g 10 T) :: (rp, jaL g 40 row) :: (lt, .inr (2, [.ref vr, .int lk, .int cd])) :: (vr, jaL g 4 vv) :: (jpl (fun i => (qs i, .inr (1, [.ref (cs9 i), .int (nI (pn i))]))) N ++ jpl (fun i => (cs9 i, jaI g 224 (pf i))) N))) ?_ rfl rfl rfl rfl
  refine j_iload_n 2 C dX4_digest_14 rfl rfl ?_
  refine j_aload_n 0 C dX4_digest_15 rfl rfl ?_
  refine j_get (Cn := RX4) (T := TX4) (N := 8) 0 1 C dX4_digest_16 hin_X4_digest_X4 rfl rfl (by decide) (List.mem_of_getElem? (i := 2) rfl) rfl ?_
  refine j_icmp_ge (tgt := 57) C dX4_digest_19 (by decide) (fun c_3 => ?_) (fun c_3 => ?_)
  · skip
    have c_3 : N ≤ i := (nI_leI (a := N) (b := i) (by omega) (by omega)).mp c_3
    refine j_lload_n 1 C dX4_digest_57 rfl rfl ?_
    refine j_aload_n 0 C dX4_digest_58 rfl rfl ?_
    refine j_get (Cn := RX4) (T := TX4) (N := 8) 0 3 C dX4_digest_59 hin_X4_digest_X4 rfl rfl (by decide) (List.mem_of_getElem? (i := 4) rfl) rfl ?_
    refine j_i2l (v := (nI len).toInt64) C dX4_digest_62 rfl ?_
    refine j_callRl (v := jMx d0 ((nI len).toInt64)) (j_runS (As := [.long d0, .long ((nI len).toInt64)]) (rest := []) [] C (c_X4_mix l g d0 ((nI len).toInt64)) gX4_digest_X4_mix rfl rfl rfl hd_X4_mix ⟨Nat.le_of_ble_eq_true rfl, Nat.le_of_ble_eq_true rfl⟩ rfl rfl dX4_digest_63 rfl (Nat.le_of_ble_eq_true rfl) ⟨Nat.le_of_ble_eq_true rfl, Nat.le_of_ble_eq_true rfl⟩) ?_
    refine j_lstore_n (L' := [(0, .ref x0), (1, .long (jMx d0 ((nI len).toInt64))), (3, .int (nI i))]) C dX4_digest_66 rfl (Nat.le_of_ble_eq_true rfl) rfl rfl ?_
    refine j_iconst (v := 0) C dX4_digest_67 rfl ?_
    refine j_istore_n (L' := [(0, .ref x0), (1, .long (jMx d0 ((nI len).toInt64))), (3, .int 0)]) C dX4_digest_68 rfl (Nat.le_of_ble_eq_true rfl) rfl rfl ?_
    refine j_loop (σ := Nat × Int64) (fun (x9_ : Nat × Int64) => match x9_ with | (i, d0) => [(0, .ref x0), (1, .long d0), (3, .int (nI i))]) (fun (x9_ : Nat × Int64) => match x9_ with | (i, d0) => ((x0, .inr (3, [.ref mp, .int (nI N), .ref rp, .int (nI len), .ref lt, .ref p1, .ref p2, .ref cz])) :: (mp, jaP g 10 T) :: (rp, jaL g 40 row) :: (lt, .inr (2, [.ref vr, .int lk, .int cd])) :: (vr, jaL g 4 vv) :: (jpl (fun i => (qs i, .inr (1, [.ref (cs9 i), .int (nI (pn i))]))) N ++ jpl (fun i => (cs9 i, jaI g 224 (pf i))) N))) (fun (x9_ : Nat × Int64) => match x9_ with | (i, d0) => (i ≤ len) ∧ (jDr row (len - i) i d0 = jDr row len 0 (jMx (jDp pn pf N 0 (jMx 373 (nI N).toInt64)) (nI len).toInt64))) (fun (x9_ : Nat × Int64) => match x9_ with | (i, d0) => len - i) (fun x_ hi_5 ih_4 => ?_) (0, jMx d0 (nI len).toInt64) ⟨(by omega), (by rw [show d0 = jDp pn pf N 0 (jMx 373 (nI N).toInt64) by rw [← hI1, show N - i = 0 by omega]; rfl]; rfl)⟩ rfl rfl
    obtain ⟨i, d0⟩ := x_
    obtain ⟨hA0, hA1⟩ := (show (i ≤ len) ∧ (jDr row (len - i) i d0 = jDr row len 0 (jMx (jDp pn pf N 0 (jMx 373 (nI N).toInt64)) (nI len).toInt64)) from hi_5)
    refine j_eq (pc' := 69) (L' := [(0, .ref x0), (1, .long d0), (3, .int (nI i))]) (st' := []) (ws' := ((x0, .inr (3, [.ref mp, .int (nI N), .ref rp, .int (nI len), .ref lt, .ref p1, .ref p2, .ref cz])) :: (mp, jaP g 10 T) :: (rp, jaL g 40 row) :: (lt, .inr (2, [.ref vr, .int lk, .int cd])) :: (vr, jaL g 4 vv) :: (jpl (fun i => (qs i, .inr (1, [.ref (cs9 i), .int (nI (pn i))]))) N ++ jpl (fun i => (cs9 i, jaI g 224 (pf i))) N))) ?_ rfl rfl rfl rfl
    refine j_iload_n 2 C dX4_digest_69 rfl rfl ?_
    refine j_aload_n 0 C dX4_digest_70 rfl rfl ?_
    refine j_get (Cn := RX4) (T := TX4) (N := 8) 0 3 C dX4_digest_71 hin_X4_digest_X4 rfl rfl (by decide) (List.mem_of_getElem? (i := 4) rfl) rfl ?_
    refine j_icmp_ge (tgt := 103) C dX4_digest_74 (by decide) (fun c_6 => ?_) (fun c_6 => ?_)
    · skip
      have c_6 : len ≤ i := (nI_leI (a := len) (b := i) (by omega) (by omega)).mp c_6
      refine j_iconst (v := 0) C dX4_digest_103 rfl ?_
      refine j_istore_n (L' := [(0, .ref x0), (1, .long d0), (3, .int 0)]) C dX4_digest_104 rfl (Nat.le_of_ble_eq_true rfl) rfl rfl ?_
      refine j_loop (σ := Nat × Int64) (fun (x9_ : Nat × Int64) => match x9_ with | (w, e0) => [(0, .ref x0), (1, .long e0), (3, .int (nI w))]) (fun (x9_ : Nat × Int64) => match x9_ with | (w, e0) => ((x0, .inr (3, [.ref mp, .int (nI N), .ref rp, .int (nI len), .ref lt, .ref p1, .ref p2, .ref cz])) :: (mp, jaP g 10 T) :: (rp, jaL g 40 row) :: (lt, .inr (2, [.ref vr, .int lk, .int cd])) :: (vr, jaL g 4 vv) :: (jpl (fun i => (qs i, .inr (1, [.ref (cs9 i), .int (nI (pn i))]))) N ++ jpl (fun i => (cs9 i, jaI g 224 (pf i))) N))) (fun (x9_ : Nat × Int64) => match x9_ with | (w, e0) => (w ≤ 5) ∧ (jDr (jRan vv lk) (5 - w) w e0 = jDG N pn pf row len (jRan vv lk))) (fun (x9_ : Nat × Int64) => match x9_ with | (w, e0) => 5 - w) (fun x_ hi_8 ih_7 => ?_) (0, d0) ⟨(by omega), (by have hd0 : d0 = jDr row len 0 (jMx (jDp pn pf N 0 (jMx 373 (nI N).toInt64)) (nI len).toInt64) := (by rw [← hA1, show len - i = 0 by omega]; rfl); rw [hd0]; rfl)⟩ rfl rfl
      obtain ⟨w, e0⟩ := x_
      obtain ⟨hB0, hB1⟩ := (show (w ≤ 5) ∧ (jDr (jRan vv lk) (5 - w) w e0 = jDG N pn pf row len (jRan vv lk)) from hi_8)
      refine j_eq (pc' := 105) (L' := [(0, .ref x0), (1, .long e0), (3, .int (nI w))]) (st' := []) (ws' := ((x0, .inr (3, [.ref mp, .int (nI N), .ref rp, .int (nI len), .ref lt, .ref p1, .ref p2, .ref cz])) :: (mp, jaP g 10 T) :: (rp, jaL g 40 row) :: (lt, .inr (2, [.ref vr, .int lk, .int cd])) :: (vr, jaL g 4 vv) :: (jpl (fun i => (qs i, .inr (1, [.ref (cs9 i), .int (nI (pn i))]))) N ++ jpl (fun i => (cs9 i, jaI g 224 (pf i))) N))) ?_ rfl rfl rfl rfl
      refine j_iload_n 2 C dX4_digest_105 rfl rfl ?_
      refine j_iconst (v := 5) C dX4_digest_106 rfl ?_
      refine j_icmp_ge (tgt := 129) C dX4_digest_107 (by decide) (fun c_9 => ?_) (fun c_9 => ?_)
      · skip
        have c_9 : 5 ≤ w := (nI_leI (a := 5) (b := w) (by omega) (by omega)).mp c_9
        refine j_lload_n 1 C dX4_digest_129 rfl rfl ?_
        exact j_lretW (v := e0) C hr dX4_digest_130 () (by rw [← hB1, show 5 - w = 0 by omega]; rfl) rfl
      · skip
        have c_9 : ¬ 5 ≤ w := fun z => c_9 ((nI_leI (a := 5) (b := w) (by omega) (by omega)).mpr z)
        rcases (show w = 4 ∨ w < 4 by omega) with hw4 | hw4
        · skip
          refine j_eq (pc' := 110) (L' := [(0, .ref x0), (1, .long e0), (3, .int 4)]) (st' := []) (ws' := ((x0, .inr (3, [.ref mp, .int (nI N), .ref rp, .int (nI len), .ref lt, .ref p1, .ref p2, .ref cz])) :: (mp, jaP g 10 T) :: (rp, jaL g 40 row) :: (lt, .inr (2, [.ref vr, .int lk, .int cd])) :: (vr, jaL g 4 vv) :: (jpl (fun i => (qs i, .inr (1, [.ref (cs9 i), .int (nI (pn i))]))) N ++ jpl (fun i => (cs9 i, jaI g 224 (pf i))) N))) ?_ rfl (by subst hw4; rfl) rfl rfl
          refine j_lload_n 1 C dX4_digest_110 rfl rfl ?_
          refine j_aload_n 0 C dX4_digest_111 rfl rfl ?_
          refine j_get (Cn := RX4) (T := TX4) (N := 8) 0 4 C dX4_digest_112 hin_X4_digest_X4 rfl rfl (by decide) (List.mem_of_getElem? (i := 6) rfl) rfl ?_
          refine j_iload_n 2 C dX4_digest_115 rfl rfl ?_
          refine j_callRl (v := lk.toInt64) (j_runV (ci := 3) (As := [.int 4]) (rest := [.long e0]) [3, 4] C (c_X3_fact_4 l g lt vr lk cd vv) gX4_digest_X3_fact rfl rfl rfl hd_X3_fact ⟨Nat.le_of_ble_eq_true rfl, Nat.le_of_ble_eq_true rfl⟩ rfl rfl rfl rfl dX4_digest_116 rfl (Nat.le_of_ble_eq_true rfl) ⟨Nat.le_of_ble_eq_true rfl, Nat.le_of_ble_eq_true rfl⟩) ?_
          refine j_callRl (v := jMx e0 lk.toInt64) (j_runS (As := [.long e0, .long lk.toInt64]) (rest := []) [] C (c_X4_mix l g e0 lk.toInt64) gX4_digest_X4_mix rfl rfl rfl hd_X4_mix ⟨Nat.le_of_ble_eq_true rfl, Nat.le_of_ble_eq_true rfl⟩ rfl rfl dX4_digest_119 rfl (Nat.le_of_ble_eq_true rfl) ⟨Nat.le_of_ble_eq_true rfl, Nat.le_of_ble_eq_true rfl⟩) ?_
          refine j_lstore_n (L' := [(0, .ref x0), (1, .long (jMx e0 lk.toInt64)), (3, .int 4)]) C dX4_digest_122 rfl (Nat.le_of_ble_eq_true rfl) rfl rfl ?_
          refine j_iinc (v := nI (4 + 1)) (L' := [(0, .ref x0), (1, .long (jMx e0 lk.toInt64)), (3, .int (nI (4 + 1)))]) 2 C dX4_digest_123 rfl (nI_add 4 1) (Nat.le_of_ble_eq_true rfl) rfl rfl ?_
          refine j_goto (tgt := 105) C dX4_digest_126 (by decide) ?_
          exact ih_7 (4 + 1, jMx e0 lk.toInt64) ⟨(by omega), (by rw [← hB1, hw4]; rfl)⟩ (show 5 - (4 + 1) < 5 - w from by omega)
        · skip
          refine j_lload_n 1 C dX4_digest_110 rfl rfl ?_
          refine j_aload_n 0 C dX4_digest_111 rfl rfl ?_
          refine j_get (Cn := RX4) (T := TX4) (N := 8) 0 4 C dX4_digest_112 hin_X4_digest_X4 rfl rfl (by decide) (List.mem_of_getElem? (i := 6) rfl) rfl ?_
          refine j_iload_n 2 C dX4_digest_115 rfl rfl ?_
          refine j_callRl (v := vv w) (j_runV (ci := 3) (As := [.int (nI w)]) (rest := [.long e0]) [3, 4] C (c_X3_fact l g lt vr lk cd vv w (by omega)) gX4_digest_X3_fact rfl rfl rfl hd_X3_fact ⟨Nat.le_of_ble_eq_true rfl, Nat.le_of_ble_eq_true rfl⟩ rfl rfl rfl rfl dX4_digest_116 rfl (Nat.le_of_ble_eq_true rfl) ⟨Nat.le_of_ble_eq_true rfl, Nat.le_of_ble_eq_true rfl⟩) ?_
          refine j_callRl (v := jMx e0 (vv w)) (j_runS (As := [.long e0, .long (vv w)]) (rest := []) [] C (c_X4_mix l g e0 (vv w)) gX4_digest_X4_mix rfl rfl rfl hd_X4_mix ⟨Nat.le_of_ble_eq_true rfl, Nat.le_of_ble_eq_true rfl⟩ rfl rfl dX4_digest_119 rfl (Nat.le_of_ble_eq_true rfl) ⟨Nat.le_of_ble_eq_true rfl, Nat.le_of_ble_eq_true rfl⟩) ?_
          refine j_lstore_n (L' := [(0, .ref x0), (1, .long (jMx e0 (vv w))), (3, .int (nI w))]) C dX4_digest_122 rfl (Nat.le_of_ble_eq_true rfl) rfl rfl ?_
          refine j_iinc (v := nI (w + 1)) (L' := [(0, .ref x0), (1, .long (jMx e0 (vv w))), (3, .int (nI (w + 1)))]) 2 C dX4_digest_123 rfl (nI_add w 1) (Nat.le_of_ble_eq_true rfl) rfl rfl ?_
          refine j_goto (tgt := 105) C dX4_digest_126 (by decide) ?_
          exact ih_7 (w + 1, jMx e0 (vv w)) ⟨(by omega), (by rw [← hB1, show 5 - w = (5 - (w + 1)) + 1 by omega, jDr_s, show jRan vv lk w = vv w from if_pos (by omega)])⟩ (show 5 - (w + 1) < 5 - w from by omega)
    · skip
      have c_6 : ¬ len ≤ i := fun z => c_6 ((nI_leI (a := len) (b := i) (by omega) (by omega)).mpr z)
      refine j_iload_n 2 C dX4_digest_77 rfl rfl ?_
      refine j_aload_n 0 C dX4_digest_78 rfl rfl ?_
      refine j_get (Cn := RX4) (T := TX4) (N := 8) 0 2 C dX4_digest_79 hin_X4_digest_X4 rfl rfl (by decide) (List.mem_of_getElem? (i := 5) rfl) rfl ?_
      refine j_alenL (v := 40) 2 C dX4_digest_82 rfl rfl ?_
      refine j_icmp_ge (tgt := 103) C dX4_digest_83 (by decide) (fun c_10 => ?_) (fun c_10 => ?_)
      · skip
        have c_10 : 40 ≤ i := (nI_leI (a := 40) (b := i) (by omega) (by omega)).mp c_10
        exact absurd c_10 (by omega)
      · skip
        have c_10 : ¬ 40 ≤ i := fun z => c_10 ((nI_leI (a := 40) (b := i) (by omega) (by omega)).mpr z)
        refine j_lload_n 1 C dX4_digest_86 rfl rfl ?_
        refine j_aload_n 0 C dX4_digest_87 rfl rfl ?_
        refine j_get (Cn := RX4) (T := TX4) (N := 8) 0 2 C dX4_digest_88 hin_X4_digest_X4 rfl rfl (by decide) (List.mem_of_getElem? (i := 5) rfl) rfl ?_
        refine j_iload_n 2 C dX4_digest_91 rfl rfl ?_
        refine j_laldN (x := i) 2 C dX4_digest_92 rfl rfl (by omega) (by decide) ?_
        refine j_callRl (v := jMx d0 (row i)) (j_runS (As := [.long d0, .long (row i)]) (rest := []) [] C (c_X4_mix l g d0 (row i)) gX4_digest_X4_mix rfl rfl rfl hd_X4_mix ⟨Nat.le_of_ble_eq_true rfl, Nat.le_of_ble_eq_true rfl⟩ rfl rfl dX4_digest_93 rfl (Nat.le_of_ble_eq_true rfl) ⟨Nat.le_of_ble_eq_true rfl, Nat.le_of_ble_eq_true rfl⟩) ?_
        refine j_lstore_n (L' := [(0, .ref x0), (1, .long (jMx d0 (row i))), (3, .int (nI i))]) C dX4_digest_96 rfl (Nat.le_of_ble_eq_true rfl) rfl rfl ?_
        refine j_iinc (v := nI (i + 1)) (L' := [(0, .ref x0), (1, .long (jMx d0 (row i))), (3, .int (nI (i + 1)))]) 2 C dX4_digest_97 rfl (nI_add i 1) (Nat.le_of_ble_eq_true rfl) rfl rfl ?_
        refine j_goto (tgt := 69) C dX4_digest_100 (by decide) ?_
        exact ih_4 (i + 1, jMx d0 (row i)) ⟨(by omega), (by rw [← hA1, show len - i = (len - (i + 1)) + 1 by omega, jDr_s])⟩ (show len - (i + 1) < len - i from by omega)
  · skip
    have c_3 : ¬ N ≤ i := fun z => c_3 ((nI_leI (a := N) (b := i) (by omega) (by omega)).mpr z)
    refine j_iload_n 2 C dX4_digest_22 rfl rfl ?_
    refine j_aload_n 0 C dX4_digest_23 rfl rfl ?_
    refine j_get (Cn := RX4) (T := TX4) (N := 8) 0 0 C dX4_digest_24 hin_X4_digest_X4 rfl rfl (by decide) (List.mem_of_getElem? (i := 3) rfl) rfl ?_
    refine j_alenP (v := 10) 1 C dX4_digest_27 rfl rfl ?_
    refine j_icmp_ge (tgt := 57) C dX4_digest_28 (by decide) (fun c_11 => ?_) (fun c_11 => ?_)
    · skip
      have c_11 : 10 ≤ i := (nI_leI (a := 10) (b := i) (by omega) (by omega)).mp c_11
      exact absurd c_11 (by omega)
    · skip
      have c_11 : ¬ 10 ≤ i := fun z => c_11 ((nI_leI (a := 10) (b := i) (by omega) (by omega)).mpr z)
      refine j_perm (ws' := ((x0, .inr (3, [.ref mp, .int (nI N), .ref rp, .int (nI len), .ref lt, .ref p1, .ref p2, .ref cz])) :: (mp, jaP g 10 T) :: (rp, jaL g 40 row) :: (lt, .inr (2, [.ref vr, .int lk, .int cd])) :: (vr, jaL g 4 vv) :: (qs i, .inr (1, [.ref (cs9 i), .int (nI (pn i))])) :: (cs9 i, jaI g 224 (pf i)) :: (jrest (fun i => (qs i, .inr (1, [.ref (cs9 i), .int (nI (pn i))]))) N i ++ jrest (fun i => (cs9 i, jaI g 224 (pf i))) N i))) (by repeat (first | exact jpl_p2 (F := (fun i => (qs i, .inr (1, [.ref (cs9 i), .int (nI (pn i))])))) (G := (fun i => (cs9 i, jaI g 224 (pf i)))) (by omega) | apply List.Perm.cons)) ?_
      obtain ⟨hn8, hs⟩ := hw i (by omega)
      refine j_aload_n 0 C dX4_digest_31 rfl rfl ?_
      refine j_get (Cn := RX4) (T := TX4) (N := 8) 0 0 C dX4_digest_32 hin_X4_digest_X4 rfl rfl (by decide) (List.mem_of_getElem? (i := 3) rfl) rfl ?_
      refine j_iload_n 2 C dX4_digest_35 rfl rfl ?_
      refine j_aldPN (x := i) 1 C dX4_digest_36 rfl rfl (by omega) (by decide) ?_
      refine j_eq (pc' := 37) (L' := [(0, .ref x0), (1, .long d0), (3, .int (nI i))]) (st' := [.ref (qs i)]) (ws' := ((x0, .inr (3, [.ref mp, .int (nI N), .ref rp, .int (nI len), .ref lt, .ref p1, .ref p2, .ref cz])) :: (mp, jaP g 10 T) :: (rp, jaL g 40 row) :: (lt, .inr (2, [.ref vr, .int lk, .int cd])) :: (vr, jaL g 4 vv) :: (qs i, .inr (1, [.ref (cs9 i), .int (nI (pn i))])) :: (cs9 i, jaI g 224 (pf i)) :: (jrest (fun i => (qs i, .inr (1, [.ref (cs9 i), .int (nI (pn i))]))) N i ++ jrest (fun i => (cs9 i, jaI g 224 (pf i))) N i))) ?_ rfl rfl (by rw [hT i (by omega)]; rfl) rfl
      refine j_astore (L' := [(0, .ref x0), (1, .long d0), (3, .int (nI i)), (4, .ref (qs i))]) C dX4_digest_37 (Nat.le_of_ble_eq_true rfl) rfl rfl ?_
      refine j_aload 3 C dX4_digest_39 rfl ?_
      refine j_ifnull C dX4_digest_41 ?_
      refine j_aload 3 C dX4_digest_44 rfl ?_
      refine j_lload_n 1 C dX4_digest_46 rfl rfl ?_
      refine j_callRl (v := jML (pf i) (pn i) 0 (jMx d0 (nI (pn i)).toInt64)) (j_runV (ci := 5) (As := [.long d0]) (rest := []) [5, 6] C (c_X1_mixInto l g (qs i) (cs9 i) (pn i) (pf i) d0 (by omega) (by omega)) gX4_digest_X1_mixInto rfl rfl rfl hd_X1_mixInto ⟨Nat.le_of_ble_eq_true rfl, Nat.le_of_ble_eq_true rfl⟩ rfl rfl rfl rfl dX4_digest_47 rfl (Nat.le_of_ble_eq_true rfl) ⟨Nat.le_of_ble_eq_true rfl, Nat.le_of_ble_eq_true rfl⟩) ?_
      refine j_lstore_n (L' := [(0, .ref x0), (1, .long (jML (pf i) (pn i) 0 (jMx d0 (nI (pn i)).toInt64))), (3, .int (nI i)), (4, .ref (qs i))]) C dX4_digest_50 rfl (Nat.le_of_ble_eq_true rfl) rfl rfl ?_
      refine j_perm (ws' := ((x0, .inr (3, [.ref mp, .int (nI N), .ref rp, .int (nI len), .ref lt, .ref p1, .ref p2, .ref cz])) :: (mp, jaP g 10 T) :: (rp, jaL g 40 row) :: (lt, .inr (2, [.ref vr, .int lk, .int cd])) :: (vr, jaL g 4 vv) :: (jpl (fun i => (qs i, .inr (1, [.ref (cs9 i), .int (nI (pn i))]))) N ++ jpl (fun i => (cs9 i, jaI g 224 (pf i))) N))) (by repeat (first | exact jpl_q2 (F := (fun i => (qs i, .inr (1, [.ref (cs9 i), .int (nI (pn i))])))) (G := (fun i => (cs9 i, jaI g 224 (pf i)))) (by omega) | apply List.Perm.cons)) ?_
      refine j_iinc (v := nI (i + 1)) (L' := [(0, .ref x0), (1, .long (jML (pf i) (pn i) 0 (jMx d0 (nI (pn i)).toInt64))), (3, .int (nI (i + 1))), (4, .ref (qs i))]) 2 C dX4_digest_51 rfl (nI_add i 1) (Nat.le_of_ble_eq_true rfl) rfl rfl ?_
      refine j_goto (tgt := 14) C dX4_digest_54 (by decide) ?_
      refine j_pick (L' := [(0, .ref x0), (1, .long (jML (pf i) (pn i) 0 (jMx d0 (nI (pn i)).toInt64))), (3, .int (nI (i + 1)))]) [0, 1, 2] rfl ?_
      exact ih_1 (i + 1, jML (pf i) (pn i) 0 (jMx d0 (nI (pn i)).toInt64)) ⟨(by omega), (by rw [← hI1, show N - i = (N - (i + 1)) + 1 by omega, jDp_s])⟩ (show N - (i + 1) < N - i from by omega)
