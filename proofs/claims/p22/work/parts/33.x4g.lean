set_option maxRecDepth 100000 in
theorem hin_X4_cost_X4 : ∀ w ∈ u_ws RX4 TX4 8, w ∈ wsX4_cost := fun w h => List.mem_cons_of_mem _ (by exact List.mem_append_left _ (List.mem_append_left _ (List.mem_append_left _ (List.mem_append_left _ (List.mem_append_left _ (List.mem_append_right _ h))))))
set_option maxRecDepth 100000 in
theorem hin_X4_cost_X0 : ∀ w ∈ u_ws RX0 TX0 3, w ∈ wsX4_cost := fun w h => List.mem_cons_of_mem _ (by exact List.mem_append_left _ (List.mem_append_left _ (List.mem_append_left _ (List.mem_append_left _ (List.mem_append_right _ h)))))
theorem hd_X3_countLooks : yX3_countLooks.cls = RX3 ∧ yX3_countLooks.cls ≠ "java/lang/invoke/MethodHandle" ∧ yX3_countLooks.cls ≠ "java/lang/invoke/VarHandle" ∧ (parseMethodDescriptor yX3_countLooks.desc).map (fun d => d.parameters.length) = some 0 := by decide +kernel
set_option maxRecDepth 100000 in
theorem hin_X4_exits_X4 : ∀ w ∈ u_ws RX4 TX4 8, w ∈ wsX4_exits := fun w h => List.mem_cons_of_mem _ (by exact List.mem_append_left _ (List.mem_append_left _ (List.mem_append_left _ (List.mem_append_left _ (List.mem_append_left _ (List.mem_append_right _ h))))))
set_option maxRecDepth 100000 in
theorem hin_X4_exits_X0 : ∀ w ∈ u_ws RX0 TX0 3, w ∈ wsX4_exits := fun w h => List.mem_cons_of_mem _ (by exact List.mem_append_left _ (List.mem_append_left _ (List.mem_append_left _ (List.mem_append_left _ (List.mem_append_right _ h)))))
theorem hd_X3_codeOfExit : yX3_codeOfExit.cls = RX3 ∧ yX3_codeOfExit.cls ≠ "java/lang/invoke/MethodHandle" ∧ yX3_codeOfExit.cls ≠ "java/lang/invoke/VarHandle" ∧ (parseMethodDescriptor yX3_codeOfExit.desc).map (fun d => d.parameters.length) = some 0 := by decide +kernel
set_option maxHeartbeats 4000000 in
set_option maxRecDepth 100000 in
theorem c_X4_cost_true (l : Launch) (g : jG) (x0 mp N rp : Nat) (rl : Int32) (lt p1 p2 cz : Nat) (T : Nat → Option Nat) (k : Nat) (q ca n : Nat) (f : Nat → Int32) (dg : Nat) (ln gd : Int32) (h0 : Nat → Int64) (v1 : Nat) (lka cda : Int32) (wa : Nat → Int64) (d v : Nat) (hk : k < N) (hN : N ≤ 10) (hq : T k = some q) (hok : jOk n f) (hd : d ≤ 6) (hv : v ≤ 4) (hv1 : 1 ≤ v) (hp : v ^ d ≤ 1024) (hI : ∀ x, x + 1 < v ^ d → jInc (nI (v - 1)).toInt64 d (jCs d v x) = jCs d v (x + 1)) : jXi l yX4_cost wsX4_cost ({ frames := 6, cells := 0, slots := 0, locals := 148 }) g [.ref x0, .int (nI k), .int (nI d), .int (nI v), .int (jb true)] [(x0, .inr (3, [.ref mp, .int (nI N), .ref rp, .int rl, .ref lt, .ref p1, .ref p2, .ref cz])), (mp, jaP g 10 T), (q, .inr (1, [.ref ca, .int (nI n)])), (ca, jaI g 224 f), (cz, .inr (0, [.ref dg, .int ln, .int gd])), (dg, jaL g 6 h0), (p1, .inr (2, [.ref v1, .int lka, .int cda])), (v1, jaL g 4 wa)] (fun (u9_ : Int32 × Int32 × (Nat → Int64) × (Nat → Int64)) => [(x0, .inr (3, [.ref mp, .int (nI N), .ref rp, .int rl, .ref lt, .ref p1, .ref p2, .ref cz])), (mp, jaP g 10 T), (q, .inr (1, [.ref ca, .int (nI n)])), (ca, jaI g 224 f), (cz, .inr (0, [.ref dg, .int (nI d), .int (nI (v - 1))])), (dg, jaL g 6 u9_.2.2.2), (p1, .inr (2, [.ref v1, .int u9_.1, .int u9_.2.1])), (v1, jaL g 4 u9_.2.2.1)]) (jCo true (jKx n f d v) (v ^ d) 0 0) := by
  refine j_enterW (y := yX4_cost) (wsy := wsX4_cost) (rm := { frames := 6, cells := 0, slots := 0, locals := 148 }) (g := g) (As := [.ref x0, .int (nI k), .int (nI d), .int (nI v), .int (jb true)]) (wc := [(x0, .inr (3, [.ref mp, .int (nI N), .ref rp, .int rl, .ref lt, .ref p1, .ref p2, .ref cz])), (mp, jaP g 10 T), (q, .inr (1, [.ref ca, .int (nI n)])), (ca, jaI g 224 f), (cz, .inr (0, [.ref dg, .int ln, .int gd])), (dg, jaL g 6 h0), (p1, .inr (2, [.ref v1, .int lka, .int cda])), (v1, jaL g 4 wa)]) (mc := 0) (ms := 0) (Qc := fun sz_ => va_Qi (fun r (_ : Int32 × Int32 × (Nat → Int64) × (Nat → Int64)) => r = jCo true (jKx n f d v) (v ^ d) 0 0) (fun u t => va_P g.1 vwCl ((fun (u9_ : Int32 × Int32 × (Nat → Int64) × (Nat → Int64)) => [(x0, .inr (3, [.ref mp, .int (nI N), .ref rp, .int rl, .ref lt, .ref p1, .ref p2, .ref cz])), (mp, jaP g 10 T), (q, .inr (1, [.ref ca, .int (nI n)])), (ca, jaI g 224 f), (cz, .inr (0, [.ref dg, .int (nI d), .int (nI (v - 1))])), (dg, jaL g 6 u9_.2.2.2), (p1, .inr (2, [.ref v1, .int u9_.1, .int u9_.2.1])), (v1, jaL g 4 u9_.2.2.1)]) u) t.heap) (va_A [(x0, .inr (3, [.ref mp, .int (nI N), .ref rp, .int rl, .ref lt, .ref p1, .ref p2, .ref cz])), (mp, jaP g 10 T), (q, .inr (1, [.ref ca, .int (nI n)])), (ca, jaI g 224 f), (cz, .inr (0, [.ref dg, .int ln, .int gd])), (dg, jaL g 6 h0), (p1, .inr (2, [.ref v1, .int lka, .int cda])), (v1, jaL g 4 wa)] sz_)) (cc := cX4_cost) (maxL := 11) (ret := (some .int)) (own := RX4) (L := [(0, .ref x0), (1, .int (nI k)), (2, .int (nI d)), (3, .int (nI v)), (4, .int (jb true))]) (by decide) rfl rfl (Nat.le_of_ble_eq_true rfl) rfl (fun p e s m args below meth c C hr => ?_)
  refine j_aload_n 0 C dX4_cost_0 rfl rfl ?_
  refine j_iload_n 1 C dX4_cost_1 rfl rfl ?_
  refine j_callRr (v := q) (j_runV (ci := 0) (As := [.int (nI k)]) (rest := []) [0, 1] C (c_X4_programAt l g x0 mp N rp rl lt p1 p2 cz T k q (by omega) (by omega) hq) gX4_cost_X4_programAt rfl rfl rfl hd_X4_programAt ⟨Nat.le_of_ble_eq_true rfl, Nat.le_of_ble_eq_true rfl⟩ rfl rfl rfl rfl dX4_cost_2 rfl (Nat.le_of_ble_eq_true rfl) ⟨Nat.le_of_ble_eq_true rfl, Nat.le_of_ble_eq_true rfl⟩) ?_
  refine j_astore (L' := [(0, .ref x0), (1, .int (nI k)), (2, .int (nI d)), (3, .int (nI v)), (4, .int (jb true)), (5, .ref q)]) C dX4_cost_5 (Nat.le_of_ble_eq_true rfl) rfl rfl ?_
  refine j_iload_n 2 C dX4_cost_7 rfl rfl ?_
  refine j_iload_n 3 C dX4_cost_8 rfl rfl ?_
  refine j_callRi (v := nI (v ^ d)) (j_runS (As := [.int (nI d), .int (nI v)]) (rest := []) [] C (c_X4_checkedRows l g d v (by omega) (by omega) (by omega) (by omega)) gX4_cost_X4_checkedRows rfl rfl rfl hd_X4_checkedRows ⟨Nat.le_of_ble_eq_true rfl, Nat.le_of_ble_eq_true rfl⟩ rfl rfl dX4_cost_9 rfl (Nat.le_of_ble_eq_true rfl) ⟨Nat.le_of_ble_eq_true rfl, Nat.le_of_ble_eq_true rfl⟩) ?_
  refine j_istore (L' := [(0, .ref x0), (1, .int (nI k)), (2, .int (nI d)), (3, .int (nI v)), (4, .int (jb true)), (5, .ref q), (6, .int (nI (v ^ d)))]) C dX4_cost_12 (Nat.le_of_ble_eq_true rfl) rfl rfl ?_
  refine j_iconst (v := 0) C dX4_cost_14 rfl ?_
  refine j_istore (L' := [(0, .ref x0), (1, .int (nI k)), (2, .int (nI d)), (3, .int (nI v)), (4, .int (jb true)), (5, .ref q), (6, .int (nI (v ^ d))), (7, .int 0)]) C dX4_cost_15 (Nat.le_of_ble_eq_true rfl) rfl rfl ?_
  refine j_iconst (v := 0) C dX4_cost_17 rfl ?_
  refine j_istore (L' := [(0, .ref x0), (1, .int (nI k)), (2, .int (nI d)), (3, .int (nI v)), (4, .int (jb true)), (5, .ref q), (6, .int (nI (v ^ d))), (7, .int 0), (8, .int 0)]) C dX4_cost_18 (Nat.le_of_ble_eq_true rfl) rfl rfl ?_
  refine j_aload_n 0 C dX4_cost_20 rfl rfl ?_
  refine j_get (Cn := RX4) (T := TX4) (N := 8) 0 7 C dX4_cost_21 hin_X4_cost_X4 rfl rfl (by decide) (List.mem_of_getElem? (i := 1) rfl) rfl ?_
  refine j_iload_n 2 C dX4_cost_24 rfl rfl ?_
  refine j_iload_n 3 C dX4_cost_25 rfl rfl ?_
  refine j_callWv [4, 5] (fun _ => [(x0, .inr (3, [.ref mp, .int (nI N), .ref rp, .int rl, .ref lt, .ref p1, .ref p2, .ref cz])), (mp, jaP g 10 T), (q, .inr (1, [.ref ca, .int (nI n)])), (ca, jaI g 224 f), (cz, .inr (0, [.ref dg, .int (nI d), .int (nI (v - 1))])), (dg, jaL g 6 (fun _ => 0)), (p1, .inr (2, [.ref v1, .int lka, .int cda])), (v1, jaL g 4 wa)]) C (j_runV (ci := 4) (As := [.int (nI d), .int (nI v)]) (rest := []) [4, 5] C (c_X0_begin l g cz dg ln gd h0 d v (by omega)) gX4_cost_X0_begin rfl rfl rfl hd_X0_begin ⟨Nat.le_of_ble_eq_true rfl, Nat.le_of_ble_eq_true rfl⟩ rfl rfl rfl rfl dX4_cost_26 rfl (Nat.le_of_ble_eq_true rfl) ⟨Nat.le_of_ble_eq_true rfl, Nat.le_of_ble_eq_true rfl⟩) rfl (fun _ => rfl) (fun _ => rfl) (fun _ _ => ?_)
  refine j_iconst (v := 0) C dX4_cost_29 rfl ?_
  refine j_istore (L' := [(0, .ref x0), (1, .int (nI k)), (2, .int (nI d)), (3, .int (nI v)), (4, .int (jb true)), (5, .ref q), (6, .int (nI (v ^ d))), (7, .int 0), (8, .int 0), (9, .int 0)]) C dX4_cost_30 (Nat.le_of_ble_eq_true rfl) rfl rfl ?_
  refine j_pick (L' := [(0, .ref x0), (1, .int (nI k)), (2, .int (nI d)), (3, .int (nI v)), (4, .int (jb true)), (5, .ref q), (6, .int (nI (v ^ d))), (7, .int 0), (8, .int 0), (9, .int 0)]) [0, 1, 2, 3, 4, 5, 6, 7, 8, 9] rfl ?_
  refine j_loop (σ := Nat × Int32 × Int32 × Int32 × Int32 × (Nat → Int64) × (Nat → Int64)) (fun (x9_ : Nat × Int32 × Int32 × Int32 × Int32 × (Nat → Int64) × (Nat → Int64)) => match x9_ with | (x, t, z, lk1, cd1, w1, h) => [(0, .ref x0), (1, .int (nI k)), (2, .int (nI d)), (3, .int (nI v)), (4, .int (jb true)), (5, .ref q), (6, .int (nI (v ^ d))), (7, .int t), (8, .int z), (9, .int (nI x))]) (fun (x9_ : Nat × Int32 × Int32 × Int32 × Int32 × (Nat → Int64) × (Nat → Int64)) => match x9_ with | (x, t, z, lk1, cd1, w1, h) => [(x0, .inr (3, [.ref mp, .int (nI N), .ref rp, .int rl, .ref lt, .ref p1, .ref p2, .ref cz])), (mp, jaP g 10 T), (q, .inr (1, [.ref ca, .int (nI n)])), (ca, jaI g 224 f), (cz, .inr (0, [.ref dg, .int (nI d), .int (nI (v - 1))])), (dg, jaL g 6 h), (p1, .inr (2, [.ref v1, .int lk1, .int cd1])), (v1, jaL g 4 w1)]) (fun (x9_ : Nat × Int32 × Int32 × Int32 × Int32 × (Nat → Int64) × (Nat → Int64)) => match x9_ with | (x, t, z, lk1, cd1, w1, h) => (x ≤ v ^ d) ∧ (jCo true (jKx n f d v) (v ^ d - x) x t = jCo true (jKx n f d v) (v ^ d) 0 0) ∧ (jCo false (jKx n f d v) (v ^ d - x) x z = jCo false (jKx n f d v) (v ^ d) 0 0) ∧ (x < v ^ d → h = jCs d v x)) (fun (x9_ : Nat × Int32 × Int32 × Int32 × Int32 × (Nat → Int64) × (Nat → Int64)) => match x9_ with | (x, t, z, lk1, cd1, w1, h) => v ^ d - x) (fun x_ hi_2 ih_1 => ?_) (0, 0, 0, lka, cda, wa, fun _ => 0) ⟨(by omega), rfl, rfl, (fun _ => (jCs_0 d v).symm)⟩ rfl rfl
  obtain ⟨x, t, z, lk1, cd1, w1, h⟩ := x_
  obtain ⟨hI0, hI1, hI2, hH⟩ := (show (x ≤ v ^ d) ∧ (jCo true (jKx n f d v) (v ^ d - x) x t = jCo true (jKx n f d v) (v ^ d) 0 0) ∧ (jCo false (jKx n f d v) (v ^ d - x) x z = jCo false (jKx n f d v) (v ^ d) 0 0) ∧ (x < v ^ d → h = jCs d v x) from hi_2)
  refine j_eq (pc' := 32) (L' := [(0, .ref x0), (1, .int (nI k)), (2, .int (nI d)), (3, .int (nI v)), (4, .int (jb true)), (5, .ref q), (6, .int (nI (v ^ d))), (7, .int t), (8, .int z), (9, .int (nI x))]) (st' := []) (ws' := [(x0, .inr (3, [.ref mp, .int (nI N), .ref rp, .int rl, .ref lt, .ref p1, .ref p2, .ref cz])), (mp, jaP g 10 T), (q, .inr (1, [.ref ca, .int (nI n)])), (ca, jaI g 224 f), (cz, .inr (0, [.ref dg, .int (nI d), .int (nI (v - 1))])), (dg, jaL g 6 h), (p1, .inr (2, [.ref v1, .int lk1, .int cd1])), (v1, jaL g 4 w1)]) ?_ rfl rfl rfl rfl
  refine j_iload 9 C dX4_cost_32 rfl ?_
  refine j_iload 6 C dX4_cost_34 rfl ?_
  refine j_icmp_ge (tgt := 107) C dX4_cost_36 (by decide) (fun c_3 => ?_) (fun c_3 => ?_)
  · skip
    have c_3 : (v ^ d) ≤ x := (nI_leI (a := v ^ d) (b := x) (by omega) (by omega)).mp c_3
    refine j_iload 4 C dX4_cost_107 rfl ?_
    refine j_if_eq (tgt := 117) C dX4_cost_109 (by decide) (fun c_4 => ?_) (fun c_4 => ?_)
    · skip
      have c_4 : true = false := jb_0 c_4
      (first | exact absurd c_4 (by decide) | exact absurd c_4 (by omega) | simp_all)
    · skip
      have c_4 : true = true := jb_1 c_4
      refine j_iload 7 C dX4_cost_112 rfl ?_
      refine j_goto (tgt := 119) C dX4_cost_114 (by decide) ?_
      exact j_iretW (v := t) C hr dX4_cost_119 (lk1, cd1, w1, h) (by first | (rw [← hI1, show v ^ d - x = 0 by omega]; rfl) | (rw [← hI2, show v ^ d - x = 0 by omega]; rfl)) rfl
  · skip
    have c_3 : ¬ (v ^ d) ≤ x := fun z => c_3 ((nI_leI (a := v ^ d) (b := x) (by omega) (by omega)).mpr z)
    have hc := hH (by omega)
    obtain ⟨r1, hr1⟩ : ∃ r, jRn n f h d = r := ⟨_, rfl⟩
    have hK : (jKx n f d v) x = r1.2.1 := by rw [← hr1, hc]; rfl
    refine j_aload_n 0 C dX4_cost_39 rfl rfl ?_
    refine j_get (Cn := RX4) (T := TX4) (N := 8) 0 5 C dX4_cost_40 hin_X4_cost_X4 rfl rfl (by decide) (List.mem_of_getElem? (i := 2) rfl) rfl ?_
    refine j_aload 5 C dX4_cost_43 rfl ?_
    refine j_aload_n 0 C dX4_cost_45 rfl rfl ?_
    refine j_get (Cn := RX4) (T := TX4) (N := 8) 0 7 C dX4_cost_46 hin_X4_cost_X4 rfl rfl (by decide) (List.mem_of_getElem? (i := 1) rfl) rfl ?_
    refine j_getN (Cn := RX0) (T := TX0) (N := 3) 4 0 C dX4_cost_49 hin_X4_cost_X0 rfl rfl (by decide) C.2.2.2.2.2.2.1.2.2.2.2.2.2.2.1 rfl ?_
    refine j_aload_n 0 C dX4_cost_52 rfl rfl ?_
    refine j_get (Cn := RX4) (T := TX4) (N := 8) 0 7 C dX4_cost_53 hin_X4_cost_X4 rfl rfl (by decide) (List.mem_of_getElem? (i := 1) rfl) rfl ?_
    refine j_getN (Cn := RX0) (T := TX0) (N := 3) 4 1 C dX4_cost_56 hin_X4_cost_X0 rfl rfl (by decide) C.2.2.2.2.2.2.1.2.2.2.2.2.2.2.2 rfl ?_
    refine j_callWv [6, 7, 2, 3, 5] (fun _ => [(x0, .inr (3, [.ref mp, .int (nI N), .ref rp, .int rl, .ref lt, .ref p1, .ref p2, .ref cz])), (mp, jaP g 10 T), (q, .inr (1, [.ref ca, .int (nI n)])), (ca, jaI g 224 f), (cz, .inr (0, [.ref dg, .int (nI d), .int (nI (v - 1))])), (dg, jaL g 6 h), (p1, .inr (2, [.ref v1, .int ((jRn n f h d).2.1), .int ((jRn n f h d).2.2)])), (v1, jaL g 4 ((jRn n f h d).1))]) C (j_runV (ci := 6) (As := [.ref q, .ref dg, .int (nI d)]) (rest := []) [6, 7, 2, 3, 5] C (c_X3_goThrough l g p1 v1 lk1 cd1 w1 q ca n f dg d 6 h (by omega) (by omega) (by omega)) gX4_cost_X3_goThrough rfl rfl rfl hd_X3_goThrough ⟨Nat.le_of_ble_eq_true rfl, Nat.le_of_ble_eq_true rfl⟩ rfl rfl rfl rfl dX4_cost_59 rfl (Nat.le_of_ble_eq_true rfl) ⟨Nat.le_of_ble_eq_true rfl, Nat.le_of_ble_eq_true rfl⟩) rfl (fun _ => rfl) (fun _ => rfl) (fun _ _ => ?_)
    refine j_eq (pc' := 62) (L' := [(0, .ref x0), (1, .int (nI k)), (2, .int (nI d)), (3, .int (nI v)), (4, .int (jb true)), (5, .ref q), (6, .int (nI (v ^ d))), (7, .int t), (8, .int z), (9, .int (nI x))]) (st' := []) (ws' := [(x0, .inr (3, [.ref mp, .int (nI N), .ref rp, .int rl, .ref lt, .ref p1, .ref p2, .ref cz])), (mp, jaP g 10 T), (q, .inr (1, [.ref ca, .int (nI n)])), (ca, jaI g 224 f), (cz, .inr (0, [.ref dg, .int (nI d), .int (nI (v - 1))])), (dg, jaL g 6 h), (p1, .inr (2, [.ref v1, .int r1.2.1, .int r1.2.2])), (v1, jaL g 4 r1.1)]) ?_ rfl rfl rfl (by simp only [hr1])
    refine j_aload_n 0 C dX4_cost_62 rfl rfl ?_
    refine j_get (Cn := RX4) (T := TX4) (N := 8) 0 5 C dX4_cost_63 hin_X4_cost_X4 rfl rfl (by decide) (List.mem_of_getElem? (i := 2) rfl) rfl ?_
    refine j_callRi (v := r1.2.1) (j_runV (ci := 6) (As := []) (rest := []) [6, 7] C (c_X3_countLooks l g p1 v1 r1.2.1 r1.2.2 r1.1) gX4_cost_X3_countLooks rfl rfl rfl hd_X3_countLooks ⟨Nat.le_of_ble_eq_true rfl, Nat.le_of_ble_eq_true rfl⟩ rfl rfl rfl rfl dX4_cost_66 rfl (Nat.le_of_ble_eq_true rfl) ⟨Nat.le_of_ble_eq_true rfl, Nat.le_of_ble_eq_true rfl⟩) ?_
    refine j_istore (L' := [(0, .ref x0), (1, .int (nI k)), (2, .int (nI d)), (3, .int (nI v)), (4, .int (jb true)), (5, .ref q), (6, .int (nI (v ^ d))), (7, .int t), (8, .int z), (9, .int (nI x)), (10, .int r1.2.1)]) C dX4_cost_69 (Nat.le_of_ble_eq_true rfl) rfl rfl ?_
    refine j_iload 10 C dX4_cost_71 rfl ?_
    refine j_iload 7 C dX4_cost_73 rfl ?_
    refine j_icmp_le (tgt := 83) C dX4_cost_75 (by decide) (fun c_5 => ?_) (fun c_5 => ?_)
    · skip
      refine j_iload 7 C dX4_cost_83 rfl ?_
      refine j_istore (L' := [(0, .ref x0), (1, .int (nI k)), (2, .int (nI d)), (3, .int (nI v)), (4, .int (jb true)), (5, .ref q), (6, .int (nI (v ^ d))), (7, .int t), (8, .int z), (9, .int (nI x)), (10, .int r1.2.1)]) C dX4_cost_85 (Nat.le_of_ble_eq_true rfl) rfl rfl ?_
      refine j_iload 8 C dX4_cost_87 rfl ?_
      refine j_iload 10 C dX4_cost_89 rfl ?_
      refine j_iadd (x := z) (y := r1.2.1) (v := z + r1.2.1) C dX4_cost_91 rfl ?_
      refine j_istore (L' := [(0, .ref x0), (1, .int (nI k)), (2, .int (nI d)), (3, .int (nI v)), (4, .int (jb true)), (5, .ref q), (6, .int (nI (v ^ d))), (7, .int t), (8, .int (z + r1.2.1)), (9, .int (nI x)), (10, .int r1.2.1)]) C dX4_cost_92 (Nat.le_of_ble_eq_true rfl) rfl rfl ?_
      refine j_aload_n 0 C dX4_cost_94 rfl rfl ?_
      refine j_get (Cn := RX4) (T := TX4) (N := 8) 0 7 C dX4_cost_95 hin_X4_cost_X4 rfl rfl (by decide) (List.mem_of_getElem? (i := 1) rfl) rfl ?_
      refine j_callWv [4, 5] (fun _ => [(x0, .inr (3, [.ref mp, .int (nI N), .ref rp, .int rl, .ref lt, .ref p1, .ref p2, .ref cz])), (mp, jaP g 10 T), (q, .inr (1, [.ref ca, .int (nI n)])), (ca, jaI g 224 f), (cz, .inr (0, [.ref dg, .int (nI d), .int (nI (v - 1))])), (dg, jaL g 6 (jInc (nI (v - 1)).toInt64 d h)), (p1, .inr (2, [.ref v1, .int r1.2.1, .int r1.2.2])), (v1, jaL g 4 r1.1)]) C (j_runV (ci := 4) (As := []) (rest := []) [4, 5] C (c_X0_goOn l g cz dg d (v - 1) h (by omega)) gX4_cost_X0_goOn rfl rfl rfl hd_X0_goOn ⟨Nat.le_of_ble_eq_true rfl, Nat.le_of_ble_eq_true rfl⟩ rfl rfl rfl rfl dX4_cost_98 rfl (Nat.le_of_ble_eq_true rfl) ⟨Nat.le_of_ble_eq_true rfl, Nat.le_of_ble_eq_true rfl⟩) rfl (fun _ => rfl) (fun _ => rfl) (fun _ _ => ?_)
      refine j_iinc (v := nI (x + 1)) (L' := [(0, .ref x0), (1, .int (nI k)), (2, .int (nI d)), (3, .int (nI v)), (4, .int (jb true)), (5, .ref q), (6, .int (nI (v ^ d))), (7, .int t), (8, .int (z + r1.2.1)), (9, .int (nI (x + 1))), (10, .int r1.2.1)]) 9 C dX4_cost_101 rfl (nI_add x 1) (Nat.le_of_ble_eq_true rfl) rfl rfl ?_
      refine j_goto (tgt := 32) C dX4_cost_104 (by decide) ?_
      refine j_pick (L' := [(0, .ref x0), (1, .int (nI k)), (2, .int (nI d)), (3, .int (nI v)), (4, .int (jb true)), (5, .ref q), (6, .int (nI (v ^ d))), (7, .int t), (8, .int (z + r1.2.1)), (9, .int (nI (x + 1)))]) [0, 1, 2, 3, 4, 5, 6, 7, 8, 9] rfl ?_
      exact ih_1 (x + 1, t, z + r1.2.1, r1.2.1, r1.2.2, r1.1, jInc (nI (v - 1)).toInt64 d h) ⟨(by omega), (by rw [← hI1, show v ^ d - x = (v ^ d - (x + 1)) + 1 by omega, jCo_s, if_pos rfl, hK]; first | rw [if_neg (Int32.not_lt.mpr (by assumption))] | rw [if_pos (Int32.not_le.mp (by assumption))]), (by rw [← hI2, show v ^ d - x = (v ^ d - (x + 1)) + 1 by omega, jCo_s, if_neg (by decide), hK]), (fun hx => by rw [← hI _ hx, hc])⟩ (show v ^ d - (x + 1) < v ^ d - x from by omega)
    · skip
      refine j_iload 10 C dX4_cost_78 rfl ?_
      refine j_goto (tgt := 85) C dX4_cost_80 (by decide) ?_
      refine j_istore (L' := [(0, .ref x0), (1, .int (nI k)), (2, .int (nI d)), (3, .int (nI v)), (4, .int (jb true)), (5, .ref q), (6, .int (nI (v ^ d))), (7, .int r1.2.1), (8, .int z), (9, .int (nI x)), (10, .int r1.2.1)]) C dX4_cost_85 (Nat.le_of_ble_eq_true rfl) rfl rfl ?_
      refine j_iload 8 C dX4_cost_87 rfl ?_
      refine j_iload 10 C dX4_cost_89 rfl ?_
      refine j_iadd (x := z) (y := r1.2.1) (v := z + r1.2.1) C dX4_cost_91 rfl ?_
      refine j_istore (L' := [(0, .ref x0), (1, .int (nI k)), (2, .int (nI d)), (3, .int (nI v)), (4, .int (jb true)), (5, .ref q), (6, .int (nI (v ^ d))), (7, .int r1.2.1), (8, .int (z + r1.2.1)), (9, .int (nI x)), (10, .int r1.2.1)]) C dX4_cost_92 (Nat.le_of_ble_eq_true rfl) rfl rfl ?_
      refine j_aload_n 0 C dX4_cost_94 rfl rfl ?_
      refine j_get (Cn := RX4) (T := TX4) (N := 8) 0 7 C dX4_cost_95 hin_X4_cost_X4 rfl rfl (by decide) (List.mem_of_getElem? (i := 1) rfl) rfl ?_
      refine j_callWv [4, 5] (fun _ => [(x0, .inr (3, [.ref mp, .int (nI N), .ref rp, .int rl, .ref lt, .ref p1, .ref p2, .ref cz])), (mp, jaP g 10 T), (q, .inr (1, [.ref ca, .int (nI n)])), (ca, jaI g 224 f), (cz, .inr (0, [.ref dg, .int (nI d), .int (nI (v - 1))])), (dg, jaL g 6 (jInc (nI (v - 1)).toInt64 d h)), (p1, .inr (2, [.ref v1, .int r1.2.1, .int r1.2.2])), (v1, jaL g 4 r1.1)]) C (j_runV (ci := 4) (As := []) (rest := []) [4, 5] C (c_X0_goOn l g cz dg d (v - 1) h (by omega)) gX4_cost_X0_goOn rfl rfl rfl hd_X0_goOn ⟨Nat.le_of_ble_eq_true rfl, Nat.le_of_ble_eq_true rfl⟩ rfl rfl rfl rfl dX4_cost_98 rfl (Nat.le_of_ble_eq_true rfl) ⟨Nat.le_of_ble_eq_true rfl, Nat.le_of_ble_eq_true rfl⟩) rfl (fun _ => rfl) (fun _ => rfl) (fun _ _ => ?_)
      refine j_iinc (v := nI (x + 1)) (L' := [(0, .ref x0), (1, .int (nI k)), (2, .int (nI d)), (3, .int (nI v)), (4, .int (jb true)), (5, .ref q), (6, .int (nI (v ^ d))), (7, .int r1.2.1), (8, .int (z + r1.2.1)), (9, .int (nI (x + 1))), (10, .int r1.2.1)]) 9 C dX4_cost_101 rfl (nI_add x 1) (Nat.le_of_ble_eq_true rfl) rfl rfl ?_
      refine j_goto (tgt := 32) C dX4_cost_104 (by decide) ?_
      refine j_pick (L' := [(0, .ref x0), (1, .int (nI k)), (2, .int (nI d)), (3, .int (nI v)), (4, .int (jb true)), (5, .ref q), (6, .int (nI (v ^ d))), (7, .int r1.2.1), (8, .int (z + r1.2.1)), (9, .int (nI (x + 1)))]) [0, 1, 2, 3, 4, 5, 6, 7, 8, 9] rfl ?_
      exact ih_1 (x + 1, r1.2.1, z + r1.2.1, r1.2.1, r1.2.2, r1.1, jInc (nI (v - 1)).toInt64 d h) ⟨(by omega), (by rw [← hI1, show v ^ d - x = (v ^ d - (x + 1)) + 1 by omega, jCo_s, if_pos rfl, hK]; first | rw [if_neg (Int32.not_lt.mpr (by assumption))] | rw [if_pos (Int32.not_le.mp (by assumption))]), (by rw [← hI2, show v ^ d - x = (v ^ d - (x + 1)) + 1 by omega, jCo_s, if_neg (by decide), hK]), (fun hx => by rw [← hI _ hx, hc])⟩ (show v ^ d - (x + 1) < v ^ d - x from by omega)
set_option maxHeartbeats 4000000 in
set_option maxRecDepth 100000 in
theorem c_X4_cost_false (l : Launch) (g : jG) (x0 mp N rp : Nat) (rl : Int32) (lt p1 p2 cz : Nat) (T : Nat → Option Nat) (k : Nat) (q ca n : Nat) (f : Nat → Int32) (dg : Nat) (ln gd : Int32) (h0 : Nat → Int64) (v1 : Nat) (lka cda : Int32) (wa : Nat → Int64) (d v : Nat) (hk : k < N) (hN : N ≤ 10) (hq : T k = some q) (hok : jOk n f) (hd : d ≤ 6) (hv : v ≤ 4) (hv1 : 1 ≤ v) (hp : v ^ d ≤ 1024) (hI : ∀ x, x + 1 < v ^ d → jInc (nI (v - 1)).toInt64 d (jCs d v x) = jCs d v (x + 1)) : jXi l yX4_cost wsX4_cost ({ frames := 6, cells := 0, slots := 0, locals := 148 }) g [.ref x0, .int (nI k), .int (nI d), .int (nI v), .int (jb false)] [(x0, .inr (3, [.ref mp, .int (nI N), .ref rp, .int rl, .ref lt, .ref p1, .ref p2, .ref cz])), (mp, jaP g 10 T), (q, .inr (1, [.ref ca, .int (nI n)])), (ca, jaI g 224 f), (cz, .inr (0, [.ref dg, .int ln, .int gd])), (dg, jaL g 6 h0), (p1, .inr (2, [.ref v1, .int lka, .int cda])), (v1, jaL g 4 wa)] (fun (u9_ : Int32 × Int32 × (Nat → Int64) × (Nat → Int64)) => [(x0, .inr (3, [.ref mp, .int (nI N), .ref rp, .int rl, .ref lt, .ref p1, .ref p2, .ref cz])), (mp, jaP g 10 T), (q, .inr (1, [.ref ca, .int (nI n)])), (ca, jaI g 224 f), (cz, .inr (0, [.ref dg, .int (nI d), .int (nI (v - 1))])), (dg, jaL g 6 u9_.2.2.2), (p1, .inr (2, [.ref v1, .int u9_.1, .int u9_.2.1])), (v1, jaL g 4 u9_.2.2.1)]) (jCo false (jKx n f d v) (v ^ d) 0 0) := by
  refine j_enterW (y := yX4_cost) (wsy := wsX4_cost) (rm := { frames := 6, cells := 0, slots := 0, locals := 148 }) (g := g) (As := [.ref x0, .int (nI k), .int (nI d), .int (nI v), .int (jb false)]) (wc := [(x0, .inr (3, [.ref mp, .int (nI N), .ref rp, .int rl, .ref lt, .ref p1, .ref p2, .ref cz])), (mp, jaP g 10 T), (q, .inr (1, [.ref ca, .int (nI n)])), (ca, jaI g 224 f), (cz, .inr (0, [.ref dg, .int ln, .int gd])), (dg, jaL g 6 h0), (p1, .inr (2, [.ref v1, .int lka, .int cda])), (v1, jaL g 4 wa)]) (mc := 0) (ms := 0) (Qc := fun sz_ => va_Qi (fun r (_ : Int32 × Int32 × (Nat → Int64) × (Nat → Int64)) => r = jCo false (jKx n f d v) (v ^ d) 0 0) (fun u t => va_P g.1 vwCl ((fun (u9_ : Int32 × Int32 × (Nat → Int64) × (Nat → Int64)) => [(x0, .inr (3, [.ref mp, .int (nI N), .ref rp, .int rl, .ref lt, .ref p1, .ref p2, .ref cz])), (mp, jaP g 10 T), (q, .inr (1, [.ref ca, .int (nI n)])), (ca, jaI g 224 f), (cz, .inr (0, [.ref dg, .int (nI d), .int (nI (v - 1))])), (dg, jaL g 6 u9_.2.2.2), (p1, .inr (2, [.ref v1, .int u9_.1, .int u9_.2.1])), (v1, jaL g 4 u9_.2.2.1)]) u) t.heap) (va_A [(x0, .inr (3, [.ref mp, .int (nI N), .ref rp, .int rl, .ref lt, .ref p1, .ref p2, .ref cz])), (mp, jaP g 10 T), (q, .inr (1, [.ref ca, .int (nI n)])), (ca, jaI g 224 f), (cz, .inr (0, [.ref dg, .int ln, .int gd])), (dg, jaL g 6 h0), (p1, .inr (2, [.ref v1, .int lka, .int cda])), (v1, jaL g 4 wa)] sz_)) (cc := cX4_cost) (maxL := 11) (ret := (some .int)) (own := RX4) (L := [(0, .ref x0), (1, .int (nI k)), (2, .int (nI d)), (3, .int (nI v)), (4, .int (jb false))]) (by decide) rfl rfl (Nat.le_of_ble_eq_true rfl) rfl (fun p e s m args below meth c C hr => ?_)
  refine j_aload_n 0 C dX4_cost_0 rfl rfl ?_
  refine j_iload_n 1 C dX4_cost_1 rfl rfl ?_
  refine j_callRr (v := q) (j_runV (ci := 0) (As := [.int (nI k)]) (rest := []) [0, 1] C (c_X4_programAt l g x0 mp N rp rl lt p1 p2 cz T k q (by omega) (by omega) hq) gX4_cost_X4_programAt rfl rfl rfl hd_X4_programAt ⟨Nat.le_of_ble_eq_true rfl, Nat.le_of_ble_eq_true rfl⟩ rfl rfl rfl rfl dX4_cost_2 rfl (Nat.le_of_ble_eq_true rfl) ⟨Nat.le_of_ble_eq_true rfl, Nat.le_of_ble_eq_true rfl⟩) ?_
  refine j_astore (L' := [(0, .ref x0), (1, .int (nI k)), (2, .int (nI d)), (3, .int (nI v)), (4, .int (jb false)), (5, .ref q)]) C dX4_cost_5 (Nat.le_of_ble_eq_true rfl) rfl rfl ?_
  refine j_iload_n 2 C dX4_cost_7 rfl rfl ?_
  refine j_iload_n 3 C dX4_cost_8 rfl rfl ?_
  refine j_callRi (v := nI (v ^ d)) (j_runS (As := [.int (nI d), .int (nI v)]) (rest := []) [] C (c_X4_checkedRows l g d v (by omega) (by omega) (by omega) (by omega)) gX4_cost_X4_checkedRows rfl rfl rfl hd_X4_checkedRows ⟨Nat.le_of_ble_eq_true rfl, Nat.le_of_ble_eq_true rfl⟩ rfl rfl dX4_cost_9 rfl (Nat.le_of_ble_eq_true rfl) ⟨Nat.le_of_ble_eq_true rfl, Nat.le_of_ble_eq_true rfl⟩) ?_
  refine j_istore (L' := [(0, .ref x0), (1, .int (nI k)), (2, .int (nI d)), (3, .int (nI v)), (4, .int (jb false)), (5, .ref q), (6, .int (nI (v ^ d)))]) C dX4_cost_12 (Nat.le_of_ble_eq_true rfl) rfl rfl ?_
  refine j_iconst (v := 0) C dX4_cost_14 rfl ?_
  refine j_istore (L' := [(0, .ref x0), (1, .int (nI k)), (2, .int (nI d)), (3, .int (nI v)), (4, .int (jb false)), (5, .ref q), (6, .int (nI (v ^ d))), (7, .int 0)]) C dX4_cost_15 (Nat.le_of_ble_eq_true rfl) rfl rfl ?_
  refine j_iconst (v := 0) C dX4_cost_17 rfl ?_
  refine j_istore (L' := [(0, .ref x0), (1, .int (nI k)), (2, .int (nI d)), (3, .int (nI v)), (4, .int (jb false)), (5, .ref q), (6, .int (nI (v ^ d))), (7, .int 0), (8, .int 0)]) C dX4_cost_18 (Nat.le_of_ble_eq_true rfl) rfl rfl ?_
  refine j_aload_n 0 C dX4_cost_20 rfl rfl ?_
  refine j_get (Cn := RX4) (T := TX4) (N := 8) 0 7 C dX4_cost_21 hin_X4_cost_X4 rfl rfl (by decide) (List.mem_of_getElem? (i := 1) rfl) rfl ?_
  refine j_iload_n 2 C dX4_cost_24 rfl rfl ?_
  refine j_iload_n 3 C dX4_cost_25 rfl rfl ?_
  refine j_callWv [4, 5] (fun _ => [(x0, .inr (3, [.ref mp, .int (nI N), .ref rp, .int rl, .ref lt, .ref p1, .ref p2, .ref cz])), (mp, jaP g 10 T), (q, .inr (1, [.ref ca, .int (nI n)])), (ca, jaI g 224 f), (cz, .inr (0, [.ref dg, .int (nI d), .int (nI (v - 1))])), (dg, jaL g 6 (fun _ => 0)), (p1, .inr (2, [.ref v1, .int lka, .int cda])), (v1, jaL g 4 wa)]) C (j_runV (ci := 4) (As := [.int (nI d), .int (nI v)]) (rest := []) [4, 5] C (c_X0_begin l g cz dg ln gd h0 d v (by omega)) gX4_cost_X0_begin rfl rfl rfl hd_X0_begin ⟨Nat.le_of_ble_eq_true rfl, Nat.le_of_ble_eq_true rfl⟩ rfl rfl rfl rfl dX4_cost_26 rfl (Nat.le_of_ble_eq_true rfl) ⟨Nat.le_of_ble_eq_true rfl, Nat.le_of_ble_eq_true rfl⟩) rfl (fun _ => rfl) (fun _ => rfl) (fun _ _ => ?_)
  refine j_iconst (v := 0) C dX4_cost_29 rfl ?_
  refine j_istore (L' := [(0, .ref x0), (1, .int (nI k)), (2, .int (nI d)), (3, .int (nI v)), (4, .int (jb false)), (5, .ref q), (6, .int (nI (v ^ d))), (7, .int 0), (8, .int 0), (9, .int 0)]) C dX4_cost_30 (Nat.le_of_ble_eq_true rfl) rfl rfl ?_
  refine j_pick (L' := [(0, .ref x0), (1, .int (nI k)), (2, .int (nI d)), (3, .int (nI v)), (4, .int (jb false)), (5, .ref q), (6, .int (nI (v ^ d))), (7, .int 0), (8, .int 0), (9, .int 0)]) [0, 1, 2, 3, 4, 5, 6, 7, 8, 9] rfl ?_
  refine j_loop (σ := Nat × Int32 × Int32 × Int32 × Int32 × (Nat → Int64) × (Nat → Int64)) (fun (x9_ : Nat × Int32 × Int32 × Int32 × Int32 × (Nat → Int64) × (Nat → Int64)) => match x9_ with | (x, t, z, lk1, cd1, w1, h) => [(0, .ref x0), (1, .int (nI k)), (2, .int (nI d)), (3, .int (nI v)), (4, .int (jb false)), (5, .ref q), (6, .int (nI (v ^ d))), (7, .int t), (8, .int z), (9, .int (nI x))]) (fun (x9_ : Nat × Int32 × Int32 × Int32 × Int32 × (Nat → Int64) × (Nat → Int64)) => match x9_ with | (x, t, z, lk1, cd1, w1, h) => [(x0, .inr (3, [.ref mp, .int (nI N), .ref rp, .int rl, .ref lt, .ref p1, .ref p2, .ref cz])), (mp, jaP g 10 T), (q, .inr (1, [.ref ca, .int (nI n)])), (ca, jaI g 224 f), (cz, .inr (0, [.ref dg, .int (nI d), .int (nI (v - 1))])), (dg, jaL g 6 h), (p1, .inr (2, [.ref v1, .int lk1, .int cd1])), (v1, jaL g 4 w1)]) (fun (x9_ : Nat × Int32 × Int32 × Int32 × Int32 × (Nat → Int64) × (Nat → Int64)) => match x9_ with | (x, t, z, lk1, cd1, w1, h) => (x ≤ v ^ d) ∧ (jCo true (jKx n f d v) (v ^ d - x) x t = jCo true (jKx n f d v) (v ^ d) 0 0) ∧ (jCo false (jKx n f d v) (v ^ d - x) x z = jCo false (jKx n f d v) (v ^ d) 0 0) ∧ (x < v ^ d → h = jCs d v x)) (fun (x9_ : Nat × Int32 × Int32 × Int32 × Int32 × (Nat → Int64) × (Nat → Int64)) => match x9_ with | (x, t, z, lk1, cd1, w1, h) => v ^ d - x) (fun x_ hi_2 ih_1 => ?_) (0, 0, 0, lka, cda, wa, fun _ => 0) ⟨(by omega), rfl, rfl, (fun _ => (jCs_0 d v).symm)⟩ rfl rfl
  obtain ⟨x, t, z, lk1, cd1, w1, h⟩ := x_
  obtain ⟨hI0, hI1, hI2, hH⟩ := (show (x ≤ v ^ d) ∧ (jCo true (jKx n f d v) (v ^ d - x) x t = jCo true (jKx n f d v) (v ^ d) 0 0) ∧ (jCo false (jKx n f d v) (v ^ d - x) x z = jCo false (jKx n f d v) (v ^ d) 0 0) ∧ (x < v ^ d → h = jCs d v x) from hi_2)
  refine j_eq (pc' := 32) (L' := [(0, .ref x0), (1, .int (nI k)), (2, .int (nI d)), (3, .int (nI v)), (4, .int (jb false)), (5, .ref q), (6, .int (nI (v ^ d))), (7, .int t), (8, .int z), (9, .int (nI x))]) (st' := []) (ws' := [(x0, .inr (3, [.ref mp, .int (nI N), .ref rp, .int rl, .ref lt, .ref p1, .ref p2, .ref cz])), (mp, jaP g 10 T), (q, .inr (1, [.ref ca, .int (nI n)])), (ca, jaI g 224 f), (cz, .inr (0, [.ref dg, .int (nI d), .int (nI (v - 1))])), (dg, jaL g 6 h), (p1, .inr (2, [.ref v1, .int lk1, .int cd1])), (v1, jaL g 4 w1)]) ?_ rfl rfl rfl rfl
  refine j_iload 9 C dX4_cost_32 rfl ?_
  refine j_iload 6 C dX4_cost_34 rfl ?_
  refine j_icmp_ge (tgt := 107) C dX4_cost_36 (by decide) (fun c_3 => ?_) (fun c_3 => ?_)
  · skip
    have c_3 : (v ^ d) ≤ x := (nI_leI (a := v ^ d) (b := x) (by omega) (by omega)).mp c_3
    refine j_iload 4 C dX4_cost_107 rfl ?_
    refine j_if_eq (tgt := 117) C dX4_cost_109 (by decide) (fun c_4 => ?_) (fun c_4 => ?_)
    · skip
      have c_4 : false = false := jb_0 c_4
      refine j_iload 8 C dX4_cost_117 rfl ?_
      exact j_iretW (v := z) C hr dX4_cost_119 (lk1, cd1, w1, h) (by first | (rw [← hI1, show v ^ d - x = 0 by omega]; rfl) | (rw [← hI2, show v ^ d - x = 0 by omega]; rfl)) rfl
    · skip
      have c_4 : false = true := jb_1 c_4
      (first | exact absurd c_4 (by decide) | exact absurd c_4 (by omega) | simp_all)
  · skip
    have c_3 : ¬ (v ^ d) ≤ x := fun z => c_3 ((nI_leI (a := v ^ d) (b := x) (by omega) (by omega)).mpr z)
    have hc := hH (by omega)
    obtain ⟨r1, hr1⟩ : ∃ r, jRn n f h d = r := ⟨_, rfl⟩
    have hK : (jKx n f d v) x = r1.2.1 := by rw [← hr1, hc]; rfl
    refine j_aload_n 0 C dX4_cost_39 rfl rfl ?_
    refine j_get (Cn := RX4) (T := TX4) (N := 8) 0 5 C dX4_cost_40 hin_X4_cost_X4 rfl rfl (by decide) (List.mem_of_getElem? (i := 2) rfl) rfl ?_
    refine j_aload 5 C dX4_cost_43 rfl ?_
    refine j_aload_n 0 C dX4_cost_45 rfl rfl ?_
    refine j_get (Cn := RX4) (T := TX4) (N := 8) 0 7 C dX4_cost_46 hin_X4_cost_X4 rfl rfl (by decide) (List.mem_of_getElem? (i := 1) rfl) rfl ?_
    refine j_getN (Cn := RX0) (T := TX0) (N := 3) 4 0 C dX4_cost_49 hin_X4_cost_X0 rfl rfl (by decide) C.2.2.2.2.2.2.1.2.2.2.2.2.2.2.1 rfl ?_
    refine j_aload_n 0 C dX4_cost_52 rfl rfl ?_
    refine j_get (Cn := RX4) (T := TX4) (N := 8) 0 7 C dX4_cost_53 hin_X4_cost_X4 rfl rfl (by decide) (List.mem_of_getElem? (i := 1) rfl) rfl ?_
    refine j_getN (Cn := RX0) (T := TX0) (N := 3) 4 1 C dX4_cost_56 hin_X4_cost_X0 rfl rfl (by decide) C.2.2.2.2.2.2.1.2.2.2.2.2.2.2.2 rfl ?_
    refine j_callWv [6, 7, 2, 3, 5] (fun _ => [(x0, .inr (3, [.ref mp, .int (nI N), .ref rp, .int rl, .ref lt, .ref p1, .ref p2, .ref cz])), (mp, jaP g 10 T), (q, .inr (1, [.ref ca, .int (nI n)])), (ca, jaI g 224 f), (cz, .inr (0, [.ref dg, .int (nI d), .int (nI (v - 1))])), (dg, jaL g 6 h), (p1, .inr (2, [.ref v1, .int ((jRn n f h d).2.1), .int ((jRn n f h d).2.2)])), (v1, jaL g 4 ((jRn n f h d).1))]) C (j_runV (ci := 6) (As := [.ref q, .ref dg, .int (nI d)]) (rest := []) [6, 7, 2, 3, 5] C (c_X3_goThrough l g p1 v1 lk1 cd1 w1 q ca n f dg d 6 h (by omega) (by omega) (by omega)) gX4_cost_X3_goThrough rfl rfl rfl hd_X3_goThrough ⟨Nat.le_of_ble_eq_true rfl, Nat.le_of_ble_eq_true rfl⟩ rfl rfl rfl rfl dX4_cost_59 rfl (Nat.le_of_ble_eq_true rfl) ⟨Nat.le_of_ble_eq_true rfl, Nat.le_of_ble_eq_true rfl⟩) rfl (fun _ => rfl) (fun _ => rfl) (fun _ _ => ?_)
    refine j_eq (pc' := 62) (L' := [(0, .ref x0), (1, .int (nI k)), (2, .int (nI d)), (3, .int (nI v)), (4, .int (jb false)), (5, .ref q), (6, .int (nI (v ^ d))), (7, .int t), (8, .int z), (9, .int (nI x))]) (st' := []) (ws' := [(x0, .inr (3, [.ref mp, .int (nI N), .ref rp, .int rl, .ref lt, .ref p1, .ref p2, .ref cz])), (mp, jaP g 10 T), (q, .inr (1, [.ref ca, .int (nI n)])), (ca, jaI g 224 f), (cz, .inr (0, [.ref dg, .int (nI d), .int (nI (v - 1))])), (dg, jaL g 6 h), (p1, .inr (2, [.ref v1, .int r1.2.1, .int r1.2.2])), (v1, jaL g 4 r1.1)]) ?_ rfl rfl rfl (by simp only [hr1])
    refine j_aload_n 0 C dX4_cost_62 rfl rfl ?_
    refine j_get (Cn := RX4) (T := TX4) (N := 8) 0 5 C dX4_cost_63 hin_X4_cost_X4 rfl rfl (by decide) (List.mem_of_getElem? (i := 2) rfl) rfl ?_
    refine j_callRi (v := r1.2.1) (j_runV (ci := 6) (As := []) (rest := []) [6, 7] C (c_X3_countLooks l g p1 v1 r1.2.1 r1.2.2 r1.1) gX4_cost_X3_countLooks rfl rfl rfl hd_X3_countLooks ⟨Nat.le_of_ble_eq_true rfl, Nat.le_of_ble_eq_true rfl⟩ rfl rfl rfl rfl dX4_cost_66 rfl (Nat.le_of_ble_eq_true rfl) ⟨Nat.le_of_ble_eq_true rfl, Nat.le_of_ble_eq_true rfl⟩) ?_
    refine j_istore (L' := [(0, .ref x0), (1, .int (nI k)), (2, .int (nI d)), (3, .int (nI v)), (4, .int (jb false)), (5, .ref q), (6, .int (nI (v ^ d))), (7, .int t), (8, .int z), (9, .int (nI x)), (10, .int r1.2.1)]) C dX4_cost_69 (Nat.le_of_ble_eq_true rfl) rfl rfl ?_
    refine j_iload 10 C dX4_cost_71 rfl ?_
    refine j_iload 7 C dX4_cost_73 rfl ?_
    refine j_icmp_le (tgt := 83) C dX4_cost_75 (by decide) (fun c_5 => ?_) (fun c_5 => ?_)
    · skip
      refine j_iload 7 C dX4_cost_83 rfl ?_
      refine j_istore (L' := [(0, .ref x0), (1, .int (nI k)), (2, .int (nI d)), (3, .int (nI v)), (4, .int (jb false)), (5, .ref q), (6, .int (nI (v ^ d))), (7, .int t), (8, .int z), (9, .int (nI x)), (10, .int r1.2.1)]) C dX4_cost_85 (Nat.le_of_ble_eq_true rfl) rfl rfl ?_
      refine j_iload 8 C dX4_cost_87 rfl ?_
      refine j_iload 10 C dX4_cost_89 rfl ?_
      refine j_iadd (x := z) (y := r1.2.1) (v := z + r1.2.1) C dX4_cost_91 rfl ?_
      refine j_istore (L' := [(0, .ref x0), (1, .int (nI k)), (2, .int (nI d)), (3, .int (nI v)), (4, .int (jb false)), (5, .ref q), (6, .int (nI (v ^ d))), (7, .int t), (8, .int (z + r1.2.1)), (9, .int (nI x)), (10, .int r1.2.1)]) C dX4_cost_92 (Nat.le_of_ble_eq_true rfl) rfl rfl ?_
      refine j_aload_n 0 C dX4_cost_94 rfl rfl ?_
      refine j_get (Cn := RX4) (T := TX4) (N := 8) 0 7 C dX4_cost_95 hin_X4_cost_X4 rfl rfl (by decide) (List.mem_of_getElem? (i := 1) rfl) rfl ?_
      refine j_callWv [4, 5] (fun _ => [(x0, .inr (3, [.ref mp, .int (nI N), .ref rp, .int rl, .ref lt, .ref p1, .ref p2, .ref cz])), (mp, jaP g 10 T), (q, .inr (1, [.ref ca, .int (nI n)])), (ca, jaI g 224 f), (cz, .inr (0, [.ref dg, .int (nI d), .int (nI (v - 1))])), (dg, jaL g 6 (jInc (nI (v - 1)).toInt64 d h)), (p1, .inr (2, [.ref v1, .int r1.2.1, .int r1.2.2])), (v1, jaL g 4 r1.1)]) C (j_runV (ci := 4) (As := []) (rest := []) [4, 5] C (c_X0_goOn l g cz dg d (v - 1) h (by omega)) gX4_cost_X0_goOn rfl rfl rfl hd_X0_goOn ⟨Nat.le_of_ble_eq_true rfl, Nat.le_of_ble_eq_true rfl⟩ rfl rfl rfl rfl dX4_cost_98 rfl (Nat.le_of_ble_eq_true rfl) ⟨Nat.le_of_ble_eq_true rfl, Nat.le_of_ble_eq_true rfl⟩) rfl (fun _ => rfl) (fun _ => rfl) (fun _ _ => ?_)
      refine j_iinc (v := nI (x + 1)) (L' := [(0, .ref x0), (1, .int (nI k)), (2, .int (nI d)), (3, .int (nI v)), (4, .int (jb false)), (5, .ref q), (6, .int (nI (v ^ d))), (7, .int t), (8, .int (z + r1.2.1)), (9, .int (nI (x + 1))), (10, .int r1.2.1)]) 9 C dX4_cost_101 rfl (nI_add x 1) (Nat.le_of_ble_eq_true rfl) rfl rfl ?_
      refine j_goto (tgt := 32) C dX4_cost_104 (by decide) ?_
      refine j_pick (L' := [(0, .ref x0), (1, .int (nI k)), (2, .int (nI d)), (3, .int (nI v)), (4, .int (jb false)), (5, .ref q), (6, .int (nI (v ^ d))), (7, .int t), (8, .int (z + r1.2.1)), (9, .int (nI (x + 1)))]) [0, 1, 2, 3, 4, 5, 6, 7, 8, 9] rfl ?_
      exact ih_1 (x + 1, t, z + r1.2.1, r1.2.1, r1.2.2, r1.1, jInc (nI (v - 1)).toInt64 d h) ⟨(by omega), (by rw [← hI1, show v ^ d - x = (v ^ d - (x + 1)) + 1 by omega, jCo_s, if_pos rfl, hK]; first | rw [if_neg (Int32.not_lt.mpr (by assumption))] | rw [if_pos (Int32.not_le.mp (by assumption))]), (by rw [← hI2, show v ^ d - x = (v ^ d - (x + 1)) + 1 by omega, jCo_s, if_neg (by decide), hK]), (fun hx => by rw [← hI _ hx, hc])⟩ (show v ^ d - (x + 1) < v ^ d - x from by omega)
    · skip
      refine j_iload 10 C dX4_cost_78 rfl ?_
      refine j_goto (tgt := 85) C dX4_cost_80 (by decide) ?_
      refine j_istore (L' := [(0, .ref x0), (1, .int (nI k)), (2, .int (nI d)), (3, .int (nI v)), (4, .int (jb false)), (5, .ref q), (6, .int (nI (v ^ d))), (7, .int r1.2.1), (8, .int z), (9, .int (nI x)), (10, .int r1.2.1)]) C dX4_cost_85 (Nat.le_of_ble_eq_true rfl) rfl rfl ?_
      refine j_iload 8 C dX4_cost_87 rfl ?_
      refine j_iload 10 C dX4_cost_89 rfl ?_
      refine j_iadd (x := z) (y := r1.2.1) (v := z + r1.2.1) C dX4_cost_91 rfl ?_
      refine j_istore (L' := [(0, .ref x0), (1, .int (nI k)), (2, .int (nI d)), (3, .int (nI v)), (4, .int (jb false)), (5, .ref q), (6, .int (nI (v ^ d))), (7, .int r1.2.1), (8, .int (z + r1.2.1)), (9, .int (nI x)), (10, .int r1.2.1)]) C dX4_cost_92 (Nat.le_of_ble_eq_true rfl) rfl rfl ?_
      refine j_aload_n 0 C dX4_cost_94 rfl rfl ?_
      refine j_get (Cn := RX4) (T := TX4) (N := 8) 0 7 C dX4_cost_95 hin_X4_cost_X4 rfl rfl (by decide) (List.mem_of_getElem? (i := 1) rfl) rfl ?_
      refine j_callWv [4, 5] (fun _ => [(x0, .inr (3, [.ref mp, .int (nI N), .ref rp, .int rl, .ref lt, .ref p1, .ref p2, .ref cz])), (mp, jaP g 10 T), (q, .inr (1, [.ref ca, .int (nI n)])), (ca, jaI g 224 f), (cz, .inr (0, [.ref dg, .int (nI d), .int (nI (v - 1))])), (dg, jaL g 6 (jInc (nI (v - 1)).toInt64 d h)), (p1, .inr (2, [.ref v1, .int r1.2.1, .int r1.2.2])), (v1, jaL g 4 r1.1)]) C (j_runV (ci := 4) (As := []) (rest := []) [4, 5] C (c_X0_goOn l g cz dg d (v - 1) h (by omega)) gX4_cost_X0_goOn rfl rfl rfl hd_X0_goOn ⟨Nat.le_of_ble_eq_true rfl, Nat.le_of_ble_eq_true rfl⟩ rfl rfl rfl rfl dX4_cost_98 rfl (Nat.le_of_ble_eq_true rfl) ⟨Nat.le_of_ble_eq_true rfl, Nat.le_of_ble_eq_true rfl⟩) rfl (fun _ => rfl) (fun _ => rfl) (fun _ _ => ?_)
      refine j_iinc (v := nI (x + 1)) (L' := [(0, .ref x0), (1, .int (nI k)), (2, .int (nI d)), (3, .int (nI v)), (4, .int (jb false)), (5, .ref q), (6, .int (nI (v ^ d))), (7, .int r1.2.1), (8, .int (z + r1.2.1)), (9, .int (nI (x + 1))), (10, .int r1.2.1)]) 9 C dX4_cost_101 rfl (nI_add x 1) (Nat.le_of_ble_eq_true rfl) rfl rfl ?_
      refine j_goto (tgt := 32) C dX4_cost_104 (by decide) ?_
      refine j_pick (L' := [(0, .ref x0), (1, .int (nI k)), (2, .int (nI d)), (3, .int (nI v)), (4, .int (jb false)), (5, .ref q), (6, .int (nI (v ^ d))), (7, .int r1.2.1), (8, .int (z + r1.2.1)), (9, .int (nI (x + 1)))]) [0, 1, 2, 3, 4, 5, 6, 7, 8, 9] rfl ?_
      exact ih_1 (x + 1, r1.2.1, z + r1.2.1, r1.2.1, r1.2.2, r1.1, jInc (nI (v - 1)).toInt64 d h) ⟨(by omega), (by rw [← hI1, show v ^ d - x = (v ^ d - (x + 1)) + 1 by omega, jCo_s, if_pos rfl, hK]; first | rw [if_neg (Int32.not_lt.mpr (by assumption))] | rw [if_pos (Int32.not_le.mp (by assumption))]), (by rw [← hI2, show v ^ d - x = (v ^ d - (x + 1)) + 1 by omega, jCo_s, if_neg (by decide), hK]), (fun hx => by rw [← hI _ hx, hc])⟩ (show v ^ d - (x + 1) < v ^ d - x from by omega)
set_option maxHeartbeats 4000000 in
set_option maxRecDepth 100000 in
theorem c_X4_exits (l : Launch) (g : jG) (x0 mp N rp : Nat) (rl : Int32) (lt p1 p2 cz : Nat) (T : Nat → Option Nat) (k : Nat) (q ca n : Nat) (f : Nat → Int32) (dg : Nat) (ln gd : Int32) (h0 : Nat → Int64) (v1 : Nat) (lka cda : Int32) (wa : Nat → Int64) (d v : Nat) (hk : k < N) (hN : N ≤ 10) (hq : T k = some q) (hok : jOk n f) (hd : d ≤ 6) (hv : v ≤ 4) (hv1 : 1 ≤ v) (hp : v ^ d ≤ 1024) (hI : ∀ x, x + 1 < v ^ d → jInc (nI (v - 1)).toInt64 d (jCs d v x) = jCs d v (x + 1)) : jXd l yX4_exits wsX4_exits ({ frames := 6, cells := 0, slots := 0, locals := 148 }) g [.ref x0, .int (nI k), .int (nI d), .int (nI v)] [(x0, .inr (3, [.ref mp, .int (nI N), .ref rp, .int rl, .ref lt, .ref p1, .ref p2, .ref cz])), (mp, jaP g 10 T), (q, .inr (1, [.ref ca, .int (nI n)])), (ca, jaI g 224 f), (cz, .inr (0, [.ref dg, .int ln, .int gd])), (dg, jaL g 6 h0), (p1, .inr (2, [.ref v1, .int lka, .int cda])), (v1, jaL g 4 wa)] (fun (u9_ : Int32 × Int32 × (Nat → Int64) × (Nat → Int64)) => [(x0, .inr (3, [.ref mp, .int (nI N), .ref rp, .int rl, .ref lt, .ref p1, .ref p2, .ref cz])), (mp, jaP g 10 T), (q, .inr (1, [.ref ca, .int (nI n)])), (ca, jaI g 224 f), (cz, .inr (0, [.ref dg, .int (nI d), .int (nI (v - 1))])), (dg, jaL g 6 u9_.2.2.2), (p1, .inr (2, [.ref v1, .int u9_.1, .int u9_.2.1])), (v1, jaL g 4 u9_.2.2.1)]) (FP.ddiv (FP.i2d (nI (jDf (jCx n f d v) (v ^ d) 0 0))) (FP.i2d (nI (v ^ d)))) := by
  refine j_enterW (y := yX4_exits) (wsy := wsX4_exits) (rm := { frames := 6, cells := 0, slots := 0, locals := 148 }) (g := g) (As := [.ref x0, .int (nI k), .int (nI d), .int (nI v)]) (wc := [(x0, .inr (3, [.ref mp, .int (nI N), .ref rp, .int rl, .ref lt, .ref p1, .ref p2, .ref cz])), (mp, jaP g 10 T), (q, .inr (1, [.ref ca, .int (nI n)])), (ca, jaI g 224 f), (cz, .inr (0, [.ref dg, .int ln, .int gd])), (dg, jaL g 6 h0), (p1, .inr (2, [.ref v1, .int lka, .int cda])), (v1, jaL g 4 wa)]) (mc := 0) (ms := 0) (Qc := fun sz_ => va_Qd (fun r (_ : Int32 × Int32 × (Nat → Int64) × (Nat → Int64)) => r = FP.ddiv (FP.i2d (nI (jDf (jCx n f d v) (v ^ d) 0 0))) (FP.i2d (nI (v ^ d)))) (fun u t => va_P g.1 vwCl ((fun (u9_ : Int32 × Int32 × (Nat → Int64) × (Nat → Int64)) => [(x0, .inr (3, [.ref mp, .int (nI N), .ref rp, .int rl, .ref lt, .ref p1, .ref p2, .ref cz])), (mp, jaP g 10 T), (q, .inr (1, [.ref ca, .int (nI n)])), (ca, jaI g 224 f), (cz, .inr (0, [.ref dg, .int (nI d), .int (nI (v - 1))])), (dg, jaL g 6 u9_.2.2.2), (p1, .inr (2, [.ref v1, .int u9_.1, .int u9_.2.1])), (v1, jaL g 4 u9_.2.2.1)]) u) t.heap) (va_A [(x0, .inr (3, [.ref mp, .int (nI N), .ref rp, .int rl, .ref lt, .ref p1, .ref p2, .ref cz])), (mp, jaP g 10 T), (q, .inr (1, [.ref ca, .int (nI n)])), (ca, jaI g 224 f), (cz, .inr (0, [.ref dg, .int ln, .int gd])), (dg, jaL g 6 h0), (p1, .inr (2, [.ref v1, .int lka, .int cda])), (v1, jaL g 4 wa)] sz_)) (cc := cX4_exits) (maxL := 8) (ret := (some .double)) (own := RX4) (L := [(0, .ref x0), (1, .int (nI k)), (2, .int (nI d)), (3, .int (nI v))]) (by decide) rfl rfl (Nat.le_of_ble_eq_true rfl) rfl (fun p e s m args below meth c C hr => ?_)
  refine j_aload_n 0 C dX4_exits_0 rfl rfl ?_
  refine j_iload_n 1 C dX4_exits_1 rfl rfl ?_
  refine j_callRr (v := q) (j_runV (ci := 0) (As := [.int (nI k)]) (rest := []) [0, 1] C (c_X4_programAt l g x0 mp N rp rl lt p1 p2 cz T k q (by omega) (by omega) hq) gX4_exits_X4_programAt rfl rfl rfl hd_X4_programAt ⟨Nat.le_of_ble_eq_true rfl, Nat.le_of_ble_eq_true rfl⟩ rfl rfl rfl rfl dX4_exits_2 rfl (Nat.le_of_ble_eq_true rfl) ⟨Nat.le_of_ble_eq_true rfl, Nat.le_of_ble_eq_true rfl⟩) ?_
  refine j_astore (L' := [(0, .ref x0), (1, .int (nI k)), (2, .int (nI d)), (3, .int (nI v)), (4, .ref q)]) C dX4_exits_5 (Nat.le_of_ble_eq_true rfl) rfl rfl ?_
  refine j_iload_n 2 C dX4_exits_7 rfl rfl ?_
  refine j_iload_n 3 C dX4_exits_8 rfl rfl ?_
  refine j_callRi (v := nI (v ^ d)) (j_runS (As := [.int (nI d), .int (nI v)]) (rest := []) [] C (c_X4_checkedRows l g d v (by omega) (by omega) (by omega) (by omega)) gX4_exits_X4_checkedRows rfl rfl rfl hd_X4_checkedRows ⟨Nat.le_of_ble_eq_true rfl, Nat.le_of_ble_eq_true rfl⟩ rfl rfl dX4_exits_9 rfl (Nat.le_of_ble_eq_true rfl) ⟨Nat.le_of_ble_eq_true rfl, Nat.le_of_ble_eq_true rfl⟩) ?_
  refine j_istore (L' := [(0, .ref x0), (1, .int (nI k)), (2, .int (nI d)), (3, .int (nI v)), (4, .ref q), (5, .int (nI (v ^ d)))]) C dX4_exits_12 (Nat.le_of_ble_eq_true rfl) rfl rfl ?_
  refine j_iconst (v := 0) C dX4_exits_14 rfl ?_
  refine j_istore (L' := [(0, .ref x0), (1, .int (nI k)), (2, .int (nI d)), (3, .int (nI v)), (4, .ref q), (5, .int (nI (v ^ d))), (6, .int 0)]) C dX4_exits_15 (Nat.le_of_ble_eq_true rfl) rfl rfl ?_
  refine j_aload_n 0 C dX4_exits_17 rfl rfl ?_
  refine j_get (Cn := RX4) (T := TX4) (N := 8) 0 7 C dX4_exits_18 hin_X4_exits_X4 rfl rfl (by decide) (List.mem_of_getElem? (i := 1) rfl) rfl ?_
  refine j_iload_n 2 C dX4_exits_21 rfl rfl ?_
  refine j_iload_n 3 C dX4_exits_22 rfl rfl ?_
  refine j_callWv [4, 5] (fun _ => [(x0, .inr (3, [.ref mp, .int (nI N), .ref rp, .int rl, .ref lt, .ref p1, .ref p2, .ref cz])), (mp, jaP g 10 T), (q, .inr (1, [.ref ca, .int (nI n)])), (ca, jaI g 224 f), (cz, .inr (0, [.ref dg, .int (nI d), .int (nI (v - 1))])), (dg, jaL g 6 (fun _ => 0)), (p1, .inr (2, [.ref v1, .int lka, .int cda])), (v1, jaL g 4 wa)]) C (j_runV (ci := 4) (As := [.int (nI d), .int (nI v)]) (rest := []) [4, 5] C (c_X0_begin l g cz dg ln gd h0 d v (by omega)) gX4_exits_X0_begin rfl rfl rfl hd_X0_begin ⟨Nat.le_of_ble_eq_true rfl, Nat.le_of_ble_eq_true rfl⟩ rfl rfl rfl rfl dX4_exits_23 rfl (Nat.le_of_ble_eq_true rfl) ⟨Nat.le_of_ble_eq_true rfl, Nat.le_of_ble_eq_true rfl⟩) rfl (fun _ => rfl) (fun _ => rfl) (fun _ _ => ?_)
  refine j_iconst (v := 0) C dX4_exits_26 rfl ?_
  refine j_istore (L' := [(0, .ref x0), (1, .int (nI k)), (2, .int (nI d)), (3, .int (nI v)), (4, .ref q), (5, .int (nI (v ^ d))), (6, .int 0), (7, .int 0)]) C dX4_exits_27 (Nat.le_of_ble_eq_true rfl) rfl rfl ?_
  refine j_loop (σ := Nat × Nat × Int32 × Int32 × (Nat → Int64) × (Nat → Int64)) (fun (x9_ : Nat × Nat × Int32 × Int32 × (Nat → Int64) × (Nat → Int64)) => match x9_ with | (x, qq, lk1, cd1, w1, h) => [(0, .ref x0), (1, .int (nI k)), (2, .int (nI d)), (3, .int (nI v)), (4, .ref q), (5, .int (nI (v ^ d))), (6, .int (nI qq)), (7, .int (nI x))]) (fun (x9_ : Nat × Nat × Int32 × Int32 × (Nat → Int64) × (Nat → Int64)) => match x9_ with | (x, qq, lk1, cd1, w1, h) => [(x0, .inr (3, [.ref mp, .int (nI N), .ref rp, .int rl, .ref lt, .ref p1, .ref p2, .ref cz])), (mp, jaP g 10 T), (q, .inr (1, [.ref ca, .int (nI n)])), (ca, jaI g 224 f), (cz, .inr (0, [.ref dg, .int (nI d), .int (nI (v - 1))])), (dg, jaL g 6 h), (p1, .inr (2, [.ref v1, .int lk1, .int cd1])), (v1, jaL g 4 w1)]) (fun (x9_ : Nat × Nat × Int32 × Int32 × (Nat → Int64) × (Nat → Int64)) => match x9_ with | (x, qq, lk1, cd1, w1, h) => (x ≤ v ^ d) ∧ (jDf (jCx n f d v) (v ^ d - x) x qq = jDf (jCx n f d v) (v ^ d) 0 0) ∧ (x < v ^ d → h = jCs d v x)) (fun (x9_ : Nat × Nat × Int32 × Int32 × (Nat → Int64) × (Nat → Int64)) => match x9_ with | (x, qq, lk1, cd1, w1, h) => v ^ d - x) (fun x_ hi_2 ih_1 => ?_) (0, 0, lka, cda, wa, fun _ => 0) ⟨(by omega), rfl, (fun _ => (jCs_0 d v).symm)⟩ rfl rfl
  obtain ⟨x, qq, lk1, cd1, w1, h⟩ := x_
  obtain ⟨hI0, hI1, hH⟩ := (show (x ≤ v ^ d) ∧ (jDf (jCx n f d v) (v ^ d - x) x qq = jDf (jCx n f d v) (v ^ d) 0 0) ∧ (x < v ^ d → h = jCs d v x) from hi_2)
  refine j_eq (pc' := 29) (L' := [(0, .ref x0), (1, .int (nI k)), (2, .int (nI d)), (3, .int (nI v)), (4, .ref q), (5, .int (nI (v ^ d))), (6, .int (nI qq)), (7, .int (nI x))]) (st' := []) (ws' := [(x0, .inr (3, [.ref mp, .int (nI N), .ref rp, .int rl, .ref lt, .ref p1, .ref p2, .ref cz])), (mp, jaP g 10 T), (q, .inr (1, [.ref ca, .int (nI n)])), (ca, jaI g 224 f), (cz, .inr (0, [.ref dg, .int (nI d), .int (nI (v - 1))])), (dg, jaL g 6 h), (p1, .inr (2, [.ref v1, .int lk1, .int cd1])), (v1, jaL g 4 w1)]) ?_ rfl rfl rfl rfl
  refine j_iload 7 C dX4_exits_29 rfl ?_
  refine j_iload 5 C dX4_exits_31 rfl ?_
  refine j_icmp_ge (tgt := 86) C dX4_exits_33 (by decide) (fun c_3 => ?_) (fun c_3 => ?_)
  · skip
    have c_3 : (v ^ d) ≤ x := (nI_leI (a := v ^ d) (b := x) (by omega) (by omega)).mp c_3
    have hpos : 1 ≤ v ^ d := Nat.pos_of_ne_zero (fun z => by rw [Nat.pow_eq_zero] at z; omega)
    have hq9 : qq = jDf (jCx n f d v) (v ^ d) 0 0 := by rw [← hI1, show v ^ d - x = 0 by omega]; rfl
    refine j_iload 5 C dX4_exits_86 rfl ?_
    refine j_if_le (tgt := 101) C dX4_exits_88 (by decide) (fun c_4 => ?_) (fun c_4 => ?_)
    · skip
      have c_4 : (v ^ d) ≤ 0 := (nI_leI (a := v ^ d) (b := 0) (by omega) (by omega)).mp c_4
      exact absurd c_4 (by omega)
    · skip
      have c_4 : ¬ (v ^ d) ≤ 0 := fun z => c_4 ((nI_leI (a := v ^ d) (b := 0) (by omega) (by omega)).mpr z)
      refine j_iload 6 C dX4_exits_91 rfl ?_
      refine j_i2d C dX4_exits_93 ?_
      refine j_iload 5 C dX4_exits_94 rfl ?_
      refine j_i2d C dX4_exits_96 ?_
      refine j_ddiv C dX4_exits_97 (jdiv_n64 (nI_ne0 (by omega) (by omega))) ?_
      refine j_goto (tgt := 102) C dX4_exits_98 (by decide) ?_
      exact j_dretW (v := FP.ddiv (FP.i2d (nI qq)) (FP.i2d (nI (v ^ d)))) C hr dX4_exits_102 (lk1, cd1, w1, h) (by rw [hq9]) rfl
  · skip
    have c_3 : ¬ (v ^ d) ≤ x := fun z => c_3 ((nI_leI (a := v ^ d) (b := x) (by omega) (by omega)).mpr z)
    have hc := hH (by omega)
    obtain ⟨r1, hr1⟩ : ∃ r, jRn n f h d = r := ⟨_, rfl⟩
    have hS : (jCx n f d v) x = decide (r1.2.2 = -1) := by rw [← hr1, hc]; rfl
    refine j_aload_n 0 C dX4_exits_36 rfl rfl ?_
    refine j_get (Cn := RX4) (T := TX4) (N := 8) 0 5 C dX4_exits_37 hin_X4_exits_X4 rfl rfl (by decide) (List.mem_of_getElem? (i := 2) rfl) rfl ?_
    refine j_aload 4 C dX4_exits_40 rfl ?_
    refine j_aload_n 0 C dX4_exits_42 rfl rfl ?_
    refine j_get (Cn := RX4) (T := TX4) (N := 8) 0 7 C dX4_exits_43 hin_X4_exits_X4 rfl rfl (by decide) (List.mem_of_getElem? (i := 1) rfl) rfl ?_
    refine j_getN (Cn := RX0) (T := TX0) (N := 3) 4 0 C dX4_exits_46 hin_X4_exits_X0 rfl rfl (by decide) C.2.2.2.2.2.2.1.2.2.2.2.2.2.2.1 rfl ?_
    refine j_aload_n 0 C dX4_exits_49 rfl rfl ?_
    refine j_get (Cn := RX4) (T := TX4) (N := 8) 0 7 C dX4_exits_50 hin_X4_exits_X4 rfl rfl (by decide) (List.mem_of_getElem? (i := 1) rfl) rfl ?_
    refine j_getN (Cn := RX0) (T := TX0) (N := 3) 4 1 C dX4_exits_53 hin_X4_exits_X0 rfl rfl (by decide) C.2.2.2.2.2.2.1.2.2.2.2.2.2.2.2 rfl ?_
    refine j_callWv [6, 7, 2, 3, 5] (fun _ => [(x0, .inr (3, [.ref mp, .int (nI N), .ref rp, .int rl, .ref lt, .ref p1, .ref p2, .ref cz])), (mp, jaP g 10 T), (q, .inr (1, [.ref ca, .int (nI n)])), (ca, jaI g 224 f), (cz, .inr (0, [.ref dg, .int (nI d), .int (nI (v - 1))])), (dg, jaL g 6 h), (p1, .inr (2, [.ref v1, .int ((jRn n f h d).2.1), .int ((jRn n f h d).2.2)])), (v1, jaL g 4 ((jRn n f h d).1))]) C (j_runV (ci := 6) (As := [.ref q, .ref dg, .int (nI d)]) (rest := []) [6, 7, 2, 3, 5] C (c_X3_goThrough l g p1 v1 lk1 cd1 w1 q ca n f dg d 6 h (by omega) (by omega) (by omega)) gX4_exits_X3_goThrough rfl rfl rfl hd_X3_goThrough ⟨Nat.le_of_ble_eq_true rfl, Nat.le_of_ble_eq_true rfl⟩ rfl rfl rfl rfl dX4_exits_56 rfl (Nat.le_of_ble_eq_true rfl) ⟨Nat.le_of_ble_eq_true rfl, Nat.le_of_ble_eq_true rfl⟩) rfl (fun _ => rfl) (fun _ => rfl) (fun _ _ => ?_)
    refine j_eq (pc' := 59) (L' := [(0, .ref x0), (1, .int (nI k)), (2, .int (nI d)), (3, .int (nI v)), (4, .ref q), (5, .int (nI (v ^ d))), (6, .int (nI qq)), (7, .int (nI x))]) (st' := []) (ws' := [(x0, .inr (3, [.ref mp, .int (nI N), .ref rp, .int rl, .ref lt, .ref p1, .ref p2, .ref cz])), (mp, jaP g 10 T), (q, .inr (1, [.ref ca, .int (nI n)])), (ca, jaI g 224 f), (cz, .inr (0, [.ref dg, .int (nI d), .int (nI (v - 1))])), (dg, jaL g 6 h), (p1, .inr (2, [.ref v1, .int r1.2.1, .int r1.2.2])), (v1, jaL g 4 r1.1)]) ?_ rfl rfl rfl (by simp only [hr1])
    refine j_aload_n 0 C dX4_exits_59 rfl rfl ?_
    refine j_get (Cn := RX4) (T := TX4) (N := 8) 0 5 C dX4_exits_60 hin_X4_exits_X4 rfl rfl (by decide) (List.mem_of_getElem? (i := 2) rfl) rfl ?_
    refine j_callRi (v := r1.2.2) (j_runV (ci := 6) (As := []) (rest := []) [6, 7] C (c_X3_codeOfExit l g p1 v1 r1.2.1 r1.2.2 r1.1) gX4_exits_X3_codeOfExit rfl rfl rfl hd_X3_codeOfExit ⟨Nat.le_of_ble_eq_true rfl, Nat.le_of_ble_eq_true rfl⟩ rfl rfl rfl rfl dX4_exits_63 rfl (Nat.le_of_ble_eq_true rfl) ⟨Nat.le_of_ble_eq_true rfl, Nat.le_of_ble_eq_true rfl⟩) ?_
    refine j_iconst (v := -1) C dX4_exits_66 rfl ?_
    refine j_icmp_eq (tgt := 73) C dX4_exits_67 (by decide) (fun c_5 => ?_) (fun c_5 => ?_)
    · skip
      refine j_aload_n 0 C dX4_exits_73 rfl rfl ?_
      refine j_get (Cn := RX4) (T := TX4) (N := 8) 0 7 C dX4_exits_74 hin_X4_exits_X4 rfl rfl (by decide) (List.mem_of_getElem? (i := 1) rfl) rfl ?_
      refine j_callWv [4, 5] (fun _ => [(x0, .inr (3, [.ref mp, .int (nI N), .ref rp, .int rl, .ref lt, .ref p1, .ref p2, .ref cz])), (mp, jaP g 10 T), (q, .inr (1, [.ref ca, .int (nI n)])), (ca, jaI g 224 f), (cz, .inr (0, [.ref dg, .int (nI d), .int (nI (v - 1))])), (dg, jaL g 6 (jInc (nI (v - 1)).toInt64 d h)), (p1, .inr (2, [.ref v1, .int r1.2.1, .int r1.2.2])), (v1, jaL g 4 r1.1)]) C (j_runV (ci := 4) (As := []) (rest := []) [4, 5] C (c_X0_goOn l g cz dg d (v - 1) h (by omega)) gX4_exits_X0_goOn rfl rfl rfl hd_X0_goOn ⟨Nat.le_of_ble_eq_true rfl, Nat.le_of_ble_eq_true rfl⟩ rfl rfl rfl rfl dX4_exits_77 rfl (Nat.le_of_ble_eq_true rfl) ⟨Nat.le_of_ble_eq_true rfl, Nat.le_of_ble_eq_true rfl⟩) rfl (fun _ => rfl) (fun _ => rfl) (fun _ _ => ?_)
      refine j_iinc (v := nI (x + 1)) (L' := [(0, .ref x0), (1, .int (nI k)), (2, .int (nI d)), (3, .int (nI v)), (4, .ref q), (5, .int (nI (v ^ d))), (6, .int (nI qq)), (7, .int (nI (x + 1)))]) 7 C dX4_exits_80 rfl (nI_add x 1) (Nat.le_of_ble_eq_true rfl) rfl rfl ?_
      refine j_goto (tgt := 29) C dX4_exits_83 (by decide) ?_
      exact ih_1 (x + 1, qq, r1.2.1, r1.2.2, r1.1, jInc (nI (v - 1)).toInt64 d h) ⟨(by omega), (by rw [← hI1, show v ^ d - x = (v ^ d - (x + 1)) + 1 by omega, jDf_s, hS]; first | rw [if_pos (decide_eq_true (by assumption))] | rw [if_neg (by rw [decide_eq_false (by assumption)]; decide)]), (fun hx => by rw [← hI _ hx, hc])⟩ (show v ^ d - (x + 1) < v ^ d - x from by omega)
    · skip
      refine j_iinc (v := nI (qq + 1)) (L' := [(0, .ref x0), (1, .int (nI k)), (2, .int (nI d)), (3, .int (nI v)), (4, .ref q), (5, .int (nI (v ^ d))), (6, .int (nI (qq + 1))), (7, .int (nI x))]) 6 C dX4_exits_70 rfl (nI_add qq 1) (Nat.le_of_ble_eq_true rfl) rfl rfl ?_
      refine j_aload_n 0 C dX4_exits_73 rfl rfl ?_
      refine j_get (Cn := RX4) (T := TX4) (N := 8) 0 7 C dX4_exits_74 hin_X4_exits_X4 rfl rfl (by decide) (List.mem_of_getElem? (i := 1) rfl) rfl ?_
      refine j_callWv [4, 5] (fun _ => [(x0, .inr (3, [.ref mp, .int (nI N), .ref rp, .int rl, .ref lt, .ref p1, .ref p2, .ref cz])), (mp, jaP g 10 T), (q, .inr (1, [.ref ca, .int (nI n)])), (ca, jaI g 224 f), (cz, .inr (0, [.ref dg, .int (nI d), .int (nI (v - 1))])), (dg, jaL g 6 (jInc (nI (v - 1)).toInt64 d h)), (p1, .inr (2, [.ref v1, .int r1.2.1, .int r1.2.2])), (v1, jaL g 4 r1.1)]) C (j_runV (ci := 4) (As := []) (rest := []) [4, 5] C (c_X0_goOn l g cz dg d (v - 1) h (by omega)) gX4_exits_X0_goOn rfl rfl rfl hd_X0_goOn ⟨Nat.le_of_ble_eq_true rfl, Nat.le_of_ble_eq_true rfl⟩ rfl rfl rfl rfl dX4_exits_77 rfl (Nat.le_of_ble_eq_true rfl) ⟨Nat.le_of_ble_eq_true rfl, Nat.le_of_ble_eq_true rfl⟩) rfl (fun _ => rfl) (fun _ => rfl) (fun _ _ => ?_)
      refine j_iinc (v := nI (x + 1)) (L' := [(0, .ref x0), (1, .int (nI k)), (2, .int (nI d)), (3, .int (nI v)), (4, .ref q), (5, .int (nI (v ^ d))), (6, .int (nI (qq + 1))), (7, .int (nI (x + 1)))]) 7 C dX4_exits_80 rfl (nI_add x 1) (Nat.le_of_ble_eq_true rfl) rfl rfl ?_
      refine j_goto (tgt := 29) C dX4_exits_83 (by decide) ?_
      exact ih_1 (x + 1, qq + 1, r1.2.1, r1.2.2, r1.1, jInc (nI (v - 1)).toInt64 d h) ⟨(by omega), (by rw [← hI1, show v ^ d - x = (v ^ d - (x + 1)) + 1 by omega, jDf_s, hS]; first | rw [if_pos (decide_eq_true (by assumption))] | rw [if_neg (by rw [decide_eq_false (by assumption)]; decide)]), (fun hx => by rw [← hI _ hx, hc])⟩ (show v ^ d - (x + 1) < v ^ d - x from by omega)
