set_option maxRecDepth 100000 in
theorem hin_X5_holds_X5 : ∀ w ∈ u_ws RX5 TX5 11, w ∈ wsX5_holds := fun w h => List.mem_cons_of_mem _ (by exact List.mem_append_right _ h)
set_option maxRecDepth 100000 in
theorem hin_X5_set_X5 : ∀ w ∈ u_ws RX5 TX5 11, w ∈ wsX5_set := fun w h => List.mem_cons_of_mem _ (by exact List.mem_append_right _ h)
set_option maxRecDepth 100000 in
theorem hin_X5_runOver_X5 : ∀ w ∈ u_ws RX5 TX5 11, w ∈ wsX5_runOver := fun w h => List.mem_cons_of_mem _ (by exact List.mem_append_right _ h)
theorem hd_X5_holds : yX5_holds.cls = RX5 ∧ yX5_holds.cls ≠ "java/lang/invoke/MethodHandle" ∧ yX5_holds.cls ≠ "java/lang/invoke/VarHandle" ∧ (parseMethodDescriptor yX5_holds.desc).map (fun d => d.parameters.length) = some 4 := by decide +kernel
theorem hd_X5_set : yX5_set.cls = RX5 ∧ yX5_set.cls ≠ "java/lang/invoke/MethodHandle" ∧ yX5_set.cls ≠ "java/lang/invoke/VarHandle" ∧ (parseMethodDescriptor yX5_set.desc).map (fun d => d.parameters.length) = some 4 := by decide +kernel
set_option maxHeartbeats 4000000 in
set_option maxRecDepth 100000 in
theorem c_X5_holds (l : Launch) (g : jG) (m0 : Nat) (th np : Int32) (tb md rw0 : Nat) (sz : Int32) (cs va : Nat) (lk : Int32) (rn kp : Nat) (vv : Nat → Int64) (a0 n : Nat) (f : Nat → Int32) (k j : Nat) (nu : Int64) (hk : k < 8) (hj : j < 6) (hlo : ∃ v, v ≤ 4 ∧ (f (k * 28 + 4 + j * 4 + 0)) = nI v) (hwi : (-100 ≤ (f (k * 28 + 4 + j * 4 + 1)) ∧ (f (k * 28 + 4 + j * 4 + 1)) ≤ 100) ∨ ∃ v, v < 4 ∧ (f (k * 28 + 4 + j * 4 + 1)) = nI (1000 + v)) : jWi l yX5_holds wsX5_holds ({ frames := 3, cells := 0, slots := 0, locals := 64 }) g [.ref m0, .ref a0, .int (nI k), .int (nI j), .long nu] [(m0, .inr (4, [.int th, .int np, .ref tb, .ref md, .ref rw0, .int sz, .ref cs, .ref va, .int lk, .ref rn, .ref kp])), (va, jaL g 4 vv), (a0, jaI g 253 (jrw n f))] [(m0, .inr (4, [.int th, .int np, .ref tb, .ref md, .ref rw0, .int sz, .ref cs, .ref va, .int (lk + 1), .ref rn, .ref kp])), (va, jaL g 4 vv), (a0, jaI g 253 (jrw n f))] (jb (jHold (f (k * 28 + 4 + j * 4 + 0)) (jOth vv (f (k * 28 + 4 + j * 4 + 1))) nu)) := by
  refine j_enterW (Qc := fun sz_ => va_Qi (fun r (_ : Unit) => r = jb (jHold (f (k * 28 + 4 + j * 4 + 0)) (jOth vv (f (k * 28 + 4 + j * 4 + 1))) nu)) (fun _ t => va_P g.1 vwCl [(m0, .inr (4, [.int th, .int np, .ref tb, .ref md, .ref rw0, .int sz, .ref cs, .ref va, .int (lk + 1), .ref rn, .ref kp])), (va, jaL g 4 vv), (a0, jaI g 253 (jrw n f))] t.heap) (va_A [(m0, .inr (4, [.int th, .int np, .ref tb, .ref md, .ref rw0, .int sz, .ref cs, .ref va, .int lk, .ref rn, .ref kp])), (va, jaL g 4 vv), (a0, jaI g 253 (jrw n f))] sz_)) (cc := cX5_holds) (maxL := 10) (ret := (some .boolean)) (own := RX5) (L := [(0, .ref m0), (1, .ref a0), (2, .int (nI k)), (3, .int (nI j)), (4, .long nu)]) (by decide) rfl rfl (Nat.le_of_ble_eq_true rfl) rfl (fun p e s m args below meth c C hr => ?_)
  refine j_aload_n 0 C dX5_holds_0 rfl rfl ?_
  refine j_dup C dX5_holds_1 rfl ?_
  refine j_get (Cn := RX5) (T := TX5) (N := 11) 0 8 C dX5_holds_2 hin_X5_holds_X5 rfl rfl (by decide) (List.mem_of_getElem? (i := 1) rfl) rfl ?_
  refine j_iconst (v := 1) C dX5_holds_5 rfl ?_
  refine j_iadd (x := lk) (y := 1) (v := lk + 1) C dX5_holds_6 rfl ?_
  refine j_put (Cn := RX5) (T := TX5) (N := 11) (ws' := [(m0, .inr (4, [.int th, .int np, .ref tb, .ref md, .ref rw0, .int sz, .ref cs, .ref va, .int (lk + 1), .ref rn, .ref kp])), (va, jaL g 4 vv), (a0, jaI g 253 (jrw n f))]) tyX5 0 8 C dX5_holds_7 hin_X5_holds_X5 tyX5_ok nmX5 rfl rfl (by decide) (List.mem_of_getElem? (i := 1) rfl) rfl (tyX5_ok 8 (by decide)) rfl rfl (Nat.le_of_ble_eq_true rfl) rfl ?_
  refine j_aload_n 1 C dX5_holds_10 rfl rfl ?_
  refine j_iload_n 2 C dX5_holds_11 rfl rfl ?_
  refine j_iload_n 3 C dX5_holds_12 rfl rfl ?_
  refine j_iconst (v := 0) C dX5_holds_13 rfl ?_
  refine j_callRi (v := f (k * 28 + 4 + j * 4 + 0)) (j_runS (As := [.ref a0, .int (nI k), .int (nI j), .int 0]) (rest := []) [2] C (c_X5_get l g a0 n f k j 0 (by omega)) gX5_holds_X5_get rfl rfl rfl hd_X5_get ⟨Nat.le_of_ble_eq_true rfl, Nat.le_of_ble_eq_true rfl⟩ rfl rfl dX5_holds_14 rfl (Nat.le_of_ble_eq_true rfl) ⟨Nat.le_of_ble_eq_true rfl, Nat.le_of_ble_eq_true rfl⟩) ?_
  refine j_istore (L' := [(0, .ref m0), (1, .ref a0), (2, .int (nI k)), (3, .int (nI j)), (4, .long nu), (6, .int (f (k * 28 + 4 + j * 4 + 0)))]) C dX5_holds_17 (Nat.le_of_ble_eq_true rfl) rfl rfl ?_
  refine j_aload_n 1 C dX5_holds_19 rfl rfl ?_
  refine j_iload_n 2 C dX5_holds_20 rfl rfl ?_
  refine j_iload_n 3 C dX5_holds_21 rfl rfl ?_
  refine j_iconst (v := 1) C dX5_holds_22 rfl ?_
  refine j_callRi (v := f (k * 28 + 4 + j * 4 + 1)) (j_runS (As := [.ref a0, .int (nI k), .int (nI j), .int 1]) (rest := []) [2] C (c_X5_get l g a0 n f k j 1 (by omega)) gX5_holds_X5_get rfl rfl rfl hd_X5_get ⟨Nat.le_of_ble_eq_true rfl, Nat.le_of_ble_eq_true rfl⟩ rfl rfl dX5_holds_23 rfl (Nat.le_of_ble_eq_true rfl) ⟨Nat.le_of_ble_eq_true rfl, Nat.le_of_ble_eq_true rfl⟩) ?_
  refine j_istore (L' := [(0, .ref m0), (1, .ref a0), (2, .int (nI k)), (3, .int (nI j)), (4, .long nu), (6, .int (f (k * 28 + 4 + j * 4 + 0))), (7, .int (f (k * 28 + 4 + j * 4 + 1)))]) C dX5_holds_26 (Nat.le_of_ble_eq_true rfl) rfl rfl ?_
  refine j_iload 6 C dX5_holds_28 rfl ?_
  refine j_sipush (v := 1000) C dX5_holds_30 rfl ?_
  refine j_icmp_lt (tgt := 50) C dX5_holds_33 (by decide) (fun c_1 => ?_) (fun c_1 => ?_)
  · skip
    have hI : jIsV (f (k * 28 + 4 + j * 4 + 1)) = false := jIsV_w c_1
    refine j_iload 6 C dX5_holds_50 rfl ?_
    refine j_i2l (v := (f (k * 28 + 4 + j * 4 + 1)).toInt64) C dX5_holds_52 rfl ?_
    refine j_eq (pc' := 53) (L' := [(0, .ref m0), (1, .ref a0), (2, .int (nI k)), (3, .int (nI j)), (4, .long nu), (6, .int (f (k * 28 + 4 + j * 4 + 0))), (7, .int (f (k * 28 + 4 + j * 4 + 1)))]) (st' := [.long (jOth vv (f (k * 28 + 4 + j * 4 + 1)))]) (ws' := [(m0, .inr (4, [.int th, .int np, .ref tb, .ref md, .ref rw0, .int sz, .ref cs, .ref va, .int (lk + 1), .ref rn, .ref kp])), (va, jaL g 4 vv), (a0, jaI g 253 (jrw n f))]) ?_ rfl rfl (by rw [jOth_w hI]) rfl
    refine j_lstore (L' := [(0, .ref m0), (1, .ref a0), (2, .int (nI k)), (3, .int (nI j)), (4, .long nu), (6, .int (f (k * 28 + 4 + j * 4 + 0))), (7, .int (f (k * 28 + 4 + j * 4 + 1))), (8, .long (jOth vv (f (k * 28 + 4 + j * 4 + 1))))]) C dX5_holds_53 (Nat.le_of_ble_eq_true rfl) rfl rfl ?_
    rcases jlo5 hlo with hs | hs | hs | hs | hs
    · skip
      refine j_eq (pc' := 55) (L' := [(0, .ref m0), (1, .ref a0), (2, .int (nI k)), (3, .int (nI j)), (4, .long nu), (6, .int 0), (7, .int (f (k * 28 + 4 + j * 4 + 1))), (8, .long (jOth vv (f (k * 28 + 4 + j * 4 + 1))))]) (st' := []) (ws' := [(m0, .inr (4, [.int th, .int np, .ref tb, .ref md, .ref rw0, .int sz, .ref cs, .ref va, .int (lk + 1), .ref rn, .ref kp])), (va, jaL g 4 vv), (a0, jaI g 253 (jrw n f))]) ?_ rfl (by rw [hs]) rfl rfl
      refine j_iload 5 C dX5_holds_55 rfl ?_
      refine j_if_eq (tgt := 116) C dX5_holds_57 (by decide) (fun c_2 => ?_) (fun c_2 => ?_)
      · skip
        refine j_iconst (v := 1) C dX5_holds_116 rfl ?_
        refine j_goto (tgt := 121) C dX5_holds_117 (by decide) ?_
        exact j_zretW (v := 1) C hr dX5_holds_121 rfl () (by rw [jHold, if_pos hs]; first | rfl | (rw [decide_eq_true (by assumption)]; rfl) | (rw [decide_eq_false (by assumption)]; rfl) | (rw [decide_eq_false (Int64.not_le.mpr (by assumption))]; rfl) | (rw [decide_eq_true (Int64.not_lt.mp (by assumption))]; rfl)) rfl
      · skip
        exact absurd c_2 (by decide)
    · skip
      refine j_eq (pc' := 55) (L' := [(0, .ref m0), (1, .ref a0), (2, .int (nI k)), (3, .int (nI j)), (4, .long nu), (6, .int 1), (7, .int (f (k * 28 + 4 + j * 4 + 1))), (8, .long (jOth vv (f (k * 28 + 4 + j * 4 + 1))))]) (st' := []) (ws' := [(m0, .inr (4, [.int th, .int np, .ref tb, .ref md, .ref rw0, .int sz, .ref cs, .ref va, .int (lk + 1), .ref rn, .ref kp])), (va, jaL g 4 vv), (a0, jaI g 253 (jrw n f))]) ?_ rfl (by rw [hs]) rfl rfl
      refine j_iload 5 C dX5_holds_55 rfl ?_
      refine j_if_eq (tgt := 116) C dX5_holds_57 (by decide) (fun c_3 => ?_) (fun c_3 => ?_)
      · skip
        exact absurd c_3 (by decide)
      · skip
        refine j_iload 5 C dX5_holds_60 rfl ?_
        refine j_iconst (v := 1) C dX5_holds_62 rfl ?_
        refine j_icmp_ne (tgt := 74) C dX5_holds_63 (by decide) (fun c_4 => ?_) (fun c_4 => ?_)
        · skip
          exact absurd c_4 (by decide)
        · skip
          refine j_lload 4 C dX5_holds_66 rfl ?_
          refine j_lload 7 C dX5_holds_68 rfl ?_
          refine j_lcmp_eq (tgt := 116) C dX5_holds_70 dX5_holds_71 (by decide) (fun c_5 => ?_) (fun c_5 => ?_)
          · skip
            refine j_iconst (v := 1) C dX5_holds_116 rfl ?_
            refine j_goto (tgt := 121) C dX5_holds_117 (by decide) ?_
            exact j_zretW (v := 1) C hr dX5_holds_121 rfl () (by rw [jHold, if_neg (by rw [hs]; decide), if_pos hs]; first | rfl | (rw [decide_eq_true (by assumption)]; rfl) | (rw [decide_eq_false (by assumption)]; rfl) | (rw [decide_eq_false (Int64.not_le.mpr (by assumption))]; rfl) | (rw [decide_eq_true (Int64.not_lt.mp (by assumption))]; rfl)) rfl
          · skip
            refine j_iload 5 C dX5_holds_74 rfl ?_
            refine j_iconst (v := 2) C dX5_holds_76 rfl ?_
            refine j_icmp_ne (tgt := 88) C dX5_holds_77 (by decide) (fun c_6 => ?_) (fun c_6 => ?_)
            · skip
              refine j_iload 5 C dX5_holds_88 rfl ?_
              refine j_iconst (v := 3) C dX5_holds_90 rfl ?_
              refine j_icmp_ne (tgt := 102) C dX5_holds_91 (by decide) (fun c_7 => ?_) (fun c_7 => ?_)
              · skip
                refine j_iload 5 C dX5_holds_102 rfl ?_
                refine j_iconst (v := 4) C dX5_holds_104 rfl ?_
                refine j_icmp_ne (tgt := 120) C dX5_holds_105 (by decide) (fun c_8 => ?_) (fun c_8 => ?_)
                · skip
                  refine j_iconst (v := 0) C dX5_holds_120 rfl ?_
                  exact j_zretW (v := 0) C hr dX5_holds_121 rfl () (by rw [jHold, if_neg (by rw [hs]; decide), if_pos hs]; first | rfl | (rw [decide_eq_true (by assumption)]; rfl) | (rw [decide_eq_false (by assumption)]; rfl) | (rw [decide_eq_false (Int64.not_le.mpr (by assumption))]; rfl) | (rw [decide_eq_true (Int64.not_lt.mp (by assumption))]; rfl)) rfl
                · skip
                  exact absurd c_8 (by decide)
              · skip
                exact absurd c_7 (by decide)
            · skip
              exact absurd c_6 (by decide)
    · skip
      refine j_eq (pc' := 55) (L' := [(0, .ref m0), (1, .ref a0), (2, .int (nI k)), (3, .int (nI j)), (4, .long nu), (6, .int 2), (7, .int (f (k * 28 + 4 + j * 4 + 1))), (8, .long (jOth vv (f (k * 28 + 4 + j * 4 + 1))))]) (st' := []) (ws' := [(m0, .inr (4, [.int th, .int np, .ref tb, .ref md, .ref rw0, .int sz, .ref cs, .ref va, .int (lk + 1), .ref rn, .ref kp])), (va, jaL g 4 vv), (a0, jaI g 253 (jrw n f))]) ?_ rfl (by rw [hs]) rfl rfl
      refine j_iload 5 C dX5_holds_55 rfl ?_
      refine j_if_eq (tgt := 116) C dX5_holds_57 (by decide) (fun c_9 => ?_) (fun c_9 => ?_)
      · skip
        exact absurd c_9 (by decide)
      · skip
        refine j_iload 5 C dX5_holds_60 rfl ?_
        refine j_iconst (v := 1) C dX5_holds_62 rfl ?_
        refine j_icmp_ne (tgt := 74) C dX5_holds_63 (by decide) (fun c_10 => ?_) (fun c_10 => ?_)
        · skip
          refine j_iload 5 C dX5_holds_74 rfl ?_
          refine j_iconst (v := 2) C dX5_holds_76 rfl ?_
          refine j_icmp_ne (tgt := 88) C dX5_holds_77 (by decide) (fun c_11 => ?_) (fun c_11 => ?_)
          · skip
            exact absurd c_11 (by decide)
          · skip
            refine j_lload 4 C dX5_holds_80 rfl ?_
            refine j_lload 7 C dX5_holds_82 rfl ?_
            refine j_lcmp_ne (tgt := 116) C dX5_holds_84 dX5_holds_85 (by decide) (fun c_12 => ?_) (fun c_12 => ?_)
            · skip
              refine j_iconst (v := 1) C dX5_holds_116 rfl ?_
              refine j_goto (tgt := 121) C dX5_holds_117 (by decide) ?_
              exact j_zretW (v := 1) C hr dX5_holds_121 rfl () (by rw [jHold, if_neg (by rw [hs]; decide), if_neg (by rw [hs]; decide), if_pos hs]; first | rfl | (rw [decide_eq_true (by assumption)]; rfl) | (rw [decide_eq_false (by assumption)]; rfl) | (rw [decide_eq_false (Int64.not_le.mpr (by assumption))]; rfl) | (rw [decide_eq_true (Int64.not_lt.mp (by assumption))]; rfl)) rfl
            · skip
              refine j_iload 5 C dX5_holds_88 rfl ?_
              refine j_iconst (v := 3) C dX5_holds_90 rfl ?_
              refine j_icmp_ne (tgt := 102) C dX5_holds_91 (by decide) (fun c_13 => ?_) (fun c_13 => ?_)
              · skip
                refine j_iload 5 C dX5_holds_102 rfl ?_
                refine j_iconst (v := 4) C dX5_holds_104 rfl ?_
                refine j_icmp_ne (tgt := 120) C dX5_holds_105 (by decide) (fun c_14 => ?_) (fun c_14 => ?_)
                · skip
                  refine j_iconst (v := 0) C dX5_holds_120 rfl ?_
                  exact j_zretW (v := 0) C hr dX5_holds_121 rfl () (by rw [jHold, if_neg (by rw [hs]; decide), if_neg (by rw [hs]; decide), if_pos hs]; first | rfl | (rw [decide_eq_true (by assumption)]; rfl) | (rw [decide_eq_false (by assumption)]; rfl) | (rw [decide_eq_false (Int64.not_le.mpr (by assumption))]; rfl) | (rw [decide_eq_true (Int64.not_lt.mp (by assumption))]; rfl)) rfl
                · skip
                  exact absurd c_14 (by decide)
              · skip
                exact absurd c_13 (by decide)
        · skip
          exact absurd c_10 (by decide)
    · skip
      refine j_eq (pc' := 55) (L' := [(0, .ref m0), (1, .ref a0), (2, .int (nI k)), (3, .int (nI j)), (4, .long nu), (6, .int 3), (7, .int (f (k * 28 + 4 + j * 4 + 1))), (8, .long (jOth vv (f (k * 28 + 4 + j * 4 + 1))))]) (st' := []) (ws' := [(m0, .inr (4, [.int th, .int np, .ref tb, .ref md, .ref rw0, .int sz, .ref cs, .ref va, .int (lk + 1), .ref rn, .ref kp])), (va, jaL g 4 vv), (a0, jaI g 253 (jrw n f))]) ?_ rfl (by rw [hs]) rfl rfl
      refine j_iload 5 C dX5_holds_55 rfl ?_
      refine j_if_eq (tgt := 116) C dX5_holds_57 (by decide) (fun c_15 => ?_) (fun c_15 => ?_)
      · skip
        exact absurd c_15 (by decide)
      · skip
        refine j_iload 5 C dX5_holds_60 rfl ?_
        refine j_iconst (v := 1) C dX5_holds_62 rfl ?_
        refine j_icmp_ne (tgt := 74) C dX5_holds_63 (by decide) (fun c_16 => ?_) (fun c_16 => ?_)
        · skip
          refine j_iload 5 C dX5_holds_74 rfl ?_
          refine j_iconst (v := 2) C dX5_holds_76 rfl ?_
          refine j_icmp_ne (tgt := 88) C dX5_holds_77 (by decide) (fun c_17 => ?_) (fun c_17 => ?_)
          · skip
            refine j_iload 5 C dX5_holds_88 rfl ?_
            refine j_iconst (v := 3) C dX5_holds_90 rfl ?_
            refine j_icmp_ne (tgt := 102) C dX5_holds_91 (by decide) (fun c_18 => ?_) (fun c_18 => ?_)
            · skip
              exact absurd c_18 (by decide)
            · skip
              refine j_lload 4 C dX5_holds_94 rfl ?_
              refine j_lload 7 C dX5_holds_96 rfl ?_
              refine j_lcmp_lt (tgt := 116) C dX5_holds_98 dX5_holds_99 (by decide) (fun c_19 => ?_) (fun c_19 => ?_)
              · skip
                refine j_iconst (v := 1) C dX5_holds_116 rfl ?_
                refine j_goto (tgt := 121) C dX5_holds_117 (by decide) ?_
                exact j_zretW (v := 1) C hr dX5_holds_121 rfl () (by rw [jHold, if_neg (by rw [hs]; decide), if_neg (by rw [hs]; decide), if_neg (by rw [hs]; decide), if_pos hs]; first | rfl | (rw [decide_eq_true (by assumption)]; rfl) | (rw [decide_eq_false (by assumption)]; rfl) | (rw [decide_eq_false (Int64.not_le.mpr (by assumption))]; rfl) | (rw [decide_eq_true (Int64.not_lt.mp (by assumption))]; rfl)) rfl
              · skip
                refine j_iload 5 C dX5_holds_102 rfl ?_
                refine j_iconst (v := 4) C dX5_holds_104 rfl ?_
                refine j_icmp_ne (tgt := 120) C dX5_holds_105 (by decide) (fun c_20 => ?_) (fun c_20 => ?_)
                · skip
                  refine j_iconst (v := 0) C dX5_holds_120 rfl ?_
                  exact j_zretW (v := 0) C hr dX5_holds_121 rfl () (by rw [jHold, if_neg (by rw [hs]; decide), if_neg (by rw [hs]; decide), if_neg (by rw [hs]; decide), if_pos hs]; first | rfl | (rw [decide_eq_true (by assumption)]; rfl) | (rw [decide_eq_false (by assumption)]; rfl) | (rw [decide_eq_false (Int64.not_le.mpr (by assumption))]; rfl) | (rw [decide_eq_true (Int64.not_lt.mp (by assumption))]; rfl)) rfl
                · skip
                  exact absurd c_20 (by decide)
          · skip
            exact absurd c_17 (by decide)
        · skip
          exact absurd c_16 (by decide)
    · skip
      refine j_eq (pc' := 55) (L' := [(0, .ref m0), (1, .ref a0), (2, .int (nI k)), (3, .int (nI j)), (4, .long nu), (6, .int 4), (7, .int (f (k * 28 + 4 + j * 4 + 1))), (8, .long (jOth vv (f (k * 28 + 4 + j * 4 + 1))))]) (st' := []) (ws' := [(m0, .inr (4, [.int th, .int np, .ref tb, .ref md, .ref rw0, .int sz, .ref cs, .ref va, .int (lk + 1), .ref rn, .ref kp])), (va, jaL g 4 vv), (a0, jaI g 253 (jrw n f))]) ?_ rfl (by rw [hs]) rfl rfl
      refine j_iload 5 C dX5_holds_55 rfl ?_
      refine j_if_eq (tgt := 116) C dX5_holds_57 (by decide) (fun c_21 => ?_) (fun c_21 => ?_)
      · skip
        exact absurd c_21 (by decide)
      · skip
        refine j_iload 5 C dX5_holds_60 rfl ?_
        refine j_iconst (v := 1) C dX5_holds_62 rfl ?_
        refine j_icmp_ne (tgt := 74) C dX5_holds_63 (by decide) (fun c_22 => ?_) (fun c_22 => ?_)
        · skip
          refine j_iload 5 C dX5_holds_74 rfl ?_
          refine j_iconst (v := 2) C dX5_holds_76 rfl ?_
          refine j_icmp_ne (tgt := 88) C dX5_holds_77 (by decide) (fun c_23 => ?_) (fun c_23 => ?_)
          · skip
            refine j_iload 5 C dX5_holds_88 rfl ?_
            refine j_iconst (v := 3) C dX5_holds_90 rfl ?_
            refine j_icmp_ne (tgt := 102) C dX5_holds_91 (by decide) (fun c_24 => ?_) (fun c_24 => ?_)
            · skip
              refine j_iload 5 C dX5_holds_102 rfl ?_
              refine j_iconst (v := 4) C dX5_holds_104 rfl ?_
              refine j_icmp_ne (tgt := 120) C dX5_holds_105 (by decide) (fun c_25 => ?_) (fun c_25 => ?_)
              · skip
                exact absurd c_25 (by decide)
              · skip
                refine j_lload 4 C dX5_holds_108 rfl ?_
                refine j_lload 7 C dX5_holds_110 rfl ?_
                refine j_lcmp_le (tgt := 120) C dX5_holds_112 dX5_holds_113 (by decide) (fun c_26 => ?_) (fun c_26 => ?_)
                · skip
                  refine j_iconst (v := 0) C dX5_holds_120 rfl ?_
                  exact j_zretW (v := 0) C hr dX5_holds_121 rfl () (by rw [jHold, if_neg (by rw [hs]; decide), if_neg (by rw [hs]; decide), if_neg (by rw [hs]; decide), if_neg (by rw [hs]; decide)]; first | rfl | (rw [decide_eq_true (by assumption)]; rfl) | (rw [decide_eq_false (by assumption)]; rfl) | (rw [decide_eq_false (Int64.not_le.mpr (by assumption))]; rfl) | (rw [decide_eq_true (Int64.not_lt.mp (by assumption))]; rfl)) rfl
                · skip
                  refine j_iconst (v := 1) C dX5_holds_116 rfl ?_
                  refine j_goto (tgt := 121) C dX5_holds_117 (by decide) ?_
                  exact j_zretW (v := 1) C hr dX5_holds_121 rfl () (by rw [jHold, if_neg (by rw [hs]; decide), if_neg (by rw [hs]; decide), if_neg (by rw [hs]; decide), if_neg (by rw [hs]; decide)]; first | rfl | (rw [decide_eq_true (by assumption)]; rfl) | (rw [decide_eq_false (by assumption)]; rfl) | (rw [decide_eq_false (Int64.not_le.mpr (by assumption))]; rfl) | (rw [decide_eq_true (Int64.not_lt.mp (by assumption))]; rfl)) rfl
            · skip
              exact absurd c_24 (by decide)
          · skip
            exact absurd c_23 (by decide)
        · skip
          exact absurd c_22 (by decide)
  · skip
    obtain ⟨v, hv4, hv⟩ := jwi hwi c_1
    have hI : jIsV (f (k * 28 + 4 + j * 4 + 1)) = true := jIsV_t hv hv4
    refine j_aload_n 0 C dX5_holds_36 rfl rfl ?_
    refine j_get (Cn := RX5) (T := TX5) (N := 11) 0 7 C dX5_holds_37 hin_X5_holds_X5 rfl rfl (by decide) (List.mem_of_getElem? (i := 2) rfl) rfl ?_
    refine j_iload 6 C dX5_holds_40 rfl ?_
    refine j_sipush (v := 1000) C dX5_holds_42 rfl ?_
    refine j_isub (x := f (k * 28 + 4 + j * 4 + 1)) (y := 1000) (v := nI v) C dX5_holds_45 (by rw [hv]; show nI (1000 + v) - nI 1000 = nI v; rw [pk_sub (by omega)]; congr 1; omega) ?_
    refine j_laldN (x := v) 1 C dX5_holds_46 rfl rfl (by omega) (by decide) ?_
    refine j_goto (tgt := 53) C dX5_holds_47 (by decide) ?_
    refine j_eq (pc' := 53) (L' := [(0, .ref m0), (1, .ref a0), (2, .int (nI k)), (3, .int (nI j)), (4, .long nu), (6, .int (f (k * 28 + 4 + j * 4 + 0))), (7, .int (f (k * 28 + 4 + j * 4 + 1)))]) (st' := [.long (jOth vv (f (k * 28 + 4 + j * 4 + 1)))]) (ws' := [(m0, .inr (4, [.int th, .int np, .ref tb, .ref md, .ref rw0, .int sz, .ref cs, .ref va, .int (lk + 1), .ref rn, .ref kp])), (va, jaL g 4 vv), (a0, jaI g 253 (jrw n f))]) ?_ rfl rfl (by rw [jOth_v hv hv4 hI]) rfl
    refine j_lstore (L' := [(0, .ref m0), (1, .ref a0), (2, .int (nI k)), (3, .int (nI j)), (4, .long nu), (6, .int (f (k * 28 + 4 + j * 4 + 0))), (7, .int (f (k * 28 + 4 + j * 4 + 1))), (8, .long (jOth vv (f (k * 28 + 4 + j * 4 + 1))))]) C dX5_holds_53 (Nat.le_of_ble_eq_true rfl) rfl rfl ?_
    rcases jlo5 hlo with hs | hs | hs | hs | hs
    · skip
      refine j_eq (pc' := 55) (L' := [(0, .ref m0), (1, .ref a0), (2, .int (nI k)), (3, .int (nI j)), (4, .long nu), (6, .int 0), (7, .int (f (k * 28 + 4 + j * 4 + 1))), (8, .long (jOth vv (f (k * 28 + 4 + j * 4 + 1))))]) (st' := []) (ws' := [(m0, .inr (4, [.int th, .int np, .ref tb, .ref md, .ref rw0, .int sz, .ref cs, .ref va, .int (lk + 1), .ref rn, .ref kp])), (va, jaL g 4 vv), (a0, jaI g 253 (jrw n f))]) ?_ rfl (by rw [hs]) rfl rfl
      refine j_iload 5 C dX5_holds_55 rfl ?_
      refine j_if_eq (tgt := 116) C dX5_holds_57 (by decide) (fun c_27 => ?_) (fun c_27 => ?_)
      · skip
        refine j_iconst (v := 1) C dX5_holds_116 rfl ?_
        refine j_goto (tgt := 121) C dX5_holds_117 (by decide) ?_
        exact j_zretW (v := 1) C hr dX5_holds_121 rfl () (by rw [jHold, if_pos hs]; first | rfl | (rw [decide_eq_true (by assumption)]; rfl) | (rw [decide_eq_false (by assumption)]; rfl) | (rw [decide_eq_false (Int64.not_le.mpr (by assumption))]; rfl) | (rw [decide_eq_true (Int64.not_lt.mp (by assumption))]; rfl)) rfl
      · skip
        exact absurd c_27 (by decide)
    · skip
      refine j_eq (pc' := 55) (L' := [(0, .ref m0), (1, .ref a0), (2, .int (nI k)), (3, .int (nI j)), (4, .long nu), (6, .int 1), (7, .int (f (k * 28 + 4 + j * 4 + 1))), (8, .long (jOth vv (f (k * 28 + 4 + j * 4 + 1))))]) (st' := []) (ws' := [(m0, .inr (4, [.int th, .int np, .ref tb, .ref md, .ref rw0, .int sz, .ref cs, .ref va, .int (lk + 1), .ref rn, .ref kp])), (va, jaL g 4 vv), (a0, jaI g 253 (jrw n f))]) ?_ rfl (by rw [hs]) rfl rfl
      refine j_iload 5 C dX5_holds_55 rfl ?_
      refine j_if_eq (tgt := 116) C dX5_holds_57 (by decide) (fun c_28 => ?_) (fun c_28 => ?_)
      · skip
        exact absurd c_28 (by decide)
      · skip
        refine j_iload 5 C dX5_holds_60 rfl ?_
        refine j_iconst (v := 1) C dX5_holds_62 rfl ?_
        refine j_icmp_ne (tgt := 74) C dX5_holds_63 (by decide) (fun c_29 => ?_) (fun c_29 => ?_)
        · skip
          exact absurd c_29 (by decide)
        · skip
          refine j_lload 4 C dX5_holds_66 rfl ?_
          refine j_lload 7 C dX5_holds_68 rfl ?_
          refine j_lcmp_eq (tgt := 116) C dX5_holds_70 dX5_holds_71 (by decide) (fun c_30 => ?_) (fun c_30 => ?_)
          · skip
            refine j_iconst (v := 1) C dX5_holds_116 rfl ?_
            refine j_goto (tgt := 121) C dX5_holds_117 (by decide) ?_
            exact j_zretW (v := 1) C hr dX5_holds_121 rfl () (by rw [jHold, if_neg (by rw [hs]; decide), if_pos hs]; first | rfl | (rw [decide_eq_true (by assumption)]; rfl) | (rw [decide_eq_false (by assumption)]; rfl) | (rw [decide_eq_false (Int64.not_le.mpr (by assumption))]; rfl) | (rw [decide_eq_true (Int64.not_lt.mp (by assumption))]; rfl)) rfl
          · skip
            refine j_iload 5 C dX5_holds_74 rfl ?_
            refine j_iconst (v := 2) C dX5_holds_76 rfl ?_
            refine j_icmp_ne (tgt := 88) C dX5_holds_77 (by decide) (fun c_31 => ?_) (fun c_31 => ?_)
            · skip
              refine j_iload 5 C dX5_holds_88 rfl ?_
              refine j_iconst (v := 3) C dX5_holds_90 rfl ?_
              refine j_icmp_ne (tgt := 102) C dX5_holds_91 (by decide) (fun c_32 => ?_) (fun c_32 => ?_)
              · skip
                refine j_iload 5 C dX5_holds_102 rfl ?_
                refine j_iconst (v := 4) C dX5_holds_104 rfl ?_
                refine j_icmp_ne (tgt := 120) C dX5_holds_105 (by decide) (fun c_33 => ?_) (fun c_33 => ?_)
                · skip
                  refine j_iconst (v := 0) C dX5_holds_120 rfl ?_
                  exact j_zretW (v := 0) C hr dX5_holds_121 rfl () (by rw [jHold, if_neg (by rw [hs]; decide), if_pos hs]; first | rfl | (rw [decide_eq_true (by assumption)]; rfl) | (rw [decide_eq_false (by assumption)]; rfl) | (rw [decide_eq_false (Int64.not_le.mpr (by assumption))]; rfl) | (rw [decide_eq_true (Int64.not_lt.mp (by assumption))]; rfl)) rfl
                · skip
                  exact absurd c_33 (by decide)
              · skip
                exact absurd c_32 (by decide)
            · skip
              exact absurd c_31 (by decide)
    · skip
      refine j_eq (pc' := 55) (L' := [(0, .ref m0), (1, .ref a0), (2, .int (nI k)), (3, .int (nI j)), (4, .long nu), (6, .int 2), (7, .int (f (k * 28 + 4 + j * 4 + 1))), (8, .long (jOth vv (f (k * 28 + 4 + j * 4 + 1))))]) (st' := []) (ws' := [(m0, .inr (4, [.int th, .int np, .ref tb, .ref md, .ref rw0, .int sz, .ref cs, .ref va, .int (lk + 1), .ref rn, .ref kp])), (va, jaL g 4 vv), (a0, jaI g 253 (jrw n f))]) ?_ rfl (by rw [hs]) rfl rfl
      refine j_iload 5 C dX5_holds_55 rfl ?_
      refine j_if_eq (tgt := 116) C dX5_holds_57 (by decide) (fun c_34 => ?_) (fun c_34 => ?_)
      · skip
        exact absurd c_34 (by decide)
      · skip
        refine j_iload 5 C dX5_holds_60 rfl ?_
        refine j_iconst (v := 1) C dX5_holds_62 rfl ?_
        refine j_icmp_ne (tgt := 74) C dX5_holds_63 (by decide) (fun c_35 => ?_) (fun c_35 => ?_)
        · skip
          refine j_iload 5 C dX5_holds_74 rfl ?_
          refine j_iconst (v := 2) C dX5_holds_76 rfl ?_
          refine j_icmp_ne (tgt := 88) C dX5_holds_77 (by decide) (fun c_36 => ?_) (fun c_36 => ?_)
          · skip
            exact absurd c_36 (by decide)
          · skip
            refine j_lload 4 C dX5_holds_80 rfl ?_
            refine j_lload 7 C dX5_holds_82 rfl ?_
            refine j_lcmp_ne (tgt := 116) C dX5_holds_84 dX5_holds_85 (by decide) (fun c_37 => ?_) (fun c_37 => ?_)
            · skip
              refine j_iconst (v := 1) C dX5_holds_116 rfl ?_
              refine j_goto (tgt := 121) C dX5_holds_117 (by decide) ?_
              exact j_zretW (v := 1) C hr dX5_holds_121 rfl () (by rw [jHold, if_neg (by rw [hs]; decide), if_neg (by rw [hs]; decide), if_pos hs]; first | rfl | (rw [decide_eq_true (by assumption)]; rfl) | (rw [decide_eq_false (by assumption)]; rfl) | (rw [decide_eq_false (Int64.not_le.mpr (by assumption))]; rfl) | (rw [decide_eq_true (Int64.not_lt.mp (by assumption))]; rfl)) rfl
            · skip
              refine j_iload 5 C dX5_holds_88 rfl ?_
              refine j_iconst (v := 3) C dX5_holds_90 rfl ?_
              refine j_icmp_ne (tgt := 102) C dX5_holds_91 (by decide) (fun c_38 => ?_) (fun c_38 => ?_)
              · skip
                refine j_iload 5 C dX5_holds_102 rfl ?_
                refine j_iconst (v := 4) C dX5_holds_104 rfl ?_
                refine j_icmp_ne (tgt := 120) C dX5_holds_105 (by decide) (fun c_39 => ?_) (fun c_39 => ?_)
                · skip
                  refine j_iconst (v := 0) C dX5_holds_120 rfl ?_
                  exact j_zretW (v := 0) C hr dX5_holds_121 rfl () (by rw [jHold, if_neg (by rw [hs]; decide), if_neg (by rw [hs]; decide), if_pos hs]; first | rfl | (rw [decide_eq_true (by assumption)]; rfl) | (rw [decide_eq_false (by assumption)]; rfl) | (rw [decide_eq_false (Int64.not_le.mpr (by assumption))]; rfl) | (rw [decide_eq_true (Int64.not_lt.mp (by assumption))]; rfl)) rfl
                · skip
                  exact absurd c_39 (by decide)
              · skip
                exact absurd c_38 (by decide)
        · skip
          exact absurd c_35 (by decide)
    · skip
      refine j_eq (pc' := 55) (L' := [(0, .ref m0), (1, .ref a0), (2, .int (nI k)), (3, .int (nI j)), (4, .long nu), (6, .int 3), (7, .int (f (k * 28 + 4 + j * 4 + 1))), (8, .long (jOth vv (f (k * 28 + 4 + j * 4 + 1))))]) (st' := []) (ws' := [(m0, .inr (4, [.int th, .int np, .ref tb, .ref md, .ref rw0, .int sz, .ref cs, .ref va, .int (lk + 1), .ref rn, .ref kp])), (va, jaL g 4 vv), (a0, jaI g 253 (jrw n f))]) ?_ rfl (by rw [hs]) rfl rfl
      refine j_iload 5 C dX5_holds_55 rfl ?_
      refine j_if_eq (tgt := 116) C dX5_holds_57 (by decide) (fun c_40 => ?_) (fun c_40 => ?_)
      · skip
        exact absurd c_40 (by decide)
      · skip
        refine j_iload 5 C dX5_holds_60 rfl ?_
        refine j_iconst (v := 1) C dX5_holds_62 rfl ?_
        refine j_icmp_ne (tgt := 74) C dX5_holds_63 (by decide) (fun c_41 => ?_) (fun c_41 => ?_)
        · skip
          refine j_iload 5 C dX5_holds_74 rfl ?_
          refine j_iconst (v := 2) C dX5_holds_76 rfl ?_
          refine j_icmp_ne (tgt := 88) C dX5_holds_77 (by decide) (fun c_42 => ?_) (fun c_42 => ?_)
          · skip
            refine j_iload 5 C dX5_holds_88 rfl ?_
            refine j_iconst (v := 3) C dX5_holds_90 rfl ?_
            refine j_icmp_ne (tgt := 102) C dX5_holds_91 (by decide) (fun c_43 => ?_) (fun c_43 => ?_)
            · skip
              exact absurd c_43 (by decide)
            · skip
              refine j_lload 4 C dX5_holds_94 rfl ?_
              refine j_lload 7 C dX5_holds_96 rfl ?_
              refine j_lcmp_lt (tgt := 116) C dX5_holds_98 dX5_holds_99 (by decide) (fun c_44 => ?_) (fun c_44 => ?_)
              · skip
                refine j_iconst (v := 1) C dX5_holds_116 rfl ?_
                refine j_goto (tgt := 121) C dX5_holds_117 (by decide) ?_
                exact j_zretW (v := 1) C hr dX5_holds_121 rfl () (by rw [jHold, if_neg (by rw [hs]; decide), if_neg (by rw [hs]; decide), if_neg (by rw [hs]; decide), if_pos hs]; first | rfl | (rw [decide_eq_true (by assumption)]; rfl) | (rw [decide_eq_false (by assumption)]; rfl) | (rw [decide_eq_false (Int64.not_le.mpr (by assumption))]; rfl) | (rw [decide_eq_true (Int64.not_lt.mp (by assumption))]; rfl)) rfl
              · skip
                refine j_iload 5 C dX5_holds_102 rfl ?_
                refine j_iconst (v := 4) C dX5_holds_104 rfl ?_
                refine j_icmp_ne (tgt := 120) C dX5_holds_105 (by decide) (fun c_45 => ?_) (fun c_45 => ?_)
                · skip
                  refine j_iconst (v := 0) C dX5_holds_120 rfl ?_
                  exact j_zretW (v := 0) C hr dX5_holds_121 rfl () (by rw [jHold, if_neg (by rw [hs]; decide), if_neg (by rw [hs]; decide), if_neg (by rw [hs]; decide), if_pos hs]; first | rfl | (rw [decide_eq_true (by assumption)]; rfl) | (rw [decide_eq_false (by assumption)]; rfl) | (rw [decide_eq_false (Int64.not_le.mpr (by assumption))]; rfl) | (rw [decide_eq_true (Int64.not_lt.mp (by assumption))]; rfl)) rfl
                · skip
                  exact absurd c_45 (by decide)
          · skip
            exact absurd c_42 (by decide)
        · skip
          exact absurd c_41 (by decide)
    · skip
      refine j_eq (pc' := 55) (L' := [(0, .ref m0), (1, .ref a0), (2, .int (nI k)), (3, .int (nI j)), (4, .long nu), (6, .int 4), (7, .int (f (k * 28 + 4 + j * 4 + 1))), (8, .long (jOth vv (f (k * 28 + 4 + j * 4 + 1))))]) (st' := []) (ws' := [(m0, .inr (4, [.int th, .int np, .ref tb, .ref md, .ref rw0, .int sz, .ref cs, .ref va, .int (lk + 1), .ref rn, .ref kp])), (va, jaL g 4 vv), (a0, jaI g 253 (jrw n f))]) ?_ rfl (by rw [hs]) rfl rfl
      refine j_iload 5 C dX5_holds_55 rfl ?_
      refine j_if_eq (tgt := 116) C dX5_holds_57 (by decide) (fun c_46 => ?_) (fun c_46 => ?_)
      · skip
        exact absurd c_46 (by decide)
      · skip
        refine j_iload 5 C dX5_holds_60 rfl ?_
        refine j_iconst (v := 1) C dX5_holds_62 rfl ?_
        refine j_icmp_ne (tgt := 74) C dX5_holds_63 (by decide) (fun c_47 => ?_) (fun c_47 => ?_)
        · skip
          refine j_iload 5 C dX5_holds_74 rfl ?_
          refine j_iconst (v := 2) C dX5_holds_76 rfl ?_
          refine j_icmp_ne (tgt := 88) C dX5_holds_77 (by decide) (fun c_48 => ?_) (fun c_48 => ?_)
          · skip
            refine j_iload 5 C dX5_holds_88 rfl ?_
            refine j_iconst (v := 3) C dX5_holds_90 rfl ?_
            refine j_icmp_ne (tgt := 102) C dX5_holds_91 (by decide) (fun c_49 => ?_) (fun c_49 => ?_)
            · skip
              refine j_iload 5 C dX5_holds_102 rfl ?_
              refine j_iconst (v := 4) C dX5_holds_104 rfl ?_
              refine j_icmp_ne (tgt := 120) C dX5_holds_105 (by decide) (fun c_50 => ?_) (fun c_50 => ?_)
              · skip
                exact absurd c_50 (by decide)
              · skip
                refine j_lload 4 C dX5_holds_108 rfl ?_
                refine j_lload 7 C dX5_holds_110 rfl ?_
                refine j_lcmp_le (tgt := 120) C dX5_holds_112 dX5_holds_113 (by decide) (fun c_51 => ?_) (fun c_51 => ?_)
                · skip
                  refine j_iconst (v := 0) C dX5_holds_120 rfl ?_
                  exact j_zretW (v := 0) C hr dX5_holds_121 rfl () (by rw [jHold, if_neg (by rw [hs]; decide), if_neg (by rw [hs]; decide), if_neg (by rw [hs]; decide), if_neg (by rw [hs]; decide)]; first | rfl | (rw [decide_eq_true (by assumption)]; rfl) | (rw [decide_eq_false (by assumption)]; rfl) | (rw [decide_eq_false (Int64.not_le.mpr (by assumption))]; rfl) | (rw [decide_eq_true (Int64.not_lt.mp (by assumption))]; rfl)) rfl
                · skip
                  refine j_iconst (v := 1) C dX5_holds_116 rfl ?_
                  refine j_goto (tgt := 121) C dX5_holds_117 (by decide) ?_
                  exact j_zretW (v := 1) C hr dX5_holds_121 rfl () (by rw [jHold, if_neg (by rw [hs]; decide), if_neg (by rw [hs]; decide), if_neg (by rw [hs]; decide), if_neg (by rw [hs]; decide)]; first | rfl | (rw [decide_eq_true (by assumption)]; rfl) | (rw [decide_eq_false (by assumption)]; rfl) | (rw [decide_eq_false (Int64.not_le.mpr (by assumption))]; rfl) | (rw [decide_eq_true (Int64.not_lt.mp (by assumption))]; rfl)) rfl
            · skip
              exact absurd c_49 (by decide)
          · skip
            exact absurd c_48 (by decide)
        · skip
          exact absurd c_47 (by decide)
set_option maxHeartbeats 4000000 in
set_option maxRecDepth 100000 in
theorem c_X5_set (l : Launch) (g : jG) (m0 : Nat) (th np : Int32) (tb md rw0 : Nat) (sz : Int32) (cs va : Nat) (lk : Int32) (rn kp : Nat) (vv : Nat → Int64) (de : Int32) (v pl : Nat) (nu : Int64) (hv : v < 4) : jWv l yX5_set wsX5_set ({ frames := 0, cells := 0, slots := 0, locals := 0 }) g [.ref m0, .int de, .int (nI v), .long nu, .int (nI pl)] [(m0, .inr (4, [.int th, .int np, .ref tb, .ref md, .ref rw0, .int sz, .ref cs, .ref va, .int lk, .ref rn, .ref kp])), (va, jaL g 4 vv)] [(m0, .inr (4, [.int th, .int np, .ref tb, .ref md, .ref rw0, .int sz, .ref cs, .ref va, .int lk, .ref rn, .ref kp])), (va, jaL g 4 (jDo de v (nI pl) nu vv))] := by
  refine j_enterW (Qc := fun sz_ => va_Qv (fun (_ : Unit) => True) (fun _ t => va_P g.1 vwCl [(m0, .inr (4, [.int th, .int np, .ref tb, .ref md, .ref rw0, .int sz, .ref cs, .ref va, .int lk, .ref rn, .ref kp])), (va, jaL g 4 (jDo de v (nI pl) nu vv))] t.heap) (va_A [(m0, .inr (4, [.int th, .int np, .ref tb, .ref md, .ref rw0, .int sz, .ref cs, .ref va, .int lk, .ref rn, .ref kp])), (va, jaL g 4 vv)] sz_)) (cc := cX5_set) (maxL := 6) (ret := none) (own := RX5) (L := [(0, .ref m0), (1, .int de), (2, .int (nI v)), (3, .long nu), (5, .int (nI pl))]) (by decide) rfl rfl (Nat.le_of_ble_eq_true rfl) rfl (fun p e s m args below meth c C hr => ?_)
  refine j_iload_n 1 C dX5_set_0 rfl rfl ?_
  refine j_if_ne (tgt := 14) C dX5_set_1 (by decide) (fun c_1 => ?_) (fun c_1 => ?_)
  · skip
    refine j_iload_n 1 C dX5_set_14 rfl rfl ?_
    refine j_iconst (v := 1) C dX5_set_15 rfl ?_
    refine j_icmp_ne (tgt := 31) C dX5_set_16 (by decide) (fun c_2 => ?_) (fun c_2 => ?_)
    · skip
      refine j_aload_n 0 C dX5_set_31 rfl rfl ?_
      refine j_get (Cn := RX5) (T := TX5) (N := 11) 0 7 C dX5_set_32 hin_X5_set_X5 rfl rfl (by decide) (List.mem_of_getElem? (i := 1) rfl) rfl ?_
      refine j_iload_n 2 C dX5_set_35 rfl rfl ?_
      refine j_dup2 C dX5_set_36 rfl rfl ?_
      refine j_laldN (x := v) 1 C dX5_set_37 rfl rfl (by omega) (by decide) ?_
      refine j_iload_n 1 C dX5_set_38 rfl rfl ?_
      refine j_iconst (v := 2) C dX5_set_39 rfl ?_
      refine j_icmp_ne (tgt := 47) C dX5_set_40 (by decide) (fun c_3 => ?_) (fun c_3 => ?_)
      · skip
        refine j_lload_n 3 C dX5_set_47 rfl rfl ?_
        refine j_ladd (v := (vv v) + nu) C dX5_set_48 rfl ?_
        refine j_lastN (x := v) (ws' := [(m0, .inr (4, [.int th, .int np, .ref tb, .ref md, .ref rw0, .int sz, .ref cs, .ref va, .int lk, .ref rn, .ref kp])), (va, jaL g 4 (vp_updL vv v ((vv v) + nu)))]) 1 C dX5_set_49 rfl rfl (by omega) (by decide) rfl ?_
        exact j_vretW C hr dX5_set_50 () trivial (by first | rw [jDo, if_pos (by assumption)] | rw [jDo, if_neg (by assumption), if_pos (by assumption)] | rw [jDo, if_neg (by assumption), if_neg (by assumption), if_pos (by assumption)] | rw [jDo, if_neg (by assumption), if_neg (by assumption), if_neg (by assumption)])
      · skip
        refine j_lconst (v := 1) C dX5_set_43 rfl ?_
        refine j_goto (tgt := 48) C dX5_set_44 (by decide) ?_
        refine j_ladd (v := (vv v) + 1) C dX5_set_48 rfl ?_
        refine j_lastN (x := v) (ws' := [(m0, .inr (4, [.int th, .int np, .ref tb, .ref md, .ref rw0, .int sz, .ref cs, .ref va, .int lk, .ref rn, .ref kp])), (va, jaL g 4 (vp_updL vv v ((vv v) + 1)))]) 1 C dX5_set_49 rfl rfl (by omega) (by decide) rfl ?_
        exact j_vretW C hr dX5_set_50 () trivial (by first | rw [jDo, if_pos (by assumption)] | rw [jDo, if_neg (by assumption), if_pos (by assumption)] | rw [jDo, if_neg (by assumption), if_neg (by assumption), if_pos (by assumption)] | rw [jDo, if_neg (by assumption), if_neg (by assumption), if_neg (by assumption)])
    · skip
      refine j_aload_n 0 C dX5_set_19 rfl rfl ?_
      refine j_get (Cn := RX5) (T := TX5) (N := 11) 0 7 C dX5_set_20 hin_X5_set_X5 rfl rfl (by decide) (List.mem_of_getElem? (i := 1) rfl) rfl ?_
      refine j_iload_n 2 C dX5_set_23 rfl rfl ?_
      refine j_iload 4 C dX5_set_24 rfl ?_
      refine j_i2l (v := (nI pl).toInt64) C dX5_set_26 rfl ?_
      refine j_lastN (x := v) (ws' := [(m0, .inr (4, [.int th, .int np, .ref tb, .ref md, .ref rw0, .int sz, .ref cs, .ref va, .int lk, .ref rn, .ref kp])), (va, jaL g 4 (vp_updL vv v ((nI pl).toInt64)))]) 1 C dX5_set_27 rfl rfl (by omega) (by decide) rfl ?_
      refine j_goto (tgt := 50) C dX5_set_28 (by decide) ?_
      exact j_vretW C hr dX5_set_50 () trivial (by first | rw [jDo, if_pos (by assumption)] | rw [jDo, if_neg (by assumption), if_pos (by assumption)] | rw [jDo, if_neg (by assumption), if_neg (by assumption), if_pos (by assumption)] | rw [jDo, if_neg (by assumption), if_neg (by assumption), if_neg (by assumption)])
  · skip
    refine j_aload_n 0 C dX5_set_4 rfl rfl ?_
    refine j_get (Cn := RX5) (T := TX5) (N := 11) 0 7 C dX5_set_5 hin_X5_set_X5 rfl rfl (by decide) (List.mem_of_getElem? (i := 1) rfl) rfl ?_
    refine j_iload_n 2 C dX5_set_8 rfl rfl ?_
    refine j_lload_n 3 C dX5_set_9 rfl rfl ?_
    refine j_lastN (x := v) (ws' := [(m0, .inr (4, [.int th, .int np, .ref tb, .ref md, .ref rw0, .int sz, .ref cs, .ref va, .int lk, .ref rn, .ref kp])), (va, jaL g 4 (vp_updL vv v nu))]) 1 C dX5_set_10 rfl rfl (by omega) (by decide) rfl ?_
    refine j_goto (tgt := 50) C dX5_set_11 (by decide) ?_
    exact j_vretW C hr dX5_set_50 () trivial (by first | rw [jDo, if_pos (by assumption)] | rw [jDo, if_neg (by assumption), if_pos (by assumption)] | rw [jDo, if_neg (by assumption), if_neg (by assumption), if_pos (by assumption)] | rw [jDo, if_neg (by assumption), if_neg (by assumption), if_neg (by assumption)])
set_option maxHeartbeats 4000000 in
set_option maxRecDepth 100000 in
theorem c_X5_runOver (l : Launch) (g : jG) (m0 : Nat) (th np : Int32) (tb md rw0 : Nat) (sz : Int32) (cs va : Nat) (lk : Int32) (rn kp : Nat) (vv : Nat → Int64) (a0 n : Nat) (f : Nat → Int32) (nb len N : Nat) (row : Nat → Int64) (hok : jOk n f) (hlen : len ≤ N) (hN : N ≤ 100) : jWi l yX5_runOver wsX5_runOver ({ frames := 4, cells := 0, slots := 0, locals := 93 }) g [.ref m0, .ref a0, .ref nb, .int (nI len)] [(m0, .inr (4, [.int th, .int np, .ref tb, .ref md, .ref rw0, .int sz, .ref cs, .ref va, .int lk, .ref rn, .ref kp])), (va, jaL g 4 vv), (a0, jaI g 253 (jrw n f)), (nb, jaL g N row)] [(m0, .inr (4, [.int th, .int np, .ref tb, .ref md, .ref rw0, .int sz, .ref cs, .ref va, .int ((jRn n f row len).2.1), .ref rn, .ref kp])), (va, jaL g 4 ((jRn n f row len).1)), (a0, jaI g 253 (jrw n f)), (nb, jaL g N row)] ((jRn n f row len).2.2) := by
  refine j_enterW (Qc := fun sz_ => va_Qi (fun r (_ : Unit) => r = (jRn n f row len).2.2) (fun _ t => va_P g.1 vwCl [(m0, .inr (4, [.int th, .int np, .ref tb, .ref md, .ref rw0, .int sz, .ref cs, .ref va, .int ((jRn n f row len).2.1), .ref rn, .ref kp])), (va, jaL g 4 ((jRn n f row len).1)), (a0, jaI g 253 (jrw n f)), (nb, jaL g N row)] t.heap) (va_A [(m0, .inr (4, [.int th, .int np, .ref tb, .ref md, .ref rw0, .int sz, .ref cs, .ref va, .int lk, .ref rn, .ref kp])), (va, jaL g 4 vv), (a0, jaI g 253 (jrw n f)), (nb, jaL g N row)] sz_)) (cc := cX5_runOver) (maxL := 14) (ret := (some .int)) (own := RX5) (L := [(0, .ref m0), (1, .ref a0), (2, .ref nb), (3, .int (nI len))]) (by decide) rfl rfl (Nat.le_of_ble_eq_true rfl) rfl (fun p e s m args below meth c C hr => ?_)
  have hn8 := hok.1
  refine j_aload_n 0 C dX5_runOver_0 rfl rfl ?_
  refine j_iconst (v := 0) C dX5_runOver_1 rfl ?_
  refine j_put (Cn := RX5) (T := TX5) (N := 11) (ws' := [(m0, .inr (4, [.int th, .int np, .ref tb, .ref md, .ref rw0, .int sz, .ref cs, .ref va, .int 0, .ref rn, .ref kp])), (va, jaL g 4 vv), (a0, jaI g 253 (jrw n f)), (nb, jaL g N row)]) tyX5 0 8 C dX5_runOver_2 hin_X5_runOver_X5 tyX5_ok nmX5 rfl rfl (by decide) (List.mem_of_getElem? (i := 1) rfl) rfl (tyX5_ok 8 (by decide)) rfl rfl (Nat.le_of_ble_eq_true rfl) rfl ?_
  refine j_iconst (v := 0) C dX5_runOver_5 rfl ?_
  refine j_istore (L' := [(0, .ref m0), (1, .ref a0), (2, .ref nb), (3, .int (nI len)), (4, .int 0)]) C dX5_runOver_6 (Nat.le_of_ble_eq_true rfl) rfl rfl ?_
  refine j_loop (σ := Nat) (fun (x : Nat) => [(0, .ref m0), (1, .ref a0), (2, .ref nb), (3, .int (nI len)), (4, .int (nI x))]) (fun (x : Nat) => [(m0, .inr (4, [.int th, .int np, .ref tb, .ref md, .ref rw0, .int sz, .ref cs, .ref va, .int 0, .ref rn, .ref kp])), (va, jaL g 4 (jZL vv x)), (a0, jaI g 253 (jrw n f)), (nb, jaL g N row)]) (fun (x : Nat) => (x ≤ 4)) (fun (x : Nat) => 4 - x) (fun x_ hi_2 ih_1 => ?_) 0 (by omega) rfl (by rw [jZL_0])
  obtain ⟨x, hx_⟩ : ∃ z, z = x_ := ⟨_, rfl⟩
  subst hx_
  have hi_2_0 : (x ≤ 4) := hi_2
  refine j_eq (pc' := 8) (L' := [(0, .ref m0), (1, .ref a0), (2, .ref nb), (3, .int (nI len)), (4, .int (nI x))]) (st' := []) (ws' := [(m0, .inr (4, [.int th, .int np, .ref tb, .ref md, .ref rw0, .int sz, .ref cs, .ref va, .int 0, .ref rn, .ref kp])), (va, jaL g 4 (jZL vv x)), (a0, jaI g 253 (jrw n f)), (nb, jaL g N row)]) ?_ rfl rfl rfl rfl
  refine j_iload 4 C dX5_runOver_8 rfl ?_
  refine j_iconst (v := 4) C dX5_runOver_10 rfl ?_
  refine j_icmp_ge (tgt := 28) C dX5_runOver_11 (by decide) (fun c_3 => ?_) (fun c_3 => ?_)
  · skip
    have c_3 : 4 ≤ x := (nI_leI (a := 4) (b := x) (by omega) (by omega)).mp c_3
    refine j_arrL (f' := fun _ => 0) (ws' := [(m0, .inr (4, [.int th, .int np, .ref tb, .ref md, .ref rw0, .int sz, .ref cs, .ref va, .int 0, .ref rn, .ref kp])), (va, jaL g 4 (fun _ => 0)), (a0, jaI g 253 (jrw n f)), (nb, jaL g N row)]) 1 rfl (fun i hi => if_pos (by omega)) rfl ?_
    refine j_iconst (v := 0) C dX5_runOver_28 rfl ?_
    refine j_istore (L' := [(0, .ref m0), (1, .ref a0), (2, .ref nb), (3, .int (nI len)), (4, .int 0)]) C dX5_runOver_29 (Nat.le_of_ble_eq_true rfl) rfl rfl ?_
    refine j_loop (σ := Nat × (Nat → Int64) × Int32) (fun (x9_ : Nat × (Nat → Int64) × Int32) => match x9_ with | (k, v1, lk1) => [(0, .ref m0), (1, .ref a0), (2, .ref nb), (3, .int (nI len)), (4, .int (nI k))]) (fun (x9_ : Nat × (Nat → Int64) × Int32) => match x9_ with | (k, v1, lk1) => [(m0, .inr (4, [.int th, .int np, .ref tb, .ref md, .ref rw0, .int sz, .ref cs, .ref va, .int lk1, .ref rn, .ref kp])), (va, jaL g 4 v1), (a0, jaI g 253 (jrw n f)), (nb, jaL g N row)]) (fun (x9_ : Nat × (Nat → Int64) × Int32) => match x9_ with | (k, v1, lk1) => (k ≤ n) ∧ (jLs f row len (n - k) k v1 lk1 (-1) = jRn n f row len)) (fun (x9_ : Nat × (Nat → Int64) × Int32) => match x9_ with | (k, v1, lk1) => n - k) (fun x_ hi_5 ih_4 => ?_) (0, fun _ => 0, 0) ⟨(by omega), rfl⟩ rfl rfl
    obtain ⟨k, v1, lk1⟩ := x_
    obtain ⟨hI0, hI1⟩ := (show (k ≤ n) ∧ (jLs f row len (n - k) k v1 lk1 (-1) = jRn n f row len) from hi_5)
    refine j_eq (pc' := 31) (L' := [(0, .ref m0), (1, .ref a0), (2, .ref nb), (3, .int (nI len)), (4, .int (nI k))]) (st' := []) (ws' := [(m0, .inr (4, [.int th, .int np, .ref tb, .ref md, .ref rw0, .int sz, .ref cs, .ref va, .int lk1, .ref rn, .ref kp])), (va, jaL g 4 v1), (a0, jaI g 253 (jrw n f)), (nb, jaL g N row)]) ?_ rfl rfl rfl rfl
    refine j_iload 4 C dX5_runOver_31 rfl ?_
    refine j_aload_n 1 C dX5_runOver_33 rfl rfl ?_
    refine j_iconst (v := 0) C dX5_runOver_34 rfl ?_
    refine j_ialdR0 2 C dX5_runOver_35 rfl rfl ?_
    refine j_icmp_ge (tgt := 237) C dX5_runOver_36 (by decide) (fun c_6 => ?_) (fun c_6 => ?_)
    · skip
      have c_6 : n ≤ k := (nI_leI (a := n) (b := k) (by omega) (by omega)).mp c_6
      refine j_iconst (v := -1) C dX5_runOver_237 rfl ?_
      exact j_iretW (v := -1) C hr dX5_runOver_238 () (by rw [← hI1, show n - k = 0 by omega]; rfl) (by rw [← hI1, show n - k = 0 by omega]; rfl)
    · skip
      have c_6 : ¬ n ≤ k := fun z => c_6 ((nI_leI (a := n) (b := k) (by omega) (by omega)).mpr z)
      obtain ⟨u, w, a, hu5, hw5, ha6, hu, hw, hup, ha, hst⟩ := hok.2 k (by omega)
      refine j_aload_n 1 C dX5_runOver_39 rfl rfl ?_
      refine j_iload 4 C dX5_runOver_40 rfl ?_
      refine j_callRi (v := nI (1 + 28 * k)) (j_runS (As := [.int (nI k)]) (rest := [.ref a0]) [] C (c_X5_loopAt l g k) gX5_runOver_X5_loopAt rfl rfl rfl hd_X5_loopAt ⟨Nat.le_of_ble_eq_true rfl, Nat.le_of_ble_eq_true rfl⟩ rfl rfl dX5_runOver_42 rfl (Nat.le_of_ble_eq_true rfl) ⟨Nat.le_of_ble_eq_true rfl, Nat.le_of_ble_eq_true rfl⟩) ?_
      refine j_ialdR (x := 1 + 28 * k) (y := k * 28 + 0) 2 C dX5_runOver_45 rfl rfl (by omega) (by omega) ?_
      refine j_eq (pc' := 46) (L' := [(0, .ref m0), (1, .ref a0), (2, .ref nb), (3, .int (nI len)), (4, .int (nI k))]) (st' := [.int (nI u)]) (ws' := [(m0, .inr (4, [.int th, .int np, .ref tb, .ref md, .ref rw0, .int sz, .ref cs, .ref va, .int lk1, .ref rn, .ref kp])), (va, jaL g 4 v1), (a0, jaI g 253 (jrw n f)), (nb, jaL g N row)]) ?_ rfl rfl (by rw [hu]) rfl
      refine j_istore (L' := [(0, .ref m0), (1, .ref a0), (2, .ref nb), (3, .int (nI len)), (4, .int (nI k)), (5, .int (nI u))]) C dX5_runOver_46 (Nat.le_of_ble_eq_true rfl) rfl rfl ?_
      refine j_iload_n 3 C dX5_runOver_48 rfl rfl ?_
      refine j_iconst (v := 1) C dX5_runOver_49 rfl ?_
      refine j_isub (x := nI len) (y := 1) (v := nI len - 1) C dX5_runOver_50 rfl ?_
      refine j_aload_n 1 C dX5_runOver_51 rfl rfl ?_
      refine j_iload 4 C dX5_runOver_52 rfl ?_
      refine j_callRi (v := nI (1 + 28 * k)) (j_runS (As := [.int (nI k)]) (rest := [.ref a0, .int (nI len - 1)]) [] C (c_X5_loopAt l g k) gX5_runOver_X5_loopAt rfl rfl rfl hd_X5_loopAt ⟨Nat.le_of_ble_eq_true rfl, Nat.le_of_ble_eq_true rfl⟩ rfl rfl dX5_runOver_54 rfl (Nat.le_of_ble_eq_true rfl) ⟨Nat.le_of_ble_eq_true rfl, Nat.le_of_ble_eq_true rfl⟩) ?_
      refine j_iconst (v := 1) C dX5_runOver_57 rfl ?_
      refine j_iadd (x := nI (1 + 28 * k)) (y := 1) (v := nI (1 + 28 * k + 1)) C dX5_runOver_58 (nI_add (1 + 28 * k) 1) ?_
      refine j_ialdR (x := 1 + 28 * k + 1) (y := k * 28 + 1) 2 C dX5_runOver_59 rfl rfl (by omega) (by omega) ?_
      refine j_eq (pc' := 60) (L' := [(0, .ref m0), (1, .ref a0), (2, .ref nb), (3, .int (nI len)), (4, .int (nI k)), (5, .int (nI u))]) (st' := [.int (nI w), .int (nI len - 1)]) (ws' := [(m0, .inr (4, [.int th, .int np, .ref tb, .ref md, .ref rw0, .int sz, .ref cs, .ref va, .int lk1, .ref rn, .ref kp])), (va, jaL g 4 v1), (a0, jaI g 253 (jrw n f)), (nb, jaL g N row)]) ?_ rfl rfl (by rw [hw]) rfl
      refine j_isub (x := nI len - 1) (y := nI w) (v := nI len - 1 - nI w) C dX5_runOver_60 rfl ?_
      refine j_istore (L' := [(0, .ref m0), (1, .ref a0), (2, .ref nb), (3, .int (nI len)), (4, .int (nI k)), (5, .int (nI u)), (6, .int (nI len - 1 - nI w))]) C dX5_runOver_61 (Nat.le_of_ble_eq_true rfl) rfl rfl ?_
      refine j_aload_n 1 C dX5_runOver_63 rfl rfl ?_
      refine j_iload 4 C dX5_runOver_64 rfl ?_
      refine j_callRi (v := nI (1 + 28 * k)) (j_runS (As := [.int (nI k)]) (rest := [.ref a0]) [] C (c_X5_loopAt l g k) gX5_runOver_X5_loopAt rfl rfl rfl hd_X5_loopAt ⟨Nat.le_of_ble_eq_true rfl, Nat.le_of_ble_eq_true rfl⟩ rfl rfl dX5_runOver_66 rfl (Nat.le_of_ble_eq_true rfl) ⟨Nat.le_of_ble_eq_true rfl, Nat.le_of_ble_eq_true rfl⟩) ?_
      refine j_iconst (v := 2) C dX5_runOver_69 rfl ?_
      refine j_iadd (x := nI (1 + 28 * k)) (y := 2) (v := nI (1 + 28 * k + 2)) C dX5_runOver_70 (nI_add (1 + 28 * k) 2) ?_
      refine j_ialdR (x := 1 + 28 * k + 2) (y := k * 28 + 2) 2 C dX5_runOver_71 rfl rfl (by omega) (by omega) ?_
      refine j_iconst (v := 1) C dX5_runOver_72 rfl ?_
      refine j_icmp_ne (tgt := 80) C dX5_runOver_73 (by decide) (fun c_7 => ?_) (fun c_7 => ?_)
      · skip
        refine j_iconst (v := 0) C dX5_runOver_80 rfl ?_
        refine j_eq (pc' := 81) (L' := [(0, .ref m0), (1, .ref a0), (2, .ref nb), (3, .int (nI len)), (4, .int (nI k)), (5, .int (nI u)), (6, .int (nI len - 1 - nI w))]) (st' := [.int (jb (decide (f (k * 28 + 2) = 1)))]) (ws' := [(m0, .inr (4, [.int th, .int np, .ref tb, .ref md, .ref rw0, .int sz, .ref cs, .ref va, .int lk1, .ref rn, .ref kp])), (va, jaL g 4 v1), (a0, jaI g 253 (jrw n f)), (nb, jaL g N row)]) ?_ rfl rfl (by rw [decide_eq_false (by assumption)]; rfl) rfl
        refine j_istore (L' := [(0, .ref m0), (1, .ref a0), (2, .ref nb), (3, .int (nI len)), (4, .int (nI k)), (5, .int (nI u)), (6, .int (nI len - 1 - nI w)), (7, .int (jb (decide (f (k * 28 + 2) = 1))))]) C dX5_runOver_81 (Nat.le_of_ble_eq_true rfl) rfl rfl ?_
        refine j_iconst (v := 0) C dX5_runOver_83 rfl ?_
        refine j_istore (L' := [(0, .ref m0), (1, .ref a0), (2, .ref nb), (3, .int (nI len)), (4, .int (nI k)), (5, .int (nI u)), (6, .int (nI len - 1 - nI w)), (7, .int (jb (decide (f (k * 28 + 2) = 1)))), (8, .int 0)]) C dX5_runOver_84 (Nat.le_of_ble_eq_true rfl) rfl rfl ?_
        refine j_iconst (v := 0) C dX5_runOver_86 rfl ?_
        refine j_istore (L' := [(0, .ref m0), (1, .ref a0), (2, .ref nb), (3, .int (nI len)), (4, .int (nI k)), (5, .int (nI u)), (6, .int (nI len - 1 - nI w)), (7, .int (jb (decide (f (k * 28 + 2) = 1)))), (8, .int 0), (9, .int 0)]) C dX5_runOver_87 (Nat.le_of_ble_eq_true rfl) rfl rfl ?_
        refine j_loop (σ := Nat × Bool × (Nat → Int64) × Int32) (fun (x9_ : Nat × Bool × (Nat → Int64) × Int32) => match x9_ with | (x, b, v2, lk2) => [(0, .ref m0), (1, .ref a0), (2, .ref nb), (3, .int (nI len)), (4, .int (nI k)), (5, .int (nI u)), (6, .int (nI len - 1 - nI w)), (7, .int (jb (decide (f (k * 28 + 2) = 1)))), (8, .int (jb b)), (9, .int (nI x))]) (fun (x9_ : Nat × Bool × (Nat → Int64) × Int32) => match x9_ with | (x, b, v2, lk2) => [(m0, .inr (4, [.int th, .int np, .ref tb, .ref md, .ref rw0, .int sz, .ref cs, .ref va, .int lk2, .ref rn, .ref kp])), (va, jaL g 4 v2), (a0, jaI g 253 (jrw n f)), (nb, jaL g N row)]) (fun (x9_ : Nat × Bool × (Nat → Int64) × Int32) => match x9_ with | (x, b, v2, lk2) => (x ≤ len) ∧ ((if b = true then (v2, lk2, (-1 : Int32)) else jPl f k a row (decide (f (k * 28 + 2) = 1)) u w len (len - (u + x + w)) (u + x) v2 lk2 (-1)) = jLp f k row len v1 lk1 (-1))) (fun (x9_ : Nat × Bool × (Nat → Int64) × Int32) => match x9_ with | (x, b, v2, lk2) => len + 1 - x) (fun x_ hi_9 ih_8 => ?_) (0, false, v1, lk1) ⟨(by omega), (by rw [if_neg (by decide), jLp, ha, hu, hw, show nn (nI a) = a from nI_clamp (by omega), show nn (nI u) = u from nI_clamp (by omega), show nn (nI w) = w from nI_clamp (by omega)]; all_goals rfl)⟩ rfl rfl
        obtain ⟨x, b, v2, lk2⟩ := x_
        obtain ⟨hJ0, hJ1⟩ := (show (x ≤ len) ∧ ((if b = true then (v2, lk2, (-1 : Int32)) else jPl f k a row (decide (f (k * 28 + 2) = 1)) u w len (len - (u + x + w)) (u + x) v2 lk2 (-1)) = jLp f k row len v1 lk1 (-1)) from hi_9)
        refine j_eq (pc' := 89) (L' := [(0, .ref m0), (1, .ref a0), (2, .ref nb), (3, .int (nI len)), (4, .int (nI k)), (5, .int (nI u)), (6, .int (nI len - 1 - nI w)), (7, .int (jb (decide (f (k * 28 + 2) = 1)))), (8, .int (jb b)), (9, .int (nI x))]) (st' := []) (ws' := [(m0, .inr (4, [.int th, .int np, .ref tb, .ref md, .ref rw0, .int sz, .ref cs, .ref va, .int lk2, .ref rn, .ref kp])), (va, jaL g 4 v2), (a0, jaI g 253 (jrw n f)), (nb, jaL g N row)]) ?_ rfl rfl rfl rfl
        refine j_iload 9 C dX5_runOver_89 rfl ?_
        refine j_iload 6 C dX5_runOver_91 rfl ?_
        refine j_iload 5 C dX5_runOver_93 rfl ?_
        refine j_isub (x := nI len - 1 - nI w) (y := nI u) (v := nI len - 1 - nI w - nI u) C dX5_runOver_95 rfl ?_
        refine j_icmp_gt (tgt := 231) C dX5_runOver_96 (by decide) (fun c_10 => ?_) (fun c_10 => ?_)
        · skip
          have c_10 : len ≤ u + x + w := (jlast2 (by omega) (by omega) (by omega) (by omega)).mp c_10
          refine j_iinc (v := nI (k + 1)) (L' := [(0, .ref m0), (1, .ref a0), (2, .ref nb), (3, .int (nI len)), (4, .int (nI (k + 1))), (5, .int (nI u)), (6, .int (nI len - 1 - nI w)), (7, .int (jb (decide (f (k * 28 + 2) = 1)))), (8, .int (jb b)), (9, .int (nI x))]) 4 C dX5_runOver_231 rfl (nI_add k 1) (Nat.le_of_ble_eq_true rfl) rfl rfl ?_
          refine j_goto (tgt := 31) C dX5_runOver_234 (by decide) ?_
          refine j_pick (L' := [(0, .ref m0), (1, .ref a0), (2, .ref nb), (3, .int (nI len)), (4, .int (nI (k + 1)))]) [0, 1, 2, 3, 4] rfl ?_
          exact ih_4 (k + 1, v2, lk2) ⟨(by omega), (by rw [← hI1, show n - k = (n - (k + 1)) + 1 by omega, jLs_s, if_pos rfl, ← hJ1]; cases b with | true => rfl | false => first | contradiction | (rw [show len - (u + x + w) = 0 by omega]; rfl))⟩ (show n - (k + 1) < n - k from by omega)
        · skip
          have c_10 : ¬ len ≤ u + x + w := fun z => c_10 ((jlast2 (by omega) (by omega) (by omega) (by omega)).mpr z)
          refine j_iload 8 C dX5_runOver_99 rfl ?_
          refine j_if_ne (tgt := 231) C dX5_runOver_101 (by decide) (fun c_11 => ?_) (fun c_11 => ?_)
          · skip
            have c_11 : b = true := jb_1 c_11
            refine j_iinc (v := nI (k + 1)) (L' := [(0, .ref m0), (1, .ref a0), (2, .ref nb), (3, .int (nI len)), (4, .int (nI (k + 1))), (5, .int (nI u)), (6, .int (nI len - 1 - nI w)), (7, .int (jb (decide (f (k * 28 + 2) = 1)))), (8, .int (jb b)), (9, .int (nI x))]) 4 C dX5_runOver_231 rfl (nI_add k 1) (Nat.le_of_ble_eq_true rfl) rfl rfl ?_
            refine j_goto (tgt := 31) C dX5_runOver_234 (by decide) ?_
            refine j_pick (L' := [(0, .ref m0), (1, .ref a0), (2, .ref nb), (3, .int (nI len)), (4, .int (nI (k + 1)))]) [0, 1, 2, 3, 4] rfl ?_
            exact ih_4 (k + 1, v2, lk2) ⟨(by omega), (by rw [← hI1, show n - k = (n - (k + 1)) + 1 by omega, jLs_s, if_pos rfl, ← hJ1]; cases b with | true => rfl | false => first | contradiction | (rw [show len - (u + x + w) = 0 by omega]; rfl))⟩ (show n - (k + 1) < n - k from by omega)
          · skip
            have c_11 : b = false := jb_0 c_11
            refine j_iload 7 C dX5_runOver_104 rfl ?_
            refine j_if_eq (tgt := 117) C dX5_runOver_106 (by decide) (fun c_12 => ?_) (fun c_12 => ?_)
            · skip
              have c_12 : (decide (f (k * 28 + 2) = 1)) = false := jb_0 c_12
              refine j_iload 6 C dX5_runOver_117 rfl ?_
              refine j_iload 9 C dX5_runOver_119 rfl ?_
              refine j_isub (x := nI len - 1 - nI w) (y := nI x) (v := nI (len - 1 - w - x)) C dX5_runOver_121 (jplace2 (by omega)) ?_
              obtain ⟨pl, hpl⟩ : ∃ pl : Nat, pl = jPos (decide (f (k * 28 + 2) = 1)) u w len (u + x) := ⟨_, rfl⟩
              have hpos : pl < len := by rw [hpl]; unfold jPos; split <;> omega
              refine j_eq (pc' := 122) (L' := [(0, .ref m0), (1, .ref a0), (2, .ref nb), (3, .int (nI len)), (4, .int (nI k)), (5, .int (nI u)), (6, .int (nI len - 1 - nI w)), (7, .int (jb (decide (f (k * 28 + 2) = 1)))), (8, .int (jb b)), (9, .int (nI x))]) (st' := [.int (nI pl)]) (ws' := [(m0, .inr (4, [.int th, .int np, .ref tb, .ref md, .ref rw0, .int sz, .ref cs, .ref va, .int lk2, .ref rn, .ref kp])), (va, jaL g 4 v2), (a0, jaI g 253 (jrw n f)), (nb, jaL g N row)]) ?_ rfl rfl (by rw [hpl, jPos, if_neg (by rw [‹decide (f (k * 28 + 2) = 1) = false›]; decide), Nat.add_sub_cancel_left]) rfl
              refine j_istore (L' := [(0, .ref m0), (1, .ref a0), (2, .ref nb), (3, .int (nI len)), (4, .int (nI k)), (5, .int (nI u)), (6, .int (nI len - 1 - nI w)), (7, .int (jb (decide (f (k * 28 + 2) = 1)))), (8, .int (jb b)), (9, .int (nI x)), (10, .int (nI pl))]) C dX5_runOver_122 (Nat.le_of_ble_eq_true rfl) rfl rfl ?_
              refine j_iconst (v := 0) C dX5_runOver_124 rfl ?_
              refine j_istore (L' := [(0, .ref m0), (1, .ref a0), (2, .ref nb), (3, .int (nI len)), (4, .int (nI k)), (5, .int (nI u)), (6, .int (nI len - 1 - nI w)), (7, .int (jb (decide (f (k * 28 + 2) = 1)))), (8, .int (jb b)), (9, .int (nI x)), (10, .int (nI pl)), (11, .int 0)]) C dX5_runOver_125 (Nat.le_of_ble_eq_true rfl) rfl rfl ?_
              refine j_loop (σ := Nat × Bool × (Nat → Int64) × Int32) (fun (x9_ : Nat × Bool × (Nat → Int64) × Int32) => match x9_ with | (j, b2, v3, lk3) => [(0, .ref m0), (1, .ref a0), (2, .ref nb), (3, .int (nI len)), (4, .int (nI k)), (5, .int (nI u)), (6, .int (nI len - 1 - nI w)), (7, .int (jb (decide (f (k * 28 + 2) = 1)))), (8, .int (jb b2)), (9, .int (nI x)), (10, .int (nI pl)), (11, .int (nI j))]) (fun (x9_ : Nat × Bool × (Nat → Int64) × Int32) => match x9_ with | (j, b2, v3, lk3) => [(m0, .inr (4, [.int th, .int np, .ref tb, .ref md, .ref rw0, .int sz, .ref cs, .ref va, .int lk3, .ref rn, .ref kp])), (va, jaL g 4 v3), (a0, jaI g 253 (jrw n f)), (nb, jaL g N row)]) (fun (x9_ : Nat × Bool × (Nat → Int64) × Int32) => match x9_ with | (j, b2, v3, lk3) => (j ≤ a) ∧ ((if b2 = true then (v3, lk3, (-1 : Int32), false) else jSt f k pl (row pl) (a - j) j v3 lk3 (-1)) = jSt f k pl (row pl) a 0 v2 lk2 (-1))) (fun (x9_ : Nat × Bool × (Nat → Int64) × Int32) => match x9_ with | (j, b2, v3, lk3) => a - j) (fun x_ hi_14 ih_13 => ?_) (0, b, v2, lk2) ⟨(by omega), (by rw [if_neg (show ¬ b = true by rw [‹b = false›]; decide)]; all_goals rfl)⟩ rfl rfl
              obtain ⟨j, b2, v3, lk3⟩ := x_
              obtain ⟨hK0, hK1⟩ := (show (j ≤ a) ∧ ((if b2 = true then (v3, lk3, (-1 : Int32), false) else jSt f k pl (row pl) (a - j) j v3 lk3 (-1)) = jSt f k pl (row pl) a 0 v2 lk2 (-1)) from hi_14)
              refine j_eq (pc' := 127) (L' := [(0, .ref m0), (1, .ref a0), (2, .ref nb), (3, .int (nI len)), (4, .int (nI k)), (5, .int (nI u)), (6, .int (nI len - 1 - nI w)), (7, .int (jb (decide (f (k * 28 + 2) = 1)))), (8, .int (jb b2)), (9, .int (nI x)), (10, .int (nI pl)), (11, .int (nI j))]) (st' := []) (ws' := [(m0, .inr (4, [.int th, .int np, .ref tb, .ref md, .ref rw0, .int sz, .ref cs, .ref va, .int lk3, .ref rn, .ref kp])), (va, jaL g 4 v3), (a0, jaI g 253 (jrw n f)), (nb, jaL g N row)]) ?_ rfl rfl rfl rfl
              refine j_iload 11 C dX5_runOver_127 rfl ?_
              refine j_aload_n 1 C dX5_runOver_129 rfl rfl ?_
              refine j_iload 4 C dX5_runOver_130 rfl ?_
              refine j_callRi (v := f (k * 28 + 3)) (j_runS (As := [.ref a0, .int (nI k)]) (rest := [.int (nI j)]) [2] C (c_X5_steps l g a0 n f k (by omega)) gX5_runOver_X5_steps rfl rfl rfl hd_X5_steps ⟨Nat.le_of_ble_eq_true rfl, Nat.le_of_ble_eq_true rfl⟩ rfl rfl dX5_runOver_132 rfl (Nat.le_of_ble_eq_true rfl) ⟨Nat.le_of_ble_eq_true rfl, Nat.le_of_ble_eq_true rfl⟩) ?_
              refine j_eq (pc' := 135) (L' := [(0, .ref m0), (1, .ref a0), (2, .ref nb), (3, .int (nI len)), (4, .int (nI k)), (5, .int (nI u)), (6, .int (nI len - 1 - nI w)), (7, .int (jb (decide (f (k * 28 + 2) = 1)))), (8, .int (jb b2)), (9, .int (nI x)), (10, .int (nI pl)), (11, .int (nI j))]) (st' := [.int (nI a), .int (nI j)]) (ws' := [(m0, .inr (4, [.int th, .int np, .ref tb, .ref md, .ref rw0, .int sz, .ref cs, .ref va, .int lk3, .ref rn, .ref kp])), (va, jaL g 4 v3), (a0, jaI g 253 (jrw n f)), (nb, jaL g N row)]) ?_ rfl rfl (by rw [ha]) rfl
              refine j_icmp_ge (tgt := 225) C dX5_runOver_135 (by decide) (fun c_15 => ?_) (fun c_15 => ?_)
              · skip
                have c_15 : a ≤ j := (nI_leI (a := a) (b := j) (by omega) (by omega)).mp c_15
                refine j_iinc (v := nI (x + 1)) (L' := [(0, .ref m0), (1, .ref a0), (2, .ref nb), (3, .int (nI len)), (4, .int (nI k)), (5, .int (nI u)), (6, .int (nI len - 1 - nI w)), (7, .int (jb (decide (f (k * 28 + 2) = 1)))), (8, .int (jb b2)), (9, .int (nI (x + 1))), (10, .int (nI pl)), (11, .int (nI j))]) 9 C dX5_runOver_225 rfl (nI_add x 1) (Nat.le_of_ble_eq_true rfl) rfl rfl ?_
                refine j_goto (tgt := 89) C dX5_runOver_228 (by decide) ?_
                refine j_pick (L' := [(0, .ref m0), (1, .ref a0), (2, .ref nb), (3, .int (nI len)), (4, .int (nI k)), (5, .int (nI u)), (6, .int (nI len - 1 - nI w)), (7, .int (jb (decide (f (k * 28 + 2) = 1)))), (8, .int (jb b2)), (9, .int (nI (x + 1)))]) [0, 1, 2, 3, 4, 5, 6, 7, 8, 9] rfl ?_
                exact ih_8 (x + 1, b2, v3, lk3) ⟨(by omega), (by rw [← hJ1, if_neg (show ¬ b = true by rw [‹b = false›]; decide), show len - (u + x + w) = (len - (u + (x + 1) + w)) + 1 by omega, jPl_s, ← hpl, ← hK1]; cases b2 with | true => rfl | false => first | contradiction | (rw [show a - j = 0 by omega]; rfl))⟩ (show len + 1 - (x + 1) < len + 1 - x from by omega)
              · skip
                have c_15 : ¬ a ≤ j := fun z => c_15 ((nI_leI (a := a) (b := j) (by omega) (by omega)).mpr z)
                refine j_iload 8 C dX5_runOver_138 rfl ?_
                refine j_if_ne (tgt := 225) C dX5_runOver_140 (by decide) (fun c_16 => ?_) (fun c_16 => ?_)
                · skip
                  have c_16 : b2 = true := jb_1 c_16
                  refine j_iinc (v := nI (x + 1)) (L' := [(0, .ref m0), (1, .ref a0), (2, .ref nb), (3, .int (nI len)), (4, .int (nI k)), (5, .int (nI u)), (6, .int (nI len - 1 - nI w)), (7, .int (jb (decide (f (k * 28 + 2) = 1)))), (8, .int (jb b2)), (9, .int (nI (x + 1))), (10, .int (nI pl)), (11, .int (nI j))]) 9 C dX5_runOver_225 rfl (nI_add x 1) (Nat.le_of_ble_eq_true rfl) rfl rfl ?_
                  refine j_goto (tgt := 89) C dX5_runOver_228 (by decide) ?_
                  refine j_pick (L' := [(0, .ref m0), (1, .ref a0), (2, .ref nb), (3, .int (nI len)), (4, .int (nI k)), (5, .int (nI u)), (6, .int (nI len - 1 - nI w)), (7, .int (jb (decide (f (k * 28 + 2) = 1)))), (8, .int (jb b2)), (9, .int (nI (x + 1)))]) [0, 1, 2, 3, 4, 5, 6, 7, 8, 9] rfl ?_
                  exact ih_8 (x + 1, b2, v3, lk3) ⟨(by omega), (by rw [← hJ1, if_neg (show ¬ b = true by rw [‹b = false›]; decide), show len - (u + x + w) = (len - (u + (x + 1) + w)) + 1 by omega, jPl_s, ← hpl, ← hK1]; cases b2 with | true => rfl | false => first | contradiction | (rw [show a - j = 0 by omega]; rfl))⟩ (show len + 1 - (x + 1) < len + 1 - x from by omega)
                · skip
                  have c_16 : b2 = false := jb_0 c_16
                  obtain ⟨hlo, hwi, d, o, hd5, hd, ho, hd1, hd2, hd3⟩ := hst j (by omega)
                  have ho100 : o ≤ 100 := by rcases (show d < 4 ∨ d = 4 ∨ d = 5 by omega) with h | h | h; have := hd1 h; omega; have := hd2 h; omega; exact hd3 h
                  refine j_aload_n 0 C dX5_runOver_143 rfl rfl ?_
                  refine j_aload_n 1 C dX5_runOver_144 rfl rfl ?_
                  refine j_iload 4 C dX5_runOver_145 rfl ?_
                  refine j_iload 11 C dX5_runOver_147 rfl ?_
                  refine j_aload_n 2 C dX5_runOver_149 rfl rfl ?_
                  refine j_iload 10 C dX5_runOver_150 rfl ?_
                  refine j_laldN (x := pl) 3 C dX5_runOver_152 rfl rfl (by omega) (by omega) ?_
                  refine j_callWi [0, 1, 2] (fun _ => [(m0, .inr (4, [.int th, .int np, .ref tb, .ref md, .ref rw0, .int sz, .ref cs, .ref va, .int (lk3 + 1), .ref rn, .ref kp])), (va, jaL g 4 v3), (a0, jaI g 253 (jrw n f)), (nb, jaL g N row)]) C (j_runV (ci := 0) (As := [.ref a0, .int (nI k), .int (nI j), .long (row pl)]) (rest := []) [0, 1, 2] C (c_X5_holds l g m0 th np tb md rw0 sz cs va lk3 rn kp v3 a0 n f k j (row pl) (by omega) (by omega) hlo hwi) gX5_runOver_X5_holds rfl rfl rfl hd_X5_holds ⟨Nat.le_of_ble_eq_true rfl, Nat.le_of_ble_eq_true rfl⟩ rfl rfl rfl rfl dX5_runOver_153 rfl (Nat.le_of_ble_eq_true rfl) ⟨Nat.le_of_ble_eq_true rfl, Nat.le_of_ble_eq_true rfl⟩) rfl (fun _ => rfl) (fun _ => rfl) (fun z _ hz => ?_)
                  subst hz
                  refine j_if_ne (tgt := 162) C dX5_runOver_156 (by decide) (fun c_18 => ?_) (fun c_18 => ?_)
                  · skip
                    have c_18 : (jHold (f (k * 28 + 4 + j * 4 + 0)) (jOth v3 (f (k * 28 + 4 + j * 4 + 1))) (row pl)) = true := jb_1 c_18
                    refine j_aload_n 1 C dX5_runOver_162 rfl rfl ?_
                    refine j_iload 4 C dX5_runOver_163 rfl ?_
                    refine j_iload 11 C dX5_runOver_165 rfl ?_
                    refine j_iconst (v := 2) C dX5_runOver_167 rfl ?_
                    refine j_callRi (v := f (k * 28 + 4 + j * 4 + 2)) (j_runS (As := [.ref a0, .int (nI k), .int (nI j), .int 2]) (rest := []) [2] C (c_X5_get l g a0 n f k j 2 (by omega)) gX5_runOver_X5_get rfl rfl rfl hd_X5_get ⟨Nat.le_of_ble_eq_true rfl, Nat.le_of_ble_eq_true rfl⟩ rfl rfl dX5_runOver_168 rfl (Nat.le_of_ble_eq_true rfl) ⟨Nat.le_of_ble_eq_true rfl, Nat.le_of_ble_eq_true rfl⟩) ?_
                    refine j_istore (L' := [(0, .ref m0), (1, .ref a0), (2, .ref nb), (3, .int (nI len)), (4, .int (nI k)), (5, .int (nI u)), (6, .int (nI len - 1 - nI w)), (7, .int (jb (decide (f (k * 28 + 2) = 1)))), (8, .int (jb b2)), (9, .int (nI x)), (10, .int (nI pl)), (11, .int (nI j)), (12, .int (f (k * 28 + 4 + j * 4 + 2)))]) C dX5_runOver_171 (Nat.le_of_ble_eq_true rfl) rfl rfl ?_
                    refine j_aload_n 1 C dX5_runOver_173 rfl rfl ?_
                    refine j_iload 4 C dX5_runOver_174 rfl ?_
                    refine j_iload 11 C dX5_runOver_176 rfl ?_
                    refine j_iconst (v := 3) C dX5_runOver_178 rfl ?_
                    refine j_callRi (v := f (k * 28 + 4 + j * 4 + 3)) (j_runS (As := [.ref a0, .int (nI k), .int (nI j), .int 3]) (rest := []) [2] C (c_X5_get l g a0 n f k j 3 (by omega)) gX5_runOver_X5_get rfl rfl rfl hd_X5_get ⟨Nat.le_of_ble_eq_true rfl, Nat.le_of_ble_eq_true rfl⟩ rfl rfl dX5_runOver_179 rfl (Nat.le_of_ble_eq_true rfl) ⟨Nat.le_of_ble_eq_true rfl, Nat.le_of_ble_eq_true rfl⟩) ?_
                    refine j_istore (L' := [(0, .ref m0), (1, .ref a0), (2, .ref nb), (3, .int (nI len)), (4, .int (nI k)), (5, .int (nI u)), (6, .int (nI len - 1 - nI w)), (7, .int (jb (decide (f (k * 28 + 2) = 1)))), (8, .int (jb b2)), (9, .int (nI x)), (10, .int (nI pl)), (11, .int (nI j)), (12, .int (f (k * 28 + 4 + j * 4 + 2))), (13, .int (f (k * 28 + 4 + j * 4 + 3)))]) C dX5_runOver_182 (Nat.le_of_ble_eq_true rfl) rfl rfl ?_
                    refine j_iload 12 C dX5_runOver_184 rfl ?_
                    refine j_iconst (v := 5) C dX5_runOver_186 rfl ?_
                    refine j_icmp_ne (tgt := 193) C dX5_runOver_187 (by decide) (fun c_19 => ?_) (fun c_19 => ?_)
                    · skip
                      refine j_iload 12 C dX5_runOver_193 rfl ?_
                      refine j_iconst (v := 4) C dX5_runOver_195 rfl ?_
                      refine j_icmp_ne (tgt := 205) C dX5_runOver_196 (by decide) (fun c_20 => ?_) (fun c_20 => ?_)
                      · skip
                        have hd4 : d < 4 := jd4 hd hd5 (by assumption) (by assumption)
                        have ho4 : o < 4 := hd1 hd4
                        refine j_aload_n 0 C dX5_runOver_205 rfl rfl ?_
                        refine j_iload 12 C dX5_runOver_206 rfl ?_
                        refine j_iload 13 C dX5_runOver_208 rfl ?_
                        refine j_eq (pc' := 210) (L' := [(0, .ref m0), (1, .ref a0), (2, .ref nb), (3, .int (nI len)), (4, .int (nI k)), (5, .int (nI u)), (6, .int (nI len - 1 - nI w)), (7, .int (jb (decide (f (k * 28 + 2) = 1)))), (8, .int (jb b2)), (9, .int (nI x)), (10, .int (nI pl)), (11, .int (nI j)), (12, .int (f (k * 28 + 4 + j * 4 + 2))), (13, .int (f (k * 28 + 4 + j * 4 + 3)))]) (st' := [.int (nI o), .int (f (k * 28 + 4 + j * 4 + 2)), .ref m0]) (ws' := [(m0, .inr (4, [.int th, .int np, .ref tb, .ref md, .ref rw0, .int sz, .ref cs, .ref va, .int (lk3 + 1), .ref rn, .ref kp])), (va, jaL g 4 v3), (a0, jaI g 253 (jrw n f)), (nb, jaL g N row)]) ?_ rfl rfl (by rw [ho]) rfl
                        refine j_aload_n 2 C dX5_runOver_210 rfl rfl ?_
                        refine j_iload 10 C dX5_runOver_211 rfl ?_
                        refine j_laldN (x := pl) 3 C dX5_runOver_213 rfl rfl (by omega) (by omega) ?_
                        refine j_iload 10 C dX5_runOver_214 rfl ?_
                        refine j_callWv [0, 1] (fun _ => [(m0, .inr (4, [.int th, .int np, .ref tb, .ref md, .ref rw0, .int sz, .ref cs, .ref va, .int (lk3 + 1), .ref rn, .ref kp])), (va, jaL g 4 (jDo (f (k * 28 + 4 + j * 4 + 2)) o (nI pl) (row pl) v3)), (a0, jaI g 253 (jrw n f)), (nb, jaL g N row)]) C (j_runV (ci := 0) (As := [.int (f (k * 28 + 4 + j * 4 + 2)), .int (nI o), .long (row pl), .int (nI pl)]) (rest := []) [0, 1] C (c_X5_set l g m0 th np tb md rw0 sz cs va (lk3 + 1) rn kp v3 (f (k * 28 + 4 + j * 4 + 2)) o pl (row pl) (by omega)) gX5_runOver_X5_set rfl rfl rfl hd_X5_set ⟨Nat.le_of_ble_eq_true rfl, Nat.le_of_ble_eq_true rfl⟩ rfl rfl rfl rfl dX5_runOver_216 rfl (Nat.le_of_ble_eq_true rfl) ⟨Nat.le_of_ble_eq_true rfl, Nat.le_of_ble_eq_true rfl⟩) rfl (fun _ => rfl) (fun _ => rfl) (fun _ _ => ?_)
                        refine j_iinc (v := nI (j + 1)) (L' := [(0, .ref m0), (1, .ref a0), (2, .ref nb), (3, .int (nI len)), (4, .int (nI k)), (5, .int (nI u)), (6, .int (nI len - 1 - nI w)), (7, .int (jb (decide (f (k * 28 + 2) = 1)))), (8, .int (jb b2)), (9, .int (nI x)), (10, .int (nI pl)), (11, .int (nI (j + 1))), (12, .int (f (k * 28 + 4 + j * 4 + 2))), (13, .int (f (k * 28 + 4 + j * 4 + 3)))]) 11 C dX5_runOver_219 rfl (nI_add j 1) (Nat.le_of_ble_eq_true rfl) rfl rfl ?_
                        refine j_goto (tgt := 127) C dX5_runOver_222 (by decide) ?_
                        refine j_pick (L' := [(0, .ref m0), (1, .ref a0), (2, .ref nb), (3, .int (nI len)), (4, .int (nI k)), (5, .int (nI u)), (6, .int (nI len - 1 - nI w)), (7, .int (jb (decide (f (k * 28 + 2) = 1)))), (8, .int (jb b2)), (9, .int (nI x)), (10, .int (nI pl)), (11, .int (nI (j + 1)))]) [0, 1, 2, 3, 4, 5, 6, 7, 8, 9, 10, 11] rfl ?_
                        exact ih_13 (j + 1, b2, jDo (f (k * 28 + 4 + j * 4 + 2)) o (nI pl) (row pl) v3, (lk3 + 1)) ⟨(by omega), (by rw [if_neg (show ¬ b2 = true by rw [‹b2 = false›]; decide), ← hK1, if_neg (show ¬ b2 = true by rw [‹b2 = false›]; decide), show a - j = (a - (j + 1)) + 1 by omega, jSt_s, if_pos (by assumption), if_neg (by assumption), if_neg (by assumption), ho, show nn (nI o) = o from nI_clamp (by omega)])⟩ (show a - (j + 1) < a - j from by omega)
                      · skip
                        refine j_iconst (v := 1) C dX5_runOver_199 rfl ?_
                        refine j_istore (L' := [(0, .ref m0), (1, .ref a0), (2, .ref nb), (3, .int (nI len)), (4, .int (nI k)), (5, .int (nI u)), (6, .int (nI len - 1 - nI w)), (7, .int (jb (decide (f (k * 28 + 2) = 1)))), (8, .int 1), (9, .int (nI x)), (10, .int (nI pl)), (11, .int (nI j)), (12, .int (f (k * 28 + 4 + j * 4 + 2))), (13, .int (f (k * 28 + 4 + j * 4 + 3)))]) C dX5_runOver_200 (Nat.le_of_ble_eq_true rfl) rfl rfl ?_
                        refine j_goto (tgt := 219) C dX5_runOver_202 (by decide) ?_
                        refine j_iinc (v := nI (j + 1)) (L' := [(0, .ref m0), (1, .ref a0), (2, .ref nb), (3, .int (nI len)), (4, .int (nI k)), (5, .int (nI u)), (6, .int (nI len - 1 - nI w)), (7, .int (jb (decide (f (k * 28 + 2) = 1)))), (8, .int 1), (9, .int (nI x)), (10, .int (nI pl)), (11, .int (nI (j + 1))), (12, .int (f (k * 28 + 4 + j * 4 + 2))), (13, .int (f (k * 28 + 4 + j * 4 + 3)))]) 11 C dX5_runOver_219 rfl (nI_add j 1) (Nat.le_of_ble_eq_true rfl) rfl rfl ?_
                        refine j_goto (tgt := 127) C dX5_runOver_222 (by decide) ?_
                        refine j_pick (L' := [(0, .ref m0), (1, .ref a0), (2, .ref nb), (3, .int (nI len)), (4, .int (nI k)), (5, .int (nI u)), (6, .int (nI len - 1 - nI w)), (7, .int (jb (decide (f (k * 28 + 2) = 1)))), (8, .int 1), (9, .int (nI x)), (10, .int (nI pl)), (11, .int (nI (j + 1)))]) [0, 1, 2, 3, 4, 5, 6, 7, 8, 9, 10, 11] rfl ?_
                        exact ih_13 (j + 1, true, v3, lk3 + 1) ⟨(by omega), (by rw [if_pos rfl, ← hK1, if_neg (show ¬ b2 = true by rw [‹b2 = false›]; decide), show a - j = (a - (j + 1)) + 1 by omega, jSt_s, if_pos (by assumption), if_pos (by assumption)])⟩ (show a - (j + 1) < a - j from by omega)
                    · skip
                      have hS : jSt f k pl (row pl) a 0 v2 lk2 (-1) = (v3, lk3 + 1, f (k * 28 + 4 + j * 4 + 3), false) := by rw [← hK1, if_neg (show ¬ b2 = true by rw [‹b2 = false›]; decide), show a - j = (a - (j + 1)) + 1 by omega, jSt_s, if_pos (by assumption), if_neg (by rw [‹f (k * 28 + 4 + j * 4 + 2) = 5›]; decide), if_pos (by assumption)]
                      have hP : jLp f k row len v1 lk1 (-1) = (v3, lk3 + 1, f (k * 28 + 4 + j * 4 + 3)) := by rw [← hJ1, if_neg (show ¬ b = true by rw [‹b = false›]; decide), show len - (u + x + w) = (len - (u + (x + 1) + w)) + 1 by omega, jPl_s, ← hpl, hS]; rfl
                      have hR : jRn n f row len = (v3, lk3 + 1, f (k * 28 + 4 + j * 4 + 3)) := by rw [← hI1, show n - k = (n - (k + 1)) + 1 by omega, jLs_s, if_pos rfl, hP]; exact jLs_x _ _ _ _ _ _ _ _ (by rw [ho]; exact jcode ho100)
                      refine j_iload 13 C dX5_runOver_190 rfl ?_
                      exact j_iretW (v := f (k * 28 + 4 + j * 4 + 3)) C hr dX5_runOver_192 () (by rw [hR]) (by rw [hR])
                  · skip
                    have c_18 : (jHold (f (k * 28 + 4 + j * 4 + 0)) (jOth v3 (f (k * 28 + 4 + j * 4 + 1))) (row pl)) = false := jb_0 c_18
                    refine j_goto (tgt := 219) C dX5_runOver_159 (by decide) ?_
                    refine j_iinc (v := nI (j + 1)) (L' := [(0, .ref m0), (1, .ref a0), (2, .ref nb), (3, .int (nI len)), (4, .int (nI k)), (5, .int (nI u)), (6, .int (nI len - 1 - nI w)), (7, .int (jb (decide (f (k * 28 + 2) = 1)))), (8, .int (jb b2)), (9, .int (nI x)), (10, .int (nI pl)), (11, .int (nI (j + 1)))]) 11 C dX5_runOver_219 rfl (nI_add j 1) (Nat.le_of_ble_eq_true rfl) rfl rfl ?_
                    refine j_goto (tgt := 127) C dX5_runOver_222 (by decide) ?_
                    exact ih_13 (j + 1, b2, v3, lk3 + 1) ⟨(by omega), (by rw [if_neg (show ¬ b2 = true by rw [‹b2 = false›]; decide), ← hK1, if_neg (show ¬ b2 = true by rw [‹b2 = false›]; decide), show a - j = (a - (j + 1)) + 1 by omega, jSt_s, if_neg (by rw [‹jHold (f (k * 28 + 4 + j * 4 + 0)) (jOth v3 (f (k * 28 + 4 + j * 4 + 1))) (row pl) = false›]; decide)])⟩ (show a - (j + 1) < a - j from by omega)
            · skip
              have c_12 : (decide (f (k * 28 + 2) = 1)) = true := jb_1 c_12
              refine j_iload 5 C dX5_runOver_109 rfl ?_
              refine j_iload 9 C dX5_runOver_111 rfl ?_
              refine j_iadd (x := nI u) (y := nI x) (v := nI (u + x)) C dX5_runOver_113 (nI_add u x) ?_
              refine j_goto (tgt := 122) C dX5_runOver_114 (by decide) ?_
              obtain ⟨pl, hpl⟩ : ∃ pl : Nat, pl = jPos (decide (f (k * 28 + 2) = 1)) u w len (u + x) := ⟨_, rfl⟩
              have hpos : pl < len := by rw [hpl]; unfold jPos; split <;> omega
              refine j_eq (pc' := 122) (L' := [(0, .ref m0), (1, .ref a0), (2, .ref nb), (3, .int (nI len)), (4, .int (nI k)), (5, .int (nI u)), (6, .int (nI len - 1 - nI w)), (7, .int (jb (decide (f (k * 28 + 2) = 1)))), (8, .int (jb b)), (9, .int (nI x))]) (st' := [.int (nI pl)]) (ws' := [(m0, .inr (4, [.int th, .int np, .ref tb, .ref md, .ref rw0, .int sz, .ref cs, .ref va, .int lk2, .ref rn, .ref kp])), (va, jaL g 4 v2), (a0, jaI g 253 (jrw n f)), (nb, jaL g N row)]) ?_ rfl rfl (by rw [hpl, jPos, if_pos (by assumption)]) rfl
              refine j_istore (L' := [(0, .ref m0), (1, .ref a0), (2, .ref nb), (3, .int (nI len)), (4, .int (nI k)), (5, .int (nI u)), (6, .int (nI len - 1 - nI w)), (7, .int (jb (decide (f (k * 28 + 2) = 1)))), (8, .int (jb b)), (9, .int (nI x)), (10, .int (nI pl))]) C dX5_runOver_122 (Nat.le_of_ble_eq_true rfl) rfl rfl ?_
              refine j_iconst (v := 0) C dX5_runOver_124 rfl ?_
              refine j_istore (L' := [(0, .ref m0), (1, .ref a0), (2, .ref nb), (3, .int (nI len)), (4, .int (nI k)), (5, .int (nI u)), (6, .int (nI len - 1 - nI w)), (7, .int (jb (decide (f (k * 28 + 2) = 1)))), (8, .int (jb b)), (9, .int (nI x)), (10, .int (nI pl)), (11, .int 0)]) C dX5_runOver_125 (Nat.le_of_ble_eq_true rfl) rfl rfl ?_
              refine j_loop (σ := Nat × Bool × (Nat → Int64) × Int32) (fun (x9_ : Nat × Bool × (Nat → Int64) × Int32) => match x9_ with | (j, b2, v3, lk3) => [(0, .ref m0), (1, .ref a0), (2, .ref nb), (3, .int (nI len)), (4, .int (nI k)), (5, .int (nI u)), (6, .int (nI len - 1 - nI w)), (7, .int (jb (decide (f (k * 28 + 2) = 1)))), (8, .int (jb b2)), (9, .int (nI x)), (10, .int (nI pl)), (11, .int (nI j))]) (fun (x9_ : Nat × Bool × (Nat → Int64) × Int32) => match x9_ with | (j, b2, v3, lk3) => [(m0, .inr (4, [.int th, .int np, .ref tb, .ref md, .ref rw0, .int sz, .ref cs, .ref va, .int lk3, .ref rn, .ref kp])), (va, jaL g 4 v3), (a0, jaI g 253 (jrw n f)), (nb, jaL g N row)]) (fun (x9_ : Nat × Bool × (Nat → Int64) × Int32) => match x9_ with | (j, b2, v3, lk3) => (j ≤ a) ∧ ((if b2 = true then (v3, lk3, (-1 : Int32), false) else jSt f k pl (row pl) (a - j) j v3 lk3 (-1)) = jSt f k pl (row pl) a 0 v2 lk2 (-1))) (fun (x9_ : Nat × Bool × (Nat → Int64) × Int32) => match x9_ with | (j, b2, v3, lk3) => a - j) (fun x_ hi_22 ih_21 => ?_) (0, b, v2, lk2) ⟨(by omega), (by rw [if_neg (show ¬ b = true by rw [‹b = false›]; decide)]; all_goals rfl)⟩ rfl rfl
              obtain ⟨j, b2, v3, lk3⟩ := x_
              obtain ⟨hK0, hK1⟩ := (show (j ≤ a) ∧ ((if b2 = true then (v3, lk3, (-1 : Int32), false) else jSt f k pl (row pl) (a - j) j v3 lk3 (-1)) = jSt f k pl (row pl) a 0 v2 lk2 (-1)) from hi_22)
              refine j_eq (pc' := 127) (L' := [(0, .ref m0), (1, .ref a0), (2, .ref nb), (3, .int (nI len)), (4, .int (nI k)), (5, .int (nI u)), (6, .int (nI len - 1 - nI w)), (7, .int (jb (decide (f (k * 28 + 2) = 1)))), (8, .int (jb b2)), (9, .int (nI x)), (10, .int (nI pl)), (11, .int (nI j))]) (st' := []) (ws' := [(m0, .inr (4, [.int th, .int np, .ref tb, .ref md, .ref rw0, .int sz, .ref cs, .ref va, .int lk3, .ref rn, .ref kp])), (va, jaL g 4 v3), (a0, jaI g 253 (jrw n f)), (nb, jaL g N row)]) ?_ rfl rfl rfl rfl
              refine j_iload 11 C dX5_runOver_127 rfl ?_
              refine j_aload_n 1 C dX5_runOver_129 rfl rfl ?_
              refine j_iload 4 C dX5_runOver_130 rfl ?_
              refine j_callRi (v := f (k * 28 + 3)) (j_runS (As := [.ref a0, .int (nI k)]) (rest := [.int (nI j)]) [2] C (c_X5_steps l g a0 n f k (by omega)) gX5_runOver_X5_steps rfl rfl rfl hd_X5_steps ⟨Nat.le_of_ble_eq_true rfl, Nat.le_of_ble_eq_true rfl⟩ rfl rfl dX5_runOver_132 rfl (Nat.le_of_ble_eq_true rfl) ⟨Nat.le_of_ble_eq_true rfl, Nat.le_of_ble_eq_true rfl⟩) ?_
              refine j_eq (pc' := 135) (L' := [(0, .ref m0), (1, .ref a0), (2, .ref nb), (3, .int (nI len)), (4, .int (nI k)), (5, .int (nI u)), (6, .int (nI len - 1 - nI w)), (7, .int (jb (decide (f (k * 28 + 2) = 1)))), (8, .int (jb b2)), (9, .int (nI x)), (10, .int (nI pl)), (11, .int (nI j))]) (st' := [.int (nI a), .int (nI j)]) (ws' := [(m0, .inr (4, [.int th, .int np, .ref tb, .ref md, .ref rw0, .int sz, .ref cs, .ref va, .int lk3, .ref rn, .ref kp])), (va, jaL g 4 v3), (a0, jaI g 253 (jrw n f)), (nb, jaL g N row)]) ?_ rfl rfl (by rw [ha]) rfl
              refine j_icmp_ge (tgt := 225) C dX5_runOver_135 (by decide) (fun c_23 => ?_) (fun c_23 => ?_)
              · skip
                have c_23 : a ≤ j := (nI_leI (a := a) (b := j) (by omega) (by omega)).mp c_23
                refine j_iinc (v := nI (x + 1)) (L' := [(0, .ref m0), (1, .ref a0), (2, .ref nb), (3, .int (nI len)), (4, .int (nI k)), (5, .int (nI u)), (6, .int (nI len - 1 - nI w)), (7, .int (jb (decide (f (k * 28 + 2) = 1)))), (8, .int (jb b2)), (9, .int (nI (x + 1))), (10, .int (nI pl)), (11, .int (nI j))]) 9 C dX5_runOver_225 rfl (nI_add x 1) (Nat.le_of_ble_eq_true rfl) rfl rfl ?_
                refine j_goto (tgt := 89) C dX5_runOver_228 (by decide) ?_
                refine j_pick (L' := [(0, .ref m0), (1, .ref a0), (2, .ref nb), (3, .int (nI len)), (4, .int (nI k)), (5, .int (nI u)), (6, .int (nI len - 1 - nI w)), (7, .int (jb (decide (f (k * 28 + 2) = 1)))), (8, .int (jb b2)), (9, .int (nI (x + 1)))]) [0, 1, 2, 3, 4, 5, 6, 7, 8, 9] rfl ?_
                exact ih_8 (x + 1, b2, v3, lk3) ⟨(by omega), (by rw [← hJ1, if_neg (show ¬ b = true by rw [‹b = false›]; decide), show len - (u + x + w) = (len - (u + (x + 1) + w)) + 1 by omega, jPl_s, ← hpl, ← hK1]; cases b2 with | true => rfl | false => first | contradiction | (rw [show a - j = 0 by omega]; rfl))⟩ (show len + 1 - (x + 1) < len + 1 - x from by omega)
              · skip
                have c_23 : ¬ a ≤ j := fun z => c_23 ((nI_leI (a := a) (b := j) (by omega) (by omega)).mpr z)
                refine j_iload 8 C dX5_runOver_138 rfl ?_
                refine j_if_ne (tgt := 225) C dX5_runOver_140 (by decide) (fun c_24 => ?_) (fun c_24 => ?_)
                · skip
                  have c_24 : b2 = true := jb_1 c_24
                  refine j_iinc (v := nI (x + 1)) (L' := [(0, .ref m0), (1, .ref a0), (2, .ref nb), (3, .int (nI len)), (4, .int (nI k)), (5, .int (nI u)), (6, .int (nI len - 1 - nI w)), (7, .int (jb (decide (f (k * 28 + 2) = 1)))), (8, .int (jb b2)), (9, .int (nI (x + 1))), (10, .int (nI pl)), (11, .int (nI j))]) 9 C dX5_runOver_225 rfl (nI_add x 1) (Nat.le_of_ble_eq_true rfl) rfl rfl ?_
                  refine j_goto (tgt := 89) C dX5_runOver_228 (by decide) ?_
                  refine j_pick (L' := [(0, .ref m0), (1, .ref a0), (2, .ref nb), (3, .int (nI len)), (4, .int (nI k)), (5, .int (nI u)), (6, .int (nI len - 1 - nI w)), (7, .int (jb (decide (f (k * 28 + 2) = 1)))), (8, .int (jb b2)), (9, .int (nI (x + 1)))]) [0, 1, 2, 3, 4, 5, 6, 7, 8, 9] rfl ?_
                  exact ih_8 (x + 1, b2, v3, lk3) ⟨(by omega), (by rw [← hJ1, if_neg (show ¬ b = true by rw [‹b = false›]; decide), show len - (u + x + w) = (len - (u + (x + 1) + w)) + 1 by omega, jPl_s, ← hpl, ← hK1]; cases b2 with | true => rfl | false => first | contradiction | (rw [show a - j = 0 by omega]; rfl))⟩ (show len + 1 - (x + 1) < len + 1 - x from by omega)
                · skip
                  have c_24 : b2 = false := jb_0 c_24
                  obtain ⟨hlo, hwi, d, o, hd5, hd, ho, hd1, hd2, hd3⟩ := hst j (by omega)
                  have ho100 : o ≤ 100 := by rcases (show d < 4 ∨ d = 4 ∨ d = 5 by omega) with h | h | h; have := hd1 h; omega; have := hd2 h; omega; exact hd3 h
                  refine j_aload_n 0 C dX5_runOver_143 rfl rfl ?_
                  refine j_aload_n 1 C dX5_runOver_144 rfl rfl ?_
                  refine j_iload 4 C dX5_runOver_145 rfl ?_
                  refine j_iload 11 C dX5_runOver_147 rfl ?_
                  refine j_aload_n 2 C dX5_runOver_149 rfl rfl ?_
                  refine j_iload 10 C dX5_runOver_150 rfl ?_
                  refine j_laldN (x := pl) 3 C dX5_runOver_152 rfl rfl (by omega) (by omega) ?_
                  refine j_callWi [0, 1, 2] (fun _ => [(m0, .inr (4, [.int th, .int np, .ref tb, .ref md, .ref rw0, .int sz, .ref cs, .ref va, .int (lk3 + 1), .ref rn, .ref kp])), (va, jaL g 4 v3), (a0, jaI g 253 (jrw n f)), (nb, jaL g N row)]) C (j_runV (ci := 0) (As := [.ref a0, .int (nI k), .int (nI j), .long (row pl)]) (rest := []) [0, 1, 2] C (c_X5_holds l g m0 th np tb md rw0 sz cs va lk3 rn kp v3 a0 n f k j (row pl) (by omega) (by omega) hlo hwi) gX5_runOver_X5_holds rfl rfl rfl hd_X5_holds ⟨Nat.le_of_ble_eq_true rfl, Nat.le_of_ble_eq_true rfl⟩ rfl rfl rfl rfl dX5_runOver_153 rfl (Nat.le_of_ble_eq_true rfl) ⟨Nat.le_of_ble_eq_true rfl, Nat.le_of_ble_eq_true rfl⟩) rfl (fun _ => rfl) (fun _ => rfl) (fun z _ hz => ?_)
                  subst hz
                  refine j_if_ne (tgt := 162) C dX5_runOver_156 (by decide) (fun c_26 => ?_) (fun c_26 => ?_)
                  · skip
                    have c_26 : (jHold (f (k * 28 + 4 + j * 4 + 0)) (jOth v3 (f (k * 28 + 4 + j * 4 + 1))) (row pl)) = true := jb_1 c_26
                    refine j_aload_n 1 C dX5_runOver_162 rfl rfl ?_
                    refine j_iload 4 C dX5_runOver_163 rfl ?_
                    refine j_iload 11 C dX5_runOver_165 rfl ?_
                    refine j_iconst (v := 2) C dX5_runOver_167 rfl ?_
                    refine j_callRi (v := f (k * 28 + 4 + j * 4 + 2)) (j_runS (As := [.ref a0, .int (nI k), .int (nI j), .int 2]) (rest := []) [2] C (c_X5_get l g a0 n f k j 2 (by omega)) gX5_runOver_X5_get rfl rfl rfl hd_X5_get ⟨Nat.le_of_ble_eq_true rfl, Nat.le_of_ble_eq_true rfl⟩ rfl rfl dX5_runOver_168 rfl (Nat.le_of_ble_eq_true rfl) ⟨Nat.le_of_ble_eq_true rfl, Nat.le_of_ble_eq_true rfl⟩) ?_
                    refine j_istore (L' := [(0, .ref m0), (1, .ref a0), (2, .ref nb), (3, .int (nI len)), (4, .int (nI k)), (5, .int (nI u)), (6, .int (nI len - 1 - nI w)), (7, .int (jb (decide (f (k * 28 + 2) = 1)))), (8, .int (jb b2)), (9, .int (nI x)), (10, .int (nI pl)), (11, .int (nI j)), (12, .int (f (k * 28 + 4 + j * 4 + 2)))]) C dX5_runOver_171 (Nat.le_of_ble_eq_true rfl) rfl rfl ?_
                    refine j_aload_n 1 C dX5_runOver_173 rfl rfl ?_
                    refine j_iload 4 C dX5_runOver_174 rfl ?_
                    refine j_iload 11 C dX5_runOver_176 rfl ?_
                    refine j_iconst (v := 3) C dX5_runOver_178 rfl ?_
                    refine j_callRi (v := f (k * 28 + 4 + j * 4 + 3)) (j_runS (As := [.ref a0, .int (nI k), .int (nI j), .int 3]) (rest := []) [2] C (c_X5_get l g a0 n f k j 3 (by omega)) gX5_runOver_X5_get rfl rfl rfl hd_X5_get ⟨Nat.le_of_ble_eq_true rfl, Nat.le_of_ble_eq_true rfl⟩ rfl rfl dX5_runOver_179 rfl (Nat.le_of_ble_eq_true rfl) ⟨Nat.le_of_ble_eq_true rfl, Nat.le_of_ble_eq_true rfl⟩) ?_
                    refine j_istore (L' := [(0, .ref m0), (1, .ref a0), (2, .ref nb), (3, .int (nI len)), (4, .int (nI k)), (5, .int (nI u)), (6, .int (nI len - 1 - nI w)), (7, .int (jb (decide (f (k * 28 + 2) = 1)))), (8, .int (jb b2)), (9, .int (nI x)), (10, .int (nI pl)), (11, .int (nI j)), (12, .int (f (k * 28 + 4 + j * 4 + 2))), (13, .int (f (k * 28 + 4 + j * 4 + 3)))]) C dX5_runOver_182 (Nat.le_of_ble_eq_true rfl) rfl rfl ?_
                    refine j_iload 12 C dX5_runOver_184 rfl ?_
                    refine j_iconst (v := 5) C dX5_runOver_186 rfl ?_
                    refine j_icmp_ne (tgt := 193) C dX5_runOver_187 (by decide) (fun c_27 => ?_) (fun c_27 => ?_)
                    · skip
                      refine j_iload 12 C dX5_runOver_193 rfl ?_
                      refine j_iconst (v := 4) C dX5_runOver_195 rfl ?_
                      refine j_icmp_ne (tgt := 205) C dX5_runOver_196 (by decide) (fun c_28 => ?_) (fun c_28 => ?_)
                      · skip
                        have hd4 : d < 4 := jd4 hd hd5 (by assumption) (by assumption)
                        have ho4 : o < 4 := hd1 hd4
                        refine j_aload_n 0 C dX5_runOver_205 rfl rfl ?_
                        refine j_iload 12 C dX5_runOver_206 rfl ?_
                        refine j_iload 13 C dX5_runOver_208 rfl ?_
                        refine j_eq (pc' := 210) (L' := [(0, .ref m0), (1, .ref a0), (2, .ref nb), (3, .int (nI len)), (4, .int (nI k)), (5, .int (nI u)), (6, .int (nI len - 1 - nI w)), (7, .int (jb (decide (f (k * 28 + 2) = 1)))), (8, .int (jb b2)), (9, .int (nI x)), (10, .int (nI pl)), (11, .int (nI j)), (12, .int (f (k * 28 + 4 + j * 4 + 2))), (13, .int (f (k * 28 + 4 + j * 4 + 3)))]) (st' := [.int (nI o), .int (f (k * 28 + 4 + j * 4 + 2)), .ref m0]) (ws' := [(m0, .inr (4, [.int th, .int np, .ref tb, .ref md, .ref rw0, .int sz, .ref cs, .ref va, .int (lk3 + 1), .ref rn, .ref kp])), (va, jaL g 4 v3), (a0, jaI g 253 (jrw n f)), (nb, jaL g N row)]) ?_ rfl rfl (by rw [ho]) rfl
                        refine j_aload_n 2 C dX5_runOver_210 rfl rfl ?_
                        refine j_iload 10 C dX5_runOver_211 rfl ?_
                        refine j_laldN (x := pl) 3 C dX5_runOver_213 rfl rfl (by omega) (by omega) ?_
                        refine j_iload 10 C dX5_runOver_214 rfl ?_
                        refine j_callWv [0, 1] (fun _ => [(m0, .inr (4, [.int th, .int np, .ref tb, .ref md, .ref rw0, .int sz, .ref cs, .ref va, .int (lk3 + 1), .ref rn, .ref kp])), (va, jaL g 4 (jDo (f (k * 28 + 4 + j * 4 + 2)) o (nI pl) (row pl) v3)), (a0, jaI g 253 (jrw n f)), (nb, jaL g N row)]) C (j_runV (ci := 0) (As := [.int (f (k * 28 + 4 + j * 4 + 2)), .int (nI o), .long (row pl), .int (nI pl)]) (rest := []) [0, 1] C (c_X5_set l g m0 th np tb md rw0 sz cs va (lk3 + 1) rn kp v3 (f (k * 28 + 4 + j * 4 + 2)) o pl (row pl) (by omega)) gX5_runOver_X5_set rfl rfl rfl hd_X5_set ⟨Nat.le_of_ble_eq_true rfl, Nat.le_of_ble_eq_true rfl⟩ rfl rfl rfl rfl dX5_runOver_216 rfl (Nat.le_of_ble_eq_true rfl) ⟨Nat.le_of_ble_eq_true rfl, Nat.le_of_ble_eq_true rfl⟩) rfl (fun _ => rfl) (fun _ => rfl) (fun _ _ => ?_)
                        refine j_iinc (v := nI (j + 1)) (L' := [(0, .ref m0), (1, .ref a0), (2, .ref nb), (3, .int (nI len)), (4, .int (nI k)), (5, .int (nI u)), (6, .int (nI len - 1 - nI w)), (7, .int (jb (decide (f (k * 28 + 2) = 1)))), (8, .int (jb b2)), (9, .int (nI x)), (10, .int (nI pl)), (11, .int (nI (j + 1))), (12, .int (f (k * 28 + 4 + j * 4 + 2))), (13, .int (f (k * 28 + 4 + j * 4 + 3)))]) 11 C dX5_runOver_219 rfl (nI_add j 1) (Nat.le_of_ble_eq_true rfl) rfl rfl ?_
                        refine j_goto (tgt := 127) C dX5_runOver_222 (by decide) ?_
                        refine j_pick (L' := [(0, .ref m0), (1, .ref a0), (2, .ref nb), (3, .int (nI len)), (4, .int (nI k)), (5, .int (nI u)), (6, .int (nI len - 1 - nI w)), (7, .int (jb (decide (f (k * 28 + 2) = 1)))), (8, .int (jb b2)), (9, .int (nI x)), (10, .int (nI pl)), (11, .int (nI (j + 1)))]) [0, 1, 2, 3, 4, 5, 6, 7, 8, 9, 10, 11] rfl ?_
                        exact ih_21 (j + 1, b2, jDo (f (k * 28 + 4 + j * 4 + 2)) o (nI pl) (row pl) v3, (lk3 + 1)) ⟨(by omega), (by rw [if_neg (show ¬ b2 = true by rw [‹b2 = false›]; decide), ← hK1, if_neg (show ¬ b2 = true by rw [‹b2 = false›]; decide), show a - j = (a - (j + 1)) + 1 by omega, jSt_s, if_pos (by assumption), if_neg (by assumption), if_neg (by assumption), ho, show nn (nI o) = o from nI_clamp (by omega)])⟩ (show a - (j + 1) < a - j from by omega)
                      · skip
                        refine j_iconst (v := 1) C dX5_runOver_199 rfl ?_
                        refine j_istore (L' := [(0, .ref m0), (1, .ref a0), (2, .ref nb), (3, .int (nI len)), (4, .int (nI k)), (5, .int (nI u)), (6, .int (nI len - 1 - nI w)), (7, .int (jb (decide (f (k * 28 + 2) = 1)))), (8, .int 1), (9, .int (nI x)), (10, .int (nI pl)), (11, .int (nI j)), (12, .int (f (k * 28 + 4 + j * 4 + 2))), (13, .int (f (k * 28 + 4 + j * 4 + 3)))]) C dX5_runOver_200 (Nat.le_of_ble_eq_true rfl) rfl rfl ?_
                        refine j_goto (tgt := 219) C dX5_runOver_202 (by decide) ?_
                        refine j_iinc (v := nI (j + 1)) (L' := [(0, .ref m0), (1, .ref a0), (2, .ref nb), (3, .int (nI len)), (4, .int (nI k)), (5, .int (nI u)), (6, .int (nI len - 1 - nI w)), (7, .int (jb (decide (f (k * 28 + 2) = 1)))), (8, .int 1), (9, .int (nI x)), (10, .int (nI pl)), (11, .int (nI (j + 1))), (12, .int (f (k * 28 + 4 + j * 4 + 2))), (13, .int (f (k * 28 + 4 + j * 4 + 3)))]) 11 C dX5_runOver_219 rfl (nI_add j 1) (Nat.le_of_ble_eq_true rfl) rfl rfl ?_
                        refine j_goto (tgt := 127) C dX5_runOver_222 (by decide) ?_
                        refine j_pick (L' := [(0, .ref m0), (1, .ref a0), (2, .ref nb), (3, .int (nI len)), (4, .int (nI k)), (5, .int (nI u)), (6, .int (nI len - 1 - nI w)), (7, .int (jb (decide (f (k * 28 + 2) = 1)))), (8, .int 1), (9, .int (nI x)), (10, .int (nI pl)), (11, .int (nI (j + 1)))]) [0, 1, 2, 3, 4, 5, 6, 7, 8, 9, 10, 11] rfl ?_
                        exact ih_21 (j + 1, true, v3, lk3 + 1) ⟨(by omega), (by rw [if_pos rfl, ← hK1, if_neg (show ¬ b2 = true by rw [‹b2 = false›]; decide), show a - j = (a - (j + 1)) + 1 by omega, jSt_s, if_pos (by assumption), if_pos (by assumption)])⟩ (show a - (j + 1) < a - j from by omega)
                    · skip
                      have hS : jSt f k pl (row pl) a 0 v2 lk2 (-1) = (v3, lk3 + 1, f (k * 28 + 4 + j * 4 + 3), false) := by rw [← hK1, if_neg (show ¬ b2 = true by rw [‹b2 = false›]; decide), show a - j = (a - (j + 1)) + 1 by omega, jSt_s, if_pos (by assumption), if_neg (by rw [‹f (k * 28 + 4 + j * 4 + 2) = 5›]; decide), if_pos (by assumption)]
                      have hP : jLp f k row len v1 lk1 (-1) = (v3, lk3 + 1, f (k * 28 + 4 + j * 4 + 3)) := by rw [← hJ1, if_neg (show ¬ b = true by rw [‹b = false›]; decide), show len - (u + x + w) = (len - (u + (x + 1) + w)) + 1 by omega, jPl_s, ← hpl, hS]; rfl
                      have hR : jRn n f row len = (v3, lk3 + 1, f (k * 28 + 4 + j * 4 + 3)) := by rw [← hI1, show n - k = (n - (k + 1)) + 1 by omega, jLs_s, if_pos rfl, hP]; exact jLs_x _ _ _ _ _ _ _ _ (by rw [ho]; exact jcode ho100)
                      refine j_iload 13 C dX5_runOver_190 rfl ?_
                      exact j_iretW (v := f (k * 28 + 4 + j * 4 + 3)) C hr dX5_runOver_192 () (by rw [hR]) (by rw [hR])
                  · skip
                    have c_26 : (jHold (f (k * 28 + 4 + j * 4 + 0)) (jOth v3 (f (k * 28 + 4 + j * 4 + 1))) (row pl)) = false := jb_0 c_26
                    refine j_goto (tgt := 219) C dX5_runOver_159 (by decide) ?_
                    refine j_iinc (v := nI (j + 1)) (L' := [(0, .ref m0), (1, .ref a0), (2, .ref nb), (3, .int (nI len)), (4, .int (nI k)), (5, .int (nI u)), (6, .int (nI len - 1 - nI w)), (7, .int (jb (decide (f (k * 28 + 2) = 1)))), (8, .int (jb b2)), (9, .int (nI x)), (10, .int (nI pl)), (11, .int (nI (j + 1)))]) 11 C dX5_runOver_219 rfl (nI_add j 1) (Nat.le_of_ble_eq_true rfl) rfl rfl ?_
                    refine j_goto (tgt := 127) C dX5_runOver_222 (by decide) ?_
                    exact ih_21 (j + 1, b2, v3, lk3 + 1) ⟨(by omega), (by rw [if_neg (show ¬ b2 = true by rw [‹b2 = false›]; decide), ← hK1, if_neg (show ¬ b2 = true by rw [‹b2 = false›]; decide), show a - j = (a - (j + 1)) + 1 by omega, jSt_s, if_neg (by rw [‹jHold (f (k * 28 + 4 + j * 4 + 0)) (jOth v3 (f (k * 28 + 4 + j * 4 + 1))) (row pl) = false›]; decide)])⟩ (show a - (j + 1) < a - j from by omega)
      · skip
        refine j_iconst (v := 1) C dX5_runOver_76 rfl ?_
        refine j_goto (tgt := 81) C dX5_runOver_77 (by decide) ?_
        refine j_eq (pc' := 81) (L' := [(0, .ref m0), (1, .ref a0), (2, .ref nb), (3, .int (nI len)), (4, .int (nI k)), (5, .int (nI u)), (6, .int (nI len - 1 - nI w))]) (st' := [.int (jb (decide (f (k * 28 + 2) = 1)))]) (ws' := [(m0, .inr (4, [.int th, .int np, .ref tb, .ref md, .ref rw0, .int sz, .ref cs, .ref va, .int lk1, .ref rn, .ref kp])), (va, jaL g 4 v1), (a0, jaI g 253 (jrw n f)), (nb, jaL g N row)]) ?_ rfl rfl (by rw [decide_eq_true (by assumption)]; rfl) rfl
        refine j_istore (L' := [(0, .ref m0), (1, .ref a0), (2, .ref nb), (3, .int (nI len)), (4, .int (nI k)), (5, .int (nI u)), (6, .int (nI len - 1 - nI w)), (7, .int (jb (decide (f (k * 28 + 2) = 1))))]) C dX5_runOver_81 (Nat.le_of_ble_eq_true rfl) rfl rfl ?_
        refine j_iconst (v := 0) C dX5_runOver_83 rfl ?_
        refine j_istore (L' := [(0, .ref m0), (1, .ref a0), (2, .ref nb), (3, .int (nI len)), (4, .int (nI k)), (5, .int (nI u)), (6, .int (nI len - 1 - nI w)), (7, .int (jb (decide (f (k * 28 + 2) = 1)))), (8, .int 0)]) C dX5_runOver_84 (Nat.le_of_ble_eq_true rfl) rfl rfl ?_
        refine j_iconst (v := 0) C dX5_runOver_86 rfl ?_
        refine j_istore (L' := [(0, .ref m0), (1, .ref a0), (2, .ref nb), (3, .int (nI len)), (4, .int (nI k)), (5, .int (nI u)), (6, .int (nI len - 1 - nI w)), (7, .int (jb (decide (f (k * 28 + 2) = 1)))), (8, .int 0), (9, .int 0)]) C dX5_runOver_87 (Nat.le_of_ble_eq_true rfl) rfl rfl ?_
        refine j_loop (σ := Nat × Bool × (Nat → Int64) × Int32) (fun (x9_ : Nat × Bool × (Nat → Int64) × Int32) => match x9_ with | (x, b, v2, lk2) => [(0, .ref m0), (1, .ref a0), (2, .ref nb), (3, .int (nI len)), (4, .int (nI k)), (5, .int (nI u)), (6, .int (nI len - 1 - nI w)), (7, .int (jb (decide (f (k * 28 + 2) = 1)))), (8, .int (jb b)), (9, .int (nI x))]) (fun (x9_ : Nat × Bool × (Nat → Int64) × Int32) => match x9_ with | (x, b, v2, lk2) => [(m0, .inr (4, [.int th, .int np, .ref tb, .ref md, .ref rw0, .int sz, .ref cs, .ref va, .int lk2, .ref rn, .ref kp])), (va, jaL g 4 v2), (a0, jaI g 253 (jrw n f)), (nb, jaL g N row)]) (fun (x9_ : Nat × Bool × (Nat → Int64) × Int32) => match x9_ with | (x, b, v2, lk2) => (x ≤ len) ∧ ((if b = true then (v2, lk2, (-1 : Int32)) else jPl f k a row (decide (f (k * 28 + 2) = 1)) u w len (len - (u + x + w)) (u + x) v2 lk2 (-1)) = jLp f k row len v1 lk1 (-1))) (fun (x9_ : Nat × Bool × (Nat → Int64) × Int32) => match x9_ with | (x, b, v2, lk2) => len + 1 - x) (fun x_ hi_30 ih_29 => ?_) (0, false, v1, lk1) ⟨(by omega), (by rw [if_neg (by decide), jLp, ha, hu, hw, show nn (nI a) = a from nI_clamp (by omega), show nn (nI u) = u from nI_clamp (by omega), show nn (nI w) = w from nI_clamp (by omega)]; all_goals rfl)⟩ rfl rfl
        obtain ⟨x, b, v2, lk2⟩ := x_
        obtain ⟨hJ0, hJ1⟩ := (show (x ≤ len) ∧ ((if b = true then (v2, lk2, (-1 : Int32)) else jPl f k a row (decide (f (k * 28 + 2) = 1)) u w len (len - (u + x + w)) (u + x) v2 lk2 (-1)) = jLp f k row len v1 lk1 (-1)) from hi_30)
        refine j_eq (pc' := 89) (L' := [(0, .ref m0), (1, .ref a0), (2, .ref nb), (3, .int (nI len)), (4, .int (nI k)), (5, .int (nI u)), (6, .int (nI len - 1 - nI w)), (7, .int (jb (decide (f (k * 28 + 2) = 1)))), (8, .int (jb b)), (9, .int (nI x))]) (st' := []) (ws' := [(m0, .inr (4, [.int th, .int np, .ref tb, .ref md, .ref rw0, .int sz, .ref cs, .ref va, .int lk2, .ref rn, .ref kp])), (va, jaL g 4 v2), (a0, jaI g 253 (jrw n f)), (nb, jaL g N row)]) ?_ rfl rfl rfl rfl
        refine j_iload 9 C dX5_runOver_89 rfl ?_
        refine j_iload 6 C dX5_runOver_91 rfl ?_
        refine j_iload 5 C dX5_runOver_93 rfl ?_
        refine j_isub (x := nI len - 1 - nI w) (y := nI u) (v := nI len - 1 - nI w - nI u) C dX5_runOver_95 rfl ?_
        refine j_icmp_gt (tgt := 231) C dX5_runOver_96 (by decide) (fun c_31 => ?_) (fun c_31 => ?_)
        · skip
          have c_31 : len ≤ u + x + w := (jlast2 (by omega) (by omega) (by omega) (by omega)).mp c_31
          refine j_iinc (v := nI (k + 1)) (L' := [(0, .ref m0), (1, .ref a0), (2, .ref nb), (3, .int (nI len)), (4, .int (nI (k + 1))), (5, .int (nI u)), (6, .int (nI len - 1 - nI w)), (7, .int (jb (decide (f (k * 28 + 2) = 1)))), (8, .int (jb b)), (9, .int (nI x))]) 4 C dX5_runOver_231 rfl (nI_add k 1) (Nat.le_of_ble_eq_true rfl) rfl rfl ?_
          refine j_goto (tgt := 31) C dX5_runOver_234 (by decide) ?_
          refine j_pick (L' := [(0, .ref m0), (1, .ref a0), (2, .ref nb), (3, .int (nI len)), (4, .int (nI (k + 1)))]) [0, 1, 2, 3, 4] rfl ?_
          exact ih_4 (k + 1, v2, lk2) ⟨(by omega), (by rw [← hI1, show n - k = (n - (k + 1)) + 1 by omega, jLs_s, if_pos rfl, ← hJ1]; cases b with | true => rfl | false => first | contradiction | (rw [show len - (u + x + w) = 0 by omega]; rfl))⟩ (show n - (k + 1) < n - k from by omega)
        · skip
          have c_31 : ¬ len ≤ u + x + w := fun z => c_31 ((jlast2 (by omega) (by omega) (by omega) (by omega)).mpr z)
          refine j_iload 8 C dX5_runOver_99 rfl ?_
          refine j_if_ne (tgt := 231) C dX5_runOver_101 (by decide) (fun c_32 => ?_) (fun c_32 => ?_)
          · skip
            have c_32 : b = true := jb_1 c_32
            refine j_iinc (v := nI (k + 1)) (L' := [(0, .ref m0), (1, .ref a0), (2, .ref nb), (3, .int (nI len)), (4, .int (nI (k + 1))), (5, .int (nI u)), (6, .int (nI len - 1 - nI w)), (7, .int (jb (decide (f (k * 28 + 2) = 1)))), (8, .int (jb b)), (9, .int (nI x))]) 4 C dX5_runOver_231 rfl (nI_add k 1) (Nat.le_of_ble_eq_true rfl) rfl rfl ?_
            refine j_goto (tgt := 31) C dX5_runOver_234 (by decide) ?_
            refine j_pick (L' := [(0, .ref m0), (1, .ref a0), (2, .ref nb), (3, .int (nI len)), (4, .int (nI (k + 1)))]) [0, 1, 2, 3, 4] rfl ?_
            exact ih_4 (k + 1, v2, lk2) ⟨(by omega), (by rw [← hI1, show n - k = (n - (k + 1)) + 1 by omega, jLs_s, if_pos rfl, ← hJ1]; cases b with | true => rfl | false => first | contradiction | (rw [show len - (u + x + w) = 0 by omega]; rfl))⟩ (show n - (k + 1) < n - k from by omega)
          · skip
            have c_32 : b = false := jb_0 c_32
            refine j_iload 7 C dX5_runOver_104 rfl ?_
            refine j_if_eq (tgt := 117) C dX5_runOver_106 (by decide) (fun c_33 => ?_) (fun c_33 => ?_)
            · skip
              have c_33 : (decide (f (k * 28 + 2) = 1)) = false := jb_0 c_33
              refine j_iload 6 C dX5_runOver_117 rfl ?_
              refine j_iload 9 C dX5_runOver_119 rfl ?_
              refine j_isub (x := nI len - 1 - nI w) (y := nI x) (v := nI (len - 1 - w - x)) C dX5_runOver_121 (jplace2 (by omega)) ?_
              obtain ⟨pl, hpl⟩ : ∃ pl : Nat, pl = jPos (decide (f (k * 28 + 2) = 1)) u w len (u + x) := ⟨_, rfl⟩
              have hpos : pl < len := by rw [hpl]; unfold jPos; split <;> omega
              refine j_eq (pc' := 122) (L' := [(0, .ref m0), (1, .ref a0), (2, .ref nb), (3, .int (nI len)), (4, .int (nI k)), (5, .int (nI u)), (6, .int (nI len - 1 - nI w)), (7, .int (jb (decide (f (k * 28 + 2) = 1)))), (8, .int (jb b)), (9, .int (nI x))]) (st' := [.int (nI pl)]) (ws' := [(m0, .inr (4, [.int th, .int np, .ref tb, .ref md, .ref rw0, .int sz, .ref cs, .ref va, .int lk2, .ref rn, .ref kp])), (va, jaL g 4 v2), (a0, jaI g 253 (jrw n f)), (nb, jaL g N row)]) ?_ rfl rfl (by rw [hpl, jPos, if_neg (by rw [‹decide (f (k * 28 + 2) = 1) = false›]; decide), Nat.add_sub_cancel_left]) rfl
              refine j_istore (L' := [(0, .ref m0), (1, .ref a0), (2, .ref nb), (3, .int (nI len)), (4, .int (nI k)), (5, .int (nI u)), (6, .int (nI len - 1 - nI w)), (7, .int (jb (decide (f (k * 28 + 2) = 1)))), (8, .int (jb b)), (9, .int (nI x)), (10, .int (nI pl))]) C dX5_runOver_122 (Nat.le_of_ble_eq_true rfl) rfl rfl ?_
              refine j_iconst (v := 0) C dX5_runOver_124 rfl ?_
              refine j_istore (L' := [(0, .ref m0), (1, .ref a0), (2, .ref nb), (3, .int (nI len)), (4, .int (nI k)), (5, .int (nI u)), (6, .int (nI len - 1 - nI w)), (7, .int (jb (decide (f (k * 28 + 2) = 1)))), (8, .int (jb b)), (9, .int (nI x)), (10, .int (nI pl)), (11, .int 0)]) C dX5_runOver_125 (Nat.le_of_ble_eq_true rfl) rfl rfl ?_
              refine j_loop (σ := Nat × Bool × (Nat → Int64) × Int32) (fun (x9_ : Nat × Bool × (Nat → Int64) × Int32) => match x9_ with | (j, b2, v3, lk3) => [(0, .ref m0), (1, .ref a0), (2, .ref nb), (3, .int (nI len)), (4, .int (nI k)), (5, .int (nI u)), (6, .int (nI len - 1 - nI w)), (7, .int (jb (decide (f (k * 28 + 2) = 1)))), (8, .int (jb b2)), (9, .int (nI x)), (10, .int (nI pl)), (11, .int (nI j))]) (fun (x9_ : Nat × Bool × (Nat → Int64) × Int32) => match x9_ with | (j, b2, v3, lk3) => [(m0, .inr (4, [.int th, .int np, .ref tb, .ref md, .ref rw0, .int sz, .ref cs, .ref va, .int lk3, .ref rn, .ref kp])), (va, jaL g 4 v3), (a0, jaI g 253 (jrw n f)), (nb, jaL g N row)]) (fun (x9_ : Nat × Bool × (Nat → Int64) × Int32) => match x9_ with | (j, b2, v3, lk3) => (j ≤ a) ∧ ((if b2 = true then (v3, lk3, (-1 : Int32), false) else jSt f k pl (row pl) (a - j) j v3 lk3 (-1)) = jSt f k pl (row pl) a 0 v2 lk2 (-1))) (fun (x9_ : Nat × Bool × (Nat → Int64) × Int32) => match x9_ with | (j, b2, v3, lk3) => a - j) (fun x_ hi_35 ih_34 => ?_) (0, b, v2, lk2) ⟨(by omega), (by rw [if_neg (show ¬ b = true by rw [‹b = false›]; decide)]; all_goals rfl)⟩ rfl rfl
              obtain ⟨j, b2, v3, lk3⟩ := x_
              obtain ⟨hK0, hK1⟩ := (show (j ≤ a) ∧ ((if b2 = true then (v3, lk3, (-1 : Int32), false) else jSt f k pl (row pl) (a - j) j v3 lk3 (-1)) = jSt f k pl (row pl) a 0 v2 lk2 (-1)) from hi_35)
              refine j_eq (pc' := 127) (L' := [(0, .ref m0), (1, .ref a0), (2, .ref nb), (3, .int (nI len)), (4, .int (nI k)), (5, .int (nI u)), (6, .int (nI len - 1 - nI w)), (7, .int (jb (decide (f (k * 28 + 2) = 1)))), (8, .int (jb b2)), (9, .int (nI x)), (10, .int (nI pl)), (11, .int (nI j))]) (st' := []) (ws' := [(m0, .inr (4, [.int th, .int np, .ref tb, .ref md, .ref rw0, .int sz, .ref cs, .ref va, .int lk3, .ref rn, .ref kp])), (va, jaL g 4 v3), (a0, jaI g 253 (jrw n f)), (nb, jaL g N row)]) ?_ rfl rfl rfl rfl
              refine j_iload 11 C dX5_runOver_127 rfl ?_
              refine j_aload_n 1 C dX5_runOver_129 rfl rfl ?_
              refine j_iload 4 C dX5_runOver_130 rfl ?_
              refine j_callRi (v := f (k * 28 + 3)) (j_runS (As := [.ref a0, .int (nI k)]) (rest := [.int (nI j)]) [2] C (c_X5_steps l g a0 n f k (by omega)) gX5_runOver_X5_steps rfl rfl rfl hd_X5_steps ⟨Nat.le_of_ble_eq_true rfl, Nat.le_of_ble_eq_true rfl⟩ rfl rfl dX5_runOver_132 rfl (Nat.le_of_ble_eq_true rfl) ⟨Nat.le_of_ble_eq_true rfl, Nat.le_of_ble_eq_true rfl⟩) ?_
              refine j_eq (pc' := 135) (L' := [(0, .ref m0), (1, .ref a0), (2, .ref nb), (3, .int (nI len)), (4, .int (nI k)), (5, .int (nI u)), (6, .int (nI len - 1 - nI w)), (7, .int (jb (decide (f (k * 28 + 2) = 1)))), (8, .int (jb b2)), (9, .int (nI x)), (10, .int (nI pl)), (11, .int (nI j))]) (st' := [.int (nI a), .int (nI j)]) (ws' := [(m0, .inr (4, [.int th, .int np, .ref tb, .ref md, .ref rw0, .int sz, .ref cs, .ref va, .int lk3, .ref rn, .ref kp])), (va, jaL g 4 v3), (a0, jaI g 253 (jrw n f)), (nb, jaL g N row)]) ?_ rfl rfl (by rw [ha]) rfl
              refine j_icmp_ge (tgt := 225) C dX5_runOver_135 (by decide) (fun c_36 => ?_) (fun c_36 => ?_)
              · skip
                have c_36 : a ≤ j := (nI_leI (a := a) (b := j) (by omega) (by omega)).mp c_36
                refine j_iinc (v := nI (x + 1)) (L' := [(0, .ref m0), (1, .ref a0), (2, .ref nb), (3, .int (nI len)), (4, .int (nI k)), (5, .int (nI u)), (6, .int (nI len - 1 - nI w)), (7, .int (jb (decide (f (k * 28 + 2) = 1)))), (8, .int (jb b2)), (9, .int (nI (x + 1))), (10, .int (nI pl)), (11, .int (nI j))]) 9 C dX5_runOver_225 rfl (nI_add x 1) (Nat.le_of_ble_eq_true rfl) rfl rfl ?_
                refine j_goto (tgt := 89) C dX5_runOver_228 (by decide) ?_
                refine j_pick (L' := [(0, .ref m0), (1, .ref a0), (2, .ref nb), (3, .int (nI len)), (4, .int (nI k)), (5, .int (nI u)), (6, .int (nI len - 1 - nI w)), (7, .int (jb (decide (f (k * 28 + 2) = 1)))), (8, .int (jb b2)), (9, .int (nI (x + 1)))]) [0, 1, 2, 3, 4, 5, 6, 7, 8, 9] rfl ?_
                exact ih_29 (x + 1, b2, v3, lk3) ⟨(by omega), (by rw [← hJ1, if_neg (show ¬ b = true by rw [‹b = false›]; decide), show len - (u + x + w) = (len - (u + (x + 1) + w)) + 1 by omega, jPl_s, ← hpl, ← hK1]; cases b2 with | true => rfl | false => first | contradiction | (rw [show a - j = 0 by omega]; rfl))⟩ (show len + 1 - (x + 1) < len + 1 - x from by omega)
              · skip
                have c_36 : ¬ a ≤ j := fun z => c_36 ((nI_leI (a := a) (b := j) (by omega) (by omega)).mpr z)
                refine j_iload 8 C dX5_runOver_138 rfl ?_
                refine j_if_ne (tgt := 225) C dX5_runOver_140 (by decide) (fun c_37 => ?_) (fun c_37 => ?_)
                · skip
                  have c_37 : b2 = true := jb_1 c_37
                  refine j_iinc (v := nI (x + 1)) (L' := [(0, .ref m0), (1, .ref a0), (2, .ref nb), (3, .int (nI len)), (4, .int (nI k)), (5, .int (nI u)), (6, .int (nI len - 1 - nI w)), (7, .int (jb (decide (f (k * 28 + 2) = 1)))), (8, .int (jb b2)), (9, .int (nI (x + 1))), (10, .int (nI pl)), (11, .int (nI j))]) 9 C dX5_runOver_225 rfl (nI_add x 1) (Nat.le_of_ble_eq_true rfl) rfl rfl ?_
                  refine j_goto (tgt := 89) C dX5_runOver_228 (by decide) ?_
                  refine j_pick (L' := [(0, .ref m0), (1, .ref a0), (2, .ref nb), (3, .int (nI len)), (4, .int (nI k)), (5, .int (nI u)), (6, .int (nI len - 1 - nI w)), (7, .int (jb (decide (f (k * 28 + 2) = 1)))), (8, .int (jb b2)), (9, .int (nI (x + 1)))]) [0, 1, 2, 3, 4, 5, 6, 7, 8, 9] rfl ?_
                  exact ih_29 (x + 1, b2, v3, lk3) ⟨(by omega), (by rw [← hJ1, if_neg (show ¬ b = true by rw [‹b = false›]; decide), show len - (u + x + w) = (len - (u + (x + 1) + w)) + 1 by omega, jPl_s, ← hpl, ← hK1]; cases b2 with | true => rfl | false => first | contradiction | (rw [show a - j = 0 by omega]; rfl))⟩ (show len + 1 - (x + 1) < len + 1 - x from by omega)
                · skip
                  have c_37 : b2 = false := jb_0 c_37
                  obtain ⟨hlo, hwi, d, o, hd5, hd, ho, hd1, hd2, hd3⟩ := hst j (by omega)
                  have ho100 : o ≤ 100 := by rcases (show d < 4 ∨ d = 4 ∨ d = 5 by omega) with h | h | h; have := hd1 h; omega; have := hd2 h; omega; exact hd3 h
                  refine j_aload_n 0 C dX5_runOver_143 rfl rfl ?_
                  refine j_aload_n 1 C dX5_runOver_144 rfl rfl ?_
                  refine j_iload 4 C dX5_runOver_145 rfl ?_
                  refine j_iload 11 C dX5_runOver_147 rfl ?_
                  refine j_aload_n 2 C dX5_runOver_149 rfl rfl ?_
                  refine j_iload 10 C dX5_runOver_150 rfl ?_
                  refine j_laldN (x := pl) 3 C dX5_runOver_152 rfl rfl (by omega) (by omega) ?_
                  refine j_callWi [0, 1, 2] (fun _ => [(m0, .inr (4, [.int th, .int np, .ref tb, .ref md, .ref rw0, .int sz, .ref cs, .ref va, .int (lk3 + 1), .ref rn, .ref kp])), (va, jaL g 4 v3), (a0, jaI g 253 (jrw n f)), (nb, jaL g N row)]) C (j_runV (ci := 0) (As := [.ref a0, .int (nI k), .int (nI j), .long (row pl)]) (rest := []) [0, 1, 2] C (c_X5_holds l g m0 th np tb md rw0 sz cs va lk3 rn kp v3 a0 n f k j (row pl) (by omega) (by omega) hlo hwi) gX5_runOver_X5_holds rfl rfl rfl hd_X5_holds ⟨Nat.le_of_ble_eq_true rfl, Nat.le_of_ble_eq_true rfl⟩ rfl rfl rfl rfl dX5_runOver_153 rfl (Nat.le_of_ble_eq_true rfl) ⟨Nat.le_of_ble_eq_true rfl, Nat.le_of_ble_eq_true rfl⟩) rfl (fun _ => rfl) (fun _ => rfl) (fun z _ hz => ?_)
                  subst hz
                  refine j_if_ne (tgt := 162) C dX5_runOver_156 (by decide) (fun c_39 => ?_) (fun c_39 => ?_)
                  · skip
                    have c_39 : (jHold (f (k * 28 + 4 + j * 4 + 0)) (jOth v3 (f (k * 28 + 4 + j * 4 + 1))) (row pl)) = true := jb_1 c_39
                    refine j_aload_n 1 C dX5_runOver_162 rfl rfl ?_
                    refine j_iload 4 C dX5_runOver_163 rfl ?_
                    refine j_iload 11 C dX5_runOver_165 rfl ?_
                    refine j_iconst (v := 2) C dX5_runOver_167 rfl ?_
                    refine j_callRi (v := f (k * 28 + 4 + j * 4 + 2)) (j_runS (As := [.ref a0, .int (nI k), .int (nI j), .int 2]) (rest := []) [2] C (c_X5_get l g a0 n f k j 2 (by omega)) gX5_runOver_X5_get rfl rfl rfl hd_X5_get ⟨Nat.le_of_ble_eq_true rfl, Nat.le_of_ble_eq_true rfl⟩ rfl rfl dX5_runOver_168 rfl (Nat.le_of_ble_eq_true rfl) ⟨Nat.le_of_ble_eq_true rfl, Nat.le_of_ble_eq_true rfl⟩) ?_
                    refine j_istore (L' := [(0, .ref m0), (1, .ref a0), (2, .ref nb), (3, .int (nI len)), (4, .int (nI k)), (5, .int (nI u)), (6, .int (nI len - 1 - nI w)), (7, .int (jb (decide (f (k * 28 + 2) = 1)))), (8, .int (jb b2)), (9, .int (nI x)), (10, .int (nI pl)), (11, .int (nI j)), (12, .int (f (k * 28 + 4 + j * 4 + 2)))]) C dX5_runOver_171 (Nat.le_of_ble_eq_true rfl) rfl rfl ?_
                    refine j_aload_n 1 C dX5_runOver_173 rfl rfl ?_
                    refine j_iload 4 C dX5_runOver_174 rfl ?_
                    refine j_iload 11 C dX5_runOver_176 rfl ?_
                    refine j_iconst (v := 3) C dX5_runOver_178 rfl ?_
                    refine j_callRi (v := f (k * 28 + 4 + j * 4 + 3)) (j_runS (As := [.ref a0, .int (nI k), .int (nI j), .int 3]) (rest := []) [2] C (c_X5_get l g a0 n f k j 3 (by omega)) gX5_runOver_X5_get rfl rfl rfl hd_X5_get ⟨Nat.le_of_ble_eq_true rfl, Nat.le_of_ble_eq_true rfl⟩ rfl rfl dX5_runOver_179 rfl (Nat.le_of_ble_eq_true rfl) ⟨Nat.le_of_ble_eq_true rfl, Nat.le_of_ble_eq_true rfl⟩) ?_
                    refine j_istore (L' := [(0, .ref m0), (1, .ref a0), (2, .ref nb), (3, .int (nI len)), (4, .int (nI k)), (5, .int (nI u)), (6, .int (nI len - 1 - nI w)), (7, .int (jb (decide (f (k * 28 + 2) = 1)))), (8, .int (jb b2)), (9, .int (nI x)), (10, .int (nI pl)), (11, .int (nI j)), (12, .int (f (k * 28 + 4 + j * 4 + 2))), (13, .int (f (k * 28 + 4 + j * 4 + 3)))]) C dX5_runOver_182 (Nat.le_of_ble_eq_true rfl) rfl rfl ?_
                    refine j_iload 12 C dX5_runOver_184 rfl ?_
                    refine j_iconst (v := 5) C dX5_runOver_186 rfl ?_
                    refine j_icmp_ne (tgt := 193) C dX5_runOver_187 (by decide) (fun c_40 => ?_) (fun c_40 => ?_)
                    · skip
                      refine j_iload 12 C dX5_runOver_193 rfl ?_
                      refine j_iconst (v := 4) C dX5_runOver_195 rfl ?_
                      refine j_icmp_ne (tgt := 205) C dX5_runOver_196 (by decide) (fun c_41 => ?_) (fun c_41 => ?_)
                      · skip
                        have hd4 : d < 4 := jd4 hd hd5 (by assumption) (by assumption)
                        have ho4 : o < 4 := hd1 hd4
                        refine j_aload_n 0 C dX5_runOver_205 rfl rfl ?_
                        refine j_iload 12 C dX5_runOver_206 rfl ?_
                        refine j_iload 13 C dX5_runOver_208 rfl ?_
                        refine j_eq (pc' := 210) (L' := [(0, .ref m0), (1, .ref a0), (2, .ref nb), (3, .int (nI len)), (4, .int (nI k)), (5, .int (nI u)), (6, .int (nI len - 1 - nI w)), (7, .int (jb (decide (f (k * 28 + 2) = 1)))), (8, .int (jb b2)), (9, .int (nI x)), (10, .int (nI pl)), (11, .int (nI j)), (12, .int (f (k * 28 + 4 + j * 4 + 2))), (13, .int (f (k * 28 + 4 + j * 4 + 3)))]) (st' := [.int (nI o), .int (f (k * 28 + 4 + j * 4 + 2)), .ref m0]) (ws' := [(m0, .inr (4, [.int th, .int np, .ref tb, .ref md, .ref rw0, .int sz, .ref cs, .ref va, .int (lk3 + 1), .ref rn, .ref kp])), (va, jaL g 4 v3), (a0, jaI g 253 (jrw n f)), (nb, jaL g N row)]) ?_ rfl rfl (by rw [ho]) rfl
                        refine j_aload_n 2 C dX5_runOver_210 rfl rfl ?_
                        refine j_iload 10 C dX5_runOver_211 rfl ?_
                        refine j_laldN (x := pl) 3 C dX5_runOver_213 rfl rfl (by omega) (by omega) ?_
                        refine j_iload 10 C dX5_runOver_214 rfl ?_
                        refine j_callWv [0, 1] (fun _ => [(m0, .inr (4, [.int th, .int np, .ref tb, .ref md, .ref rw0, .int sz, .ref cs, .ref va, .int (lk3 + 1), .ref rn, .ref kp])), (va, jaL g 4 (jDo (f (k * 28 + 4 + j * 4 + 2)) o (nI pl) (row pl) v3)), (a0, jaI g 253 (jrw n f)), (nb, jaL g N row)]) C (j_runV (ci := 0) (As := [.int (f (k * 28 + 4 + j * 4 + 2)), .int (nI o), .long (row pl), .int (nI pl)]) (rest := []) [0, 1] C (c_X5_set l g m0 th np tb md rw0 sz cs va (lk3 + 1) rn kp v3 (f (k * 28 + 4 + j * 4 + 2)) o pl (row pl) (by omega)) gX5_runOver_X5_set rfl rfl rfl hd_X5_set ⟨Nat.le_of_ble_eq_true rfl, Nat.le_of_ble_eq_true rfl⟩ rfl rfl rfl rfl dX5_runOver_216 rfl (Nat.le_of_ble_eq_true rfl) ⟨Nat.le_of_ble_eq_true rfl, Nat.le_of_ble_eq_true rfl⟩) rfl (fun _ => rfl) (fun _ => rfl) (fun _ _ => ?_)
                        refine j_iinc (v := nI (j + 1)) (L' := [(0, .ref m0), (1, .ref a0), (2, .ref nb), (3, .int (nI len)), (4, .int (nI k)), (5, .int (nI u)), (6, .int (nI len - 1 - nI w)), (7, .int (jb (decide (f (k * 28 + 2) = 1)))), (8, .int (jb b2)), (9, .int (nI x)), (10, .int (nI pl)), (11, .int (nI (j + 1))), (12, .int (f (k * 28 + 4 + j * 4 + 2))), (13, .int (f (k * 28 + 4 + j * 4 + 3)))]) 11 C dX5_runOver_219 rfl (nI_add j 1) (Nat.le_of_ble_eq_true rfl) rfl rfl ?_
                        refine j_goto (tgt := 127) C dX5_runOver_222 (by decide) ?_
                        refine j_pick (L' := [(0, .ref m0), (1, .ref a0), (2, .ref nb), (3, .int (nI len)), (4, .int (nI k)), (5, .int (nI u)), (6, .int (nI len - 1 - nI w)), (7, .int (jb (decide (f (k * 28 + 2) = 1)))), (8, .int (jb b2)), (9, .int (nI x)), (10, .int (nI pl)), (11, .int (nI (j + 1)))]) [0, 1, 2, 3, 4, 5, 6, 7, 8, 9, 10, 11] rfl ?_
                        exact ih_34 (j + 1, b2, jDo (f (k * 28 + 4 + j * 4 + 2)) o (nI pl) (row pl) v3, (lk3 + 1)) ⟨(by omega), (by rw [if_neg (show ¬ b2 = true by rw [‹b2 = false›]; decide), ← hK1, if_neg (show ¬ b2 = true by rw [‹b2 = false›]; decide), show a - j = (a - (j + 1)) + 1 by omega, jSt_s, if_pos (by assumption), if_neg (by assumption), if_neg (by assumption), ho, show nn (nI o) = o from nI_clamp (by omega)])⟩ (show a - (j + 1) < a - j from by omega)
                      · skip
                        refine j_iconst (v := 1) C dX5_runOver_199 rfl ?_
                        refine j_istore (L' := [(0, .ref m0), (1, .ref a0), (2, .ref nb), (3, .int (nI len)), (4, .int (nI k)), (5, .int (nI u)), (6, .int (nI len - 1 - nI w)), (7, .int (jb (decide (f (k * 28 + 2) = 1)))), (8, .int 1), (9, .int (nI x)), (10, .int (nI pl)), (11, .int (nI j)), (12, .int (f (k * 28 + 4 + j * 4 + 2))), (13, .int (f (k * 28 + 4 + j * 4 + 3)))]) C dX5_runOver_200 (Nat.le_of_ble_eq_true rfl) rfl rfl ?_
                        refine j_goto (tgt := 219) C dX5_runOver_202 (by decide) ?_
                        refine j_iinc (v := nI (j + 1)) (L' := [(0, .ref m0), (1, .ref a0), (2, .ref nb), (3, .int (nI len)), (4, .int (nI k)), (5, .int (nI u)), (6, .int (nI len - 1 - nI w)), (7, .int (jb (decide (f (k * 28 + 2) = 1)))), (8, .int 1), (9, .int (nI x)), (10, .int (nI pl)), (11, .int (nI (j + 1))), (12, .int (f (k * 28 + 4 + j * 4 + 2))), (13, .int (f (k * 28 + 4 + j * 4 + 3)))]) 11 C dX5_runOver_219 rfl (nI_add j 1) (Nat.le_of_ble_eq_true rfl) rfl rfl ?_
                        refine j_goto (tgt := 127) C dX5_runOver_222 (by decide) ?_
                        refine j_pick (L' := [(0, .ref m0), (1, .ref a0), (2, .ref nb), (3, .int (nI len)), (4, .int (nI k)), (5, .int (nI u)), (6, .int (nI len - 1 - nI w)), (7, .int (jb (decide (f (k * 28 + 2) = 1)))), (8, .int 1), (9, .int (nI x)), (10, .int (nI pl)), (11, .int (nI (j + 1)))]) [0, 1, 2, 3, 4, 5, 6, 7, 8, 9, 10, 11] rfl ?_
                        exact ih_34 (j + 1, true, v3, lk3 + 1) ⟨(by omega), (by rw [if_pos rfl, ← hK1, if_neg (show ¬ b2 = true by rw [‹b2 = false›]; decide), show a - j = (a - (j + 1)) + 1 by omega, jSt_s, if_pos (by assumption), if_pos (by assumption)])⟩ (show a - (j + 1) < a - j from by omega)
                    · skip
                      have hS : jSt f k pl (row pl) a 0 v2 lk2 (-1) = (v3, lk3 + 1, f (k * 28 + 4 + j * 4 + 3), false) := by rw [← hK1, if_neg (show ¬ b2 = true by rw [‹b2 = false›]; decide), show a - j = (a - (j + 1)) + 1 by omega, jSt_s, if_pos (by assumption), if_neg (by rw [‹f (k * 28 + 4 + j * 4 + 2) = 5›]; decide), if_pos (by assumption)]
                      have hP : jLp f k row len v1 lk1 (-1) = (v3, lk3 + 1, f (k * 28 + 4 + j * 4 + 3)) := by rw [← hJ1, if_neg (show ¬ b = true by rw [‹b = false›]; decide), show len - (u + x + w) = (len - (u + (x + 1) + w)) + 1 by omega, jPl_s, ← hpl, hS]; rfl
                      have hR : jRn n f row len = (v3, lk3 + 1, f (k * 28 + 4 + j * 4 + 3)) := by rw [← hI1, show n - k = (n - (k + 1)) + 1 by omega, jLs_s, if_pos rfl, hP]; exact jLs_x _ _ _ _ _ _ _ _ (by rw [ho]; exact jcode ho100)
                      refine j_iload 13 C dX5_runOver_190 rfl ?_
                      exact j_iretW (v := f (k * 28 + 4 + j * 4 + 3)) C hr dX5_runOver_192 () (by rw [hR]) (by rw [hR])
                  · skip
                    have c_39 : (jHold (f (k * 28 + 4 + j * 4 + 0)) (jOth v3 (f (k * 28 + 4 + j * 4 + 1))) (row pl)) = false := jb_0 c_39
                    refine j_goto (tgt := 219) C dX5_runOver_159 (by decide) ?_
                    refine j_iinc (v := nI (j + 1)) (L' := [(0, .ref m0), (1, .ref a0), (2, .ref nb), (3, .int (nI len)), (4, .int (nI k)), (5, .int (nI u)), (6, .int (nI len - 1 - nI w)), (7, .int (jb (decide (f (k * 28 + 2) = 1)))), (8, .int (jb b2)), (9, .int (nI x)), (10, .int (nI pl)), (11, .int (nI (j + 1)))]) 11 C dX5_runOver_219 rfl (nI_add j 1) (Nat.le_of_ble_eq_true rfl) rfl rfl ?_
                    refine j_goto (tgt := 127) C dX5_runOver_222 (by decide) ?_
                    exact ih_34 (j + 1, b2, v3, lk3 + 1) ⟨(by omega), (by rw [if_neg (show ¬ b2 = true by rw [‹b2 = false›]; decide), ← hK1, if_neg (show ¬ b2 = true by rw [‹b2 = false›]; decide), show a - j = (a - (j + 1)) + 1 by omega, jSt_s, if_neg (by rw [‹jHold (f (k * 28 + 4 + j * 4 + 0)) (jOth v3 (f (k * 28 + 4 + j * 4 + 1))) (row pl) = false›]; decide)])⟩ (show a - (j + 1) < a - j from by omega)
            · skip
              have c_33 : (decide (f (k * 28 + 2) = 1)) = true := jb_1 c_33
              refine j_iload 5 C dX5_runOver_109 rfl ?_
              refine j_iload 9 C dX5_runOver_111 rfl ?_
              refine j_iadd (x := nI u) (y := nI x) (v := nI (u + x)) C dX5_runOver_113 (nI_add u x) ?_
              refine j_goto (tgt := 122) C dX5_runOver_114 (by decide) ?_
              obtain ⟨pl, hpl⟩ : ∃ pl : Nat, pl = jPos (decide (f (k * 28 + 2) = 1)) u w len (u + x) := ⟨_, rfl⟩
              have hpos : pl < len := by rw [hpl]; unfold jPos; split <;> omega
              refine j_eq (pc' := 122) (L' := [(0, .ref m0), (1, .ref a0), (2, .ref nb), (3, .int (nI len)), (4, .int (nI k)), (5, .int (nI u)), (6, .int (nI len - 1 - nI w)), (7, .int (jb (decide (f (k * 28 + 2) = 1)))), (8, .int (jb b)), (9, .int (nI x))]) (st' := [.int (nI pl)]) (ws' := [(m0, .inr (4, [.int th, .int np, .ref tb, .ref md, .ref rw0, .int sz, .ref cs, .ref va, .int lk2, .ref rn, .ref kp])), (va, jaL g 4 v2), (a0, jaI g 253 (jrw n f)), (nb, jaL g N row)]) ?_ rfl rfl (by rw [hpl, jPos, if_pos (by assumption)]) rfl
              refine j_istore (L' := [(0, .ref m0), (1, .ref a0), (2, .ref nb), (3, .int (nI len)), (4, .int (nI k)), (5, .int (nI u)), (6, .int (nI len - 1 - nI w)), (7, .int (jb (decide (f (k * 28 + 2) = 1)))), (8, .int (jb b)), (9, .int (nI x)), (10, .int (nI pl))]) C dX5_runOver_122 (Nat.le_of_ble_eq_true rfl) rfl rfl ?_
              refine j_iconst (v := 0) C dX5_runOver_124 rfl ?_
              refine j_istore (L' := [(0, .ref m0), (1, .ref a0), (2, .ref nb), (3, .int (nI len)), (4, .int (nI k)), (5, .int (nI u)), (6, .int (nI len - 1 - nI w)), (7, .int (jb (decide (f (k * 28 + 2) = 1)))), (8, .int (jb b)), (9, .int (nI x)), (10, .int (nI pl)), (11, .int 0)]) C dX5_runOver_125 (Nat.le_of_ble_eq_true rfl) rfl rfl ?_
              refine j_loop (σ := Nat × Bool × (Nat → Int64) × Int32) (fun (x9_ : Nat × Bool × (Nat → Int64) × Int32) => match x9_ with | (j, b2, v3, lk3) => [(0, .ref m0), (1, .ref a0), (2, .ref nb), (3, .int (nI len)), (4, .int (nI k)), (5, .int (nI u)), (6, .int (nI len - 1 - nI w)), (7, .int (jb (decide (f (k * 28 + 2) = 1)))), (8, .int (jb b2)), (9, .int (nI x)), (10, .int (nI pl)), (11, .int (nI j))]) (fun (x9_ : Nat × Bool × (Nat → Int64) × Int32) => match x9_ with | (j, b2, v3, lk3) => [(m0, .inr (4, [.int th, .int np, .ref tb, .ref md, .ref rw0, .int sz, .ref cs, .ref va, .int lk3, .ref rn, .ref kp])), (va, jaL g 4 v3), (a0, jaI g 253 (jrw n f)), (nb, jaL g N row)]) (fun (x9_ : Nat × Bool × (Nat → Int64) × Int32) => match x9_ with | (j, b2, v3, lk3) => (j ≤ a) ∧ ((if b2 = true then (v3, lk3, (-1 : Int32), false) else jSt f k pl (row pl) (a - j) j v3 lk3 (-1)) = jSt f k pl (row pl) a 0 v2 lk2 (-1))) (fun (x9_ : Nat × Bool × (Nat → Int64) × Int32) => match x9_ with | (j, b2, v3, lk3) => a - j) (fun x_ hi_43 ih_42 => ?_) (0, b, v2, lk2) ⟨(by omega), (by rw [if_neg (show ¬ b = true by rw [‹b = false›]; decide)]; all_goals rfl)⟩ rfl rfl
              obtain ⟨j, b2, v3, lk3⟩ := x_
              obtain ⟨hK0, hK1⟩ := (show (j ≤ a) ∧ ((if b2 = true then (v3, lk3, (-1 : Int32), false) else jSt f k pl (row pl) (a - j) j v3 lk3 (-1)) = jSt f k pl (row pl) a 0 v2 lk2 (-1)) from hi_43)
              refine j_eq (pc' := 127) (L' := [(0, .ref m0), (1, .ref a0), (2, .ref nb), (3, .int (nI len)), (4, .int (nI k)), (5, .int (nI u)), (6, .int (nI len - 1 - nI w)), (7, .int (jb (decide (f (k * 28 + 2) = 1)))), (8, .int (jb b2)), (9, .int (nI x)), (10, .int (nI pl)), (11, .int (nI j))]) (st' := []) (ws' := [(m0, .inr (4, [.int th, .int np, .ref tb, .ref md, .ref rw0, .int sz, .ref cs, .ref va, .int lk3, .ref rn, .ref kp])), (va, jaL g 4 v3), (a0, jaI g 253 (jrw n f)), (nb, jaL g N row)]) ?_ rfl rfl rfl rfl
              refine j_iload 11 C dX5_runOver_127 rfl ?_
              refine j_aload_n 1 C dX5_runOver_129 rfl rfl ?_
              refine j_iload 4 C dX5_runOver_130 rfl ?_
              refine j_callRi (v := f (k * 28 + 3)) (j_runS (As := [.ref a0, .int (nI k)]) (rest := [.int (nI j)]) [2] C (c_X5_steps l g a0 n f k (by omega)) gX5_runOver_X5_steps rfl rfl rfl hd_X5_steps ⟨Nat.le_of_ble_eq_true rfl, Nat.le_of_ble_eq_true rfl⟩ rfl rfl dX5_runOver_132 rfl (Nat.le_of_ble_eq_true rfl) ⟨Nat.le_of_ble_eq_true rfl, Nat.le_of_ble_eq_true rfl⟩) ?_
              refine j_eq (pc' := 135) (L' := [(0, .ref m0), (1, .ref a0), (2, .ref nb), (3, .int (nI len)), (4, .int (nI k)), (5, .int (nI u)), (6, .int (nI len - 1 - nI w)), (7, .int (jb (decide (f (k * 28 + 2) = 1)))), (8, .int (jb b2)), (9, .int (nI x)), (10, .int (nI pl)), (11, .int (nI j))]) (st' := [.int (nI a), .int (nI j)]) (ws' := [(m0, .inr (4, [.int th, .int np, .ref tb, .ref md, .ref rw0, .int sz, .ref cs, .ref va, .int lk3, .ref rn, .ref kp])), (va, jaL g 4 v3), (a0, jaI g 253 (jrw n f)), (nb, jaL g N row)]) ?_ rfl rfl (by rw [ha]) rfl
              refine j_icmp_ge (tgt := 225) C dX5_runOver_135 (by decide) (fun c_44 => ?_) (fun c_44 => ?_)
              · skip
                have c_44 : a ≤ j := (nI_leI (a := a) (b := j) (by omega) (by omega)).mp c_44
                refine j_iinc (v := nI (x + 1)) (L' := [(0, .ref m0), (1, .ref a0), (2, .ref nb), (3, .int (nI len)), (4, .int (nI k)), (5, .int (nI u)), (6, .int (nI len - 1 - nI w)), (7, .int (jb (decide (f (k * 28 + 2) = 1)))), (8, .int (jb b2)), (9, .int (nI (x + 1))), (10, .int (nI pl)), (11, .int (nI j))]) 9 C dX5_runOver_225 rfl (nI_add x 1) (Nat.le_of_ble_eq_true rfl) rfl rfl ?_
                refine j_goto (tgt := 89) C dX5_runOver_228 (by decide) ?_
                refine j_pick (L' := [(0, .ref m0), (1, .ref a0), (2, .ref nb), (3, .int (nI len)), (4, .int (nI k)), (5, .int (nI u)), (6, .int (nI len - 1 - nI w)), (7, .int (jb (decide (f (k * 28 + 2) = 1)))), (8, .int (jb b2)), (9, .int (nI (x + 1)))]) [0, 1, 2, 3, 4, 5, 6, 7, 8, 9] rfl ?_
                exact ih_29 (x + 1, b2, v3, lk3) ⟨(by omega), (by rw [← hJ1, if_neg (show ¬ b = true by rw [‹b = false›]; decide), show len - (u + x + w) = (len - (u + (x + 1) + w)) + 1 by omega, jPl_s, ← hpl, ← hK1]; cases b2 with | true => rfl | false => first | contradiction | (rw [show a - j = 0 by omega]; rfl))⟩ (show len + 1 - (x + 1) < len + 1 - x from by omega)
              · skip
                have c_44 : ¬ a ≤ j := fun z => c_44 ((nI_leI (a := a) (b := j) (by omega) (by omega)).mpr z)
                refine j_iload 8 C dX5_runOver_138 rfl ?_
                refine j_if_ne (tgt := 225) C dX5_runOver_140 (by decide) (fun c_45 => ?_) (fun c_45 => ?_)
                · skip
                  have c_45 : b2 = true := jb_1 c_45
                  refine j_iinc (v := nI (x + 1)) (L' := [(0, .ref m0), (1, .ref a0), (2, .ref nb), (3, .int (nI len)), (4, .int (nI k)), (5, .int (nI u)), (6, .int (nI len - 1 - nI w)), (7, .int (jb (decide (f (k * 28 + 2) = 1)))), (8, .int (jb b2)), (9, .int (nI (x + 1))), (10, .int (nI pl)), (11, .int (nI j))]) 9 C dX5_runOver_225 rfl (nI_add x 1) (Nat.le_of_ble_eq_true rfl) rfl rfl ?_
                  refine j_goto (tgt := 89) C dX5_runOver_228 (by decide) ?_
                  refine j_pick (L' := [(0, .ref m0), (1, .ref a0), (2, .ref nb), (3, .int (nI len)), (4, .int (nI k)), (5, .int (nI u)), (6, .int (nI len - 1 - nI w)), (7, .int (jb (decide (f (k * 28 + 2) = 1)))), (8, .int (jb b2)), (9, .int (nI (x + 1)))]) [0, 1, 2, 3, 4, 5, 6, 7, 8, 9] rfl ?_
                  exact ih_29 (x + 1, b2, v3, lk3) ⟨(by omega), (by rw [← hJ1, if_neg (show ¬ b = true by rw [‹b = false›]; decide), show len - (u + x + w) = (len - (u + (x + 1) + w)) + 1 by omega, jPl_s, ← hpl, ← hK1]; cases b2 with | true => rfl | false => first | contradiction | (rw [show a - j = 0 by omega]; rfl))⟩ (show len + 1 - (x + 1) < len + 1 - x from by omega)
                · skip
                  have c_45 : b2 = false := jb_0 c_45
                  obtain ⟨hlo, hwi, d, o, hd5, hd, ho, hd1, hd2, hd3⟩ := hst j (by omega)
                  have ho100 : o ≤ 100 := by rcases (show d < 4 ∨ d = 4 ∨ d = 5 by omega) with h | h | h; have := hd1 h; omega; have := hd2 h; omega; exact hd3 h
                  refine j_aload_n 0 C dX5_runOver_143 rfl rfl ?_
                  refine j_aload_n 1 C dX5_runOver_144 rfl rfl ?_
                  refine j_iload 4 C dX5_runOver_145 rfl ?_
                  refine j_iload 11 C dX5_runOver_147 rfl ?_
                  refine j_aload_n 2 C dX5_runOver_149 rfl rfl ?_
                  refine j_iload 10 C dX5_runOver_150 rfl ?_
                  refine j_laldN (x := pl) 3 C dX5_runOver_152 rfl rfl (by omega) (by omega) ?_
                  refine j_callWi [0, 1, 2] (fun _ => [(m0, .inr (4, [.int th, .int np, .ref tb, .ref md, .ref rw0, .int sz, .ref cs, .ref va, .int (lk3 + 1), .ref rn, .ref kp])), (va, jaL g 4 v3), (a0, jaI g 253 (jrw n f)), (nb, jaL g N row)]) C (j_runV (ci := 0) (As := [.ref a0, .int (nI k), .int (nI j), .long (row pl)]) (rest := []) [0, 1, 2] C (c_X5_holds l g m0 th np tb md rw0 sz cs va lk3 rn kp v3 a0 n f k j (row pl) (by omega) (by omega) hlo hwi) gX5_runOver_X5_holds rfl rfl rfl hd_X5_holds ⟨Nat.le_of_ble_eq_true rfl, Nat.le_of_ble_eq_true rfl⟩ rfl rfl rfl rfl dX5_runOver_153 rfl (Nat.le_of_ble_eq_true rfl) ⟨Nat.le_of_ble_eq_true rfl, Nat.le_of_ble_eq_true rfl⟩) rfl (fun _ => rfl) (fun _ => rfl) (fun z _ hz => ?_)
                  subst hz
                  refine j_if_ne (tgt := 162) C dX5_runOver_156 (by decide) (fun c_47 => ?_) (fun c_47 => ?_)
                  · skip
                    have c_47 : (jHold (f (k * 28 + 4 + j * 4 + 0)) (jOth v3 (f (k * 28 + 4 + j * 4 + 1))) (row pl)) = true := jb_1 c_47
                    refine j_aload_n 1 C dX5_runOver_162 rfl rfl ?_
                    refine j_iload 4 C dX5_runOver_163 rfl ?_
                    refine j_iload 11 C dX5_runOver_165 rfl ?_
                    refine j_iconst (v := 2) C dX5_runOver_167 rfl ?_
                    refine j_callRi (v := f (k * 28 + 4 + j * 4 + 2)) (j_runS (As := [.ref a0, .int (nI k), .int (nI j), .int 2]) (rest := []) [2] C (c_X5_get l g a0 n f k j 2 (by omega)) gX5_runOver_X5_get rfl rfl rfl hd_X5_get ⟨Nat.le_of_ble_eq_true rfl, Nat.le_of_ble_eq_true rfl⟩ rfl rfl dX5_runOver_168 rfl (Nat.le_of_ble_eq_true rfl) ⟨Nat.le_of_ble_eq_true rfl, Nat.le_of_ble_eq_true rfl⟩) ?_
                    refine j_istore (L' := [(0, .ref m0), (1, .ref a0), (2, .ref nb), (3, .int (nI len)), (4, .int (nI k)), (5, .int (nI u)), (6, .int (nI len - 1 - nI w)), (7, .int (jb (decide (f (k * 28 + 2) = 1)))), (8, .int (jb b2)), (9, .int (nI x)), (10, .int (nI pl)), (11, .int (nI j)), (12, .int (f (k * 28 + 4 + j * 4 + 2)))]) C dX5_runOver_171 (Nat.le_of_ble_eq_true rfl) rfl rfl ?_
                    refine j_aload_n 1 C dX5_runOver_173 rfl rfl ?_
                    refine j_iload 4 C dX5_runOver_174 rfl ?_
                    refine j_iload 11 C dX5_runOver_176 rfl ?_
                    refine j_iconst (v := 3) C dX5_runOver_178 rfl ?_
                    refine j_callRi (v := f (k * 28 + 4 + j * 4 + 3)) (j_runS (As := [.ref a0, .int (nI k), .int (nI j), .int 3]) (rest := []) [2] C (c_X5_get l g a0 n f k j 3 (by omega)) gX5_runOver_X5_get rfl rfl rfl hd_X5_get ⟨Nat.le_of_ble_eq_true rfl, Nat.le_of_ble_eq_true rfl⟩ rfl rfl dX5_runOver_179 rfl (Nat.le_of_ble_eq_true rfl) ⟨Nat.le_of_ble_eq_true rfl, Nat.le_of_ble_eq_true rfl⟩) ?_
                    refine j_istore (L' := [(0, .ref m0), (1, .ref a0), (2, .ref nb), (3, .int (nI len)), (4, .int (nI k)), (5, .int (nI u)), (6, .int (nI len - 1 - nI w)), (7, .int (jb (decide (f (k * 28 + 2) = 1)))), (8, .int (jb b2)), (9, .int (nI x)), (10, .int (nI pl)), (11, .int (nI j)), (12, .int (f (k * 28 + 4 + j * 4 + 2))), (13, .int (f (k * 28 + 4 + j * 4 + 3)))]) C dX5_runOver_182 (Nat.le_of_ble_eq_true rfl) rfl rfl ?_
                    refine j_iload 12 C dX5_runOver_184 rfl ?_
                    refine j_iconst (v := 5) C dX5_runOver_186 rfl ?_
                    refine j_icmp_ne (tgt := 193) C dX5_runOver_187 (by decide) (fun c_48 => ?_) (fun c_48 => ?_)
                    · skip
                      refine j_iload 12 C dX5_runOver_193 rfl ?_
                      refine j_iconst (v := 4) C dX5_runOver_195 rfl ?_
                      refine j_icmp_ne (tgt := 205) C dX5_runOver_196 (by decide) (fun c_49 => ?_) (fun c_49 => ?_)
                      · skip
                        have hd4 : d < 4 := jd4 hd hd5 (by assumption) (by assumption)
                        have ho4 : o < 4 := hd1 hd4
                        refine j_aload_n 0 C dX5_runOver_205 rfl rfl ?_
                        refine j_iload 12 C dX5_runOver_206 rfl ?_
                        refine j_iload 13 C dX5_runOver_208 rfl ?_
                        refine j_eq (pc' := 210) (L' := [(0, .ref m0), (1, .ref a0), (2, .ref nb), (3, .int (nI len)), (4, .int (nI k)), (5, .int (nI u)), (6, .int (nI len - 1 - nI w)), (7, .int (jb (decide (f (k * 28 + 2) = 1)))), (8, .int (jb b2)), (9, .int (nI x)), (10, .int (nI pl)), (11, .int (nI j)), (12, .int (f (k * 28 + 4 + j * 4 + 2))), (13, .int (f (k * 28 + 4 + j * 4 + 3)))]) (st' := [.int (nI o), .int (f (k * 28 + 4 + j * 4 + 2)), .ref m0]) (ws' := [(m0, .inr (4, [.int th, .int np, .ref tb, .ref md, .ref rw0, .int sz, .ref cs, .ref va, .int (lk3 + 1), .ref rn, .ref kp])), (va, jaL g 4 v3), (a0, jaI g 253 (jrw n f)), (nb, jaL g N row)]) ?_ rfl rfl (by rw [ho]) rfl
                        refine j_aload_n 2 C dX5_runOver_210 rfl rfl ?_
                        refine j_iload 10 C dX5_runOver_211 rfl ?_
                        refine j_laldN (x := pl) 3 C dX5_runOver_213 rfl rfl (by omega) (by omega) ?_
                        refine j_iload 10 C dX5_runOver_214 rfl ?_
                        refine j_callWv [0, 1] (fun _ => [(m0, .inr (4, [.int th, .int np, .ref tb, .ref md, .ref rw0, .int sz, .ref cs, .ref va, .int (lk3 + 1), .ref rn, .ref kp])), (va, jaL g 4 (jDo (f (k * 28 + 4 + j * 4 + 2)) o (nI pl) (row pl) v3)), (a0, jaI g 253 (jrw n f)), (nb, jaL g N row)]) C (j_runV (ci := 0) (As := [.int (f (k * 28 + 4 + j * 4 + 2)), .int (nI o), .long (row pl), .int (nI pl)]) (rest := []) [0, 1] C (c_X5_set l g m0 th np tb md rw0 sz cs va (lk3 + 1) rn kp v3 (f (k * 28 + 4 + j * 4 + 2)) o pl (row pl) (by omega)) gX5_runOver_X5_set rfl rfl rfl hd_X5_set ⟨Nat.le_of_ble_eq_true rfl, Nat.le_of_ble_eq_true rfl⟩ rfl rfl rfl rfl dX5_runOver_216 rfl (Nat.le_of_ble_eq_true rfl) ⟨Nat.le_of_ble_eq_true rfl, Nat.le_of_ble_eq_true rfl⟩) rfl (fun _ => rfl) (fun _ => rfl) (fun _ _ => ?_)
                        refine j_iinc (v := nI (j + 1)) (L' := [(0, .ref m0), (1, .ref a0), (2, .ref nb), (3, .int (nI len)), (4, .int (nI k)), (5, .int (nI u)), (6, .int (nI len - 1 - nI w)), (7, .int (jb (decide (f (k * 28 + 2) = 1)))), (8, .int (jb b2)), (9, .int (nI x)), (10, .int (nI pl)), (11, .int (nI (j + 1))), (12, .int (f (k * 28 + 4 + j * 4 + 2))), (13, .int (f (k * 28 + 4 + j * 4 + 3)))]) 11 C dX5_runOver_219 rfl (nI_add j 1) (Nat.le_of_ble_eq_true rfl) rfl rfl ?_
                        refine j_goto (tgt := 127) C dX5_runOver_222 (by decide) ?_
                        refine j_pick (L' := [(0, .ref m0), (1, .ref a0), (2, .ref nb), (3, .int (nI len)), (4, .int (nI k)), (5, .int (nI u)), (6, .int (nI len - 1 - nI w)), (7, .int (jb (decide (f (k * 28 + 2) = 1)))), (8, .int (jb b2)), (9, .int (nI x)), (10, .int (nI pl)), (11, .int (nI (j + 1)))]) [0, 1, 2, 3, 4, 5, 6, 7, 8, 9, 10, 11] rfl ?_
                        exact ih_42 (j + 1, b2, jDo (f (k * 28 + 4 + j * 4 + 2)) o (nI pl) (row pl) v3, (lk3 + 1)) ⟨(by omega), (by rw [if_neg (show ¬ b2 = true by rw [‹b2 = false›]; decide), ← hK1, if_neg (show ¬ b2 = true by rw [‹b2 = false›]; decide), show a - j = (a - (j + 1)) + 1 by omega, jSt_s, if_pos (by assumption), if_neg (by assumption), if_neg (by assumption), ho, show nn (nI o) = o from nI_clamp (by omega)])⟩ (show a - (j + 1) < a - j from by omega)
                      · skip
                        refine j_iconst (v := 1) C dX5_runOver_199 rfl ?_
                        refine j_istore (L' := [(0, .ref m0), (1, .ref a0), (2, .ref nb), (3, .int (nI len)), (4, .int (nI k)), (5, .int (nI u)), (6, .int (nI len - 1 - nI w)), (7, .int (jb (decide (f (k * 28 + 2) = 1)))), (8, .int 1), (9, .int (nI x)), (10, .int (nI pl)), (11, .int (nI j)), (12, .int (f (k * 28 + 4 + j * 4 + 2))), (13, .int (f (k * 28 + 4 + j * 4 + 3)))]) C dX5_runOver_200 (Nat.le_of_ble_eq_true rfl) rfl rfl ?_
                        refine j_goto (tgt := 219) C dX5_runOver_202 (by decide) ?_
                        refine j_iinc (v := nI (j + 1)) (L' := [(0, .ref m0), (1, .ref a0), (2, .ref nb), (3, .int (nI len)), (4, .int (nI k)), (5, .int (nI u)), (6, .int (nI len - 1 - nI w)), (7, .int (jb (decide (f (k * 28 + 2) = 1)))), (8, .int 1), (9, .int (nI x)), (10, .int (nI pl)), (11, .int (nI (j + 1))), (12, .int (f (k * 28 + 4 + j * 4 + 2))), (13, .int (f (k * 28 + 4 + j * 4 + 3)))]) 11 C dX5_runOver_219 rfl (nI_add j 1) (Nat.le_of_ble_eq_true rfl) rfl rfl ?_
                        refine j_goto (tgt := 127) C dX5_runOver_222 (by decide) ?_
                        refine j_pick (L' := [(0, .ref m0), (1, .ref a0), (2, .ref nb), (3, .int (nI len)), (4, .int (nI k)), (5, .int (nI u)), (6, .int (nI len - 1 - nI w)), (7, .int (jb (decide (f (k * 28 + 2) = 1)))), (8, .int 1), (9, .int (nI x)), (10, .int (nI pl)), (11, .int (nI (j + 1)))]) [0, 1, 2, 3, 4, 5, 6, 7, 8, 9, 10, 11] rfl ?_
                        exact ih_42 (j + 1, true, v3, lk3 + 1) ⟨(by omega), (by rw [if_pos rfl, ← hK1, if_neg (show ¬ b2 = true by rw [‹b2 = false›]; decide), show a - j = (a - (j + 1)) + 1 by omega, jSt_s, if_pos (by assumption), if_pos (by assumption)])⟩ (show a - (j + 1) < a - j from by omega)
                    · skip
                      have hS : jSt f k pl (row pl) a 0 v2 lk2 (-1) = (v3, lk3 + 1, f (k * 28 + 4 + j * 4 + 3), false) := by rw [← hK1, if_neg (show ¬ b2 = true by rw [‹b2 = false›]; decide), show a - j = (a - (j + 1)) + 1 by omega, jSt_s, if_pos (by assumption), if_neg (by rw [‹f (k * 28 + 4 + j * 4 + 2) = 5›]; decide), if_pos (by assumption)]
                      have hP : jLp f k row len v1 lk1 (-1) = (v3, lk3 + 1, f (k * 28 + 4 + j * 4 + 3)) := by rw [← hJ1, if_neg (show ¬ b = true by rw [‹b = false›]; decide), show len - (u + x + w) = (len - (u + (x + 1) + w)) + 1 by omega, jPl_s, ← hpl, hS]; rfl
                      have hR : jRn n f row len = (v3, lk3 + 1, f (k * 28 + 4 + j * 4 + 3)) := by rw [← hI1, show n - k = (n - (k + 1)) + 1 by omega, jLs_s, if_pos rfl, hP]; exact jLs_x _ _ _ _ _ _ _ _ (by rw [ho]; exact jcode ho100)
                      refine j_iload 13 C dX5_runOver_190 rfl ?_
                      exact j_iretW (v := f (k * 28 + 4 + j * 4 + 3)) C hr dX5_runOver_192 () (by rw [hR]) (by rw [hR])
                  · skip
                    have c_47 : (jHold (f (k * 28 + 4 + j * 4 + 0)) (jOth v3 (f (k * 28 + 4 + j * 4 + 1))) (row pl)) = false := jb_0 c_47
                    refine j_goto (tgt := 219) C dX5_runOver_159 (by decide) ?_
                    refine j_iinc (v := nI (j + 1)) (L' := [(0, .ref m0), (1, .ref a0), (2, .ref nb), (3, .int (nI len)), (4, .int (nI k)), (5, .int (nI u)), (6, .int (nI len - 1 - nI w)), (7, .int (jb (decide (f (k * 28 + 2) = 1)))), (8, .int (jb b2)), (9, .int (nI x)), (10, .int (nI pl)), (11, .int (nI (j + 1)))]) 11 C dX5_runOver_219 rfl (nI_add j 1) (Nat.le_of_ble_eq_true rfl) rfl rfl ?_
                    refine j_goto (tgt := 127) C dX5_runOver_222 (by decide) ?_
                    exact ih_42 (j + 1, b2, v3, lk3 + 1) ⟨(by omega), (by rw [if_neg (show ¬ b2 = true by rw [‹b2 = false›]; decide), ← hK1, if_neg (show ¬ b2 = true by rw [‹b2 = false›]; decide), show a - j = (a - (j + 1)) + 1 by omega, jSt_s, if_neg (by rw [‹jHold (f (k * 28 + 4 + j * 4 + 0)) (jOth v3 (f (k * 28 + 4 + j * 4 + 1))) (row pl) = false›]; decide)])⟩ (show a - (j + 1) < a - j from by omega)
  · skip
    have c_3 : ¬ 4 ≤ x := fun z => c_3 ((nI_leI (a := 4) (b := x) (by omega) (by omega)).mpr z)
    refine j_aload_n 0 C dX5_runOver_14 rfl rfl ?_
    refine j_get (Cn := RX5) (T := TX5) (N := 11) 0 7 C dX5_runOver_15 hin_X5_runOver_X5 rfl rfl (by decide) (List.mem_of_getElem? (i := 2) rfl) rfl ?_
    refine j_iload 4 C dX5_runOver_18 rfl ?_
    refine j_lconst (v := 0) C dX5_runOver_20 rfl ?_
    refine j_lastN (x := x) (ws' := [(m0, .inr (4, [.int th, .int np, .ref tb, .ref md, .ref rw0, .int sz, .ref cs, .ref va, .int 0, .ref rn, .ref kp])), (va, jaL g 4 (vp_updL (jZL vv x) x 0)), (a0, jaI g 253 (jrw n f)), (nb, jaL g N row)]) 1 C dX5_runOver_21 rfl rfl (by omega) (by decide) rfl ?_
    refine j_iinc (v := nI (x + 1)) (L' := [(0, .ref m0), (1, .ref a0), (2, .ref nb), (3, .int (nI len)), (4, .int (nI (x + 1)))]) 4 C dX5_runOver_22 rfl (nI_add x 1) (Nat.le_of_ble_eq_true rfl) rfl rfl ?_
    refine j_goto (tgt := 8) C dX5_runOver_25 (by decide) ?_
    refine j_eq (pc' := 8) (L' := [(0, .ref m0), (1, .ref a0), (2, .ref nb), (3, .int (nI len)), (4, .int (nI (x + 1)))]) (st' := []) (ws' := [(m0, .inr (4, [.int th, .int np, .ref tb, .ref md, .ref rw0, .int sz, .ref cs, .ref va, .int 0, .ref rn, .ref kp])), (va, jaL g 4 (jZL vv (x + 1))), (a0, jaI g 253 (jrw n f)), (nb, jaL g N row)]) ?_ rfl rfl rfl (by rw [jZL_s])
    exact ih_1 (x + 1) (by omega) (show 4 - (x + 1) < 4 - x from by omega)
