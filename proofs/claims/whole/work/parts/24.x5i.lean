set_option maxRecDepth 100000 in
theorem hin_X5_digest_X5 : ∀ w ∈ u_ws RX5 TX5 11, w ∈ wsX5_digest := fun w h => List.mem_cons_of_mem _ (by exact List.mem_append_right _ h)
set_option maxHeartbeats 4000000 in
set_option maxRecDepth 100000 in
theorem c_X5_digest (l : Launch) (g : jG) (m0 : Nat) (th : Int32) (N tb md rw0 len cs va : Nat) (lk : Int32) (rn kp : Nat) (tr pn : Nat → Nat) (pf : Nat → Nat → Int32) (row rf : Nat → Int64) (hN : N ≤ 10) (hl : len ≤ 40) (hw : ∀ i, i < N → pn i ≤ 8 ∧ ∀ k, k < pn i → ∃ a, a ≤ 6 ∧ pf i (k * 28 + 3) = nI a) : jWl l yX5_digest wsX5_digest ({ frames := 2, cells := 0, slots := 0, locals := 41 }) g [.ref m0] ((m0, .inr (4, [.int th, .int (nI N), .ref tb, .ref md, .ref rw0, .int (nI len), .ref cs, .ref va, .int lk, .ref rn, .ref kp])) :: (tb, jaR g 10 (fun i => some (tr i))) :: (rw0, jaL g 40 row) :: (rn, jaL g 5 rf) :: jpl (fun i => (tr i, jaI g 253 (jrw (pn i) (pf i)))) N) ((m0, .inr (4, [.int 0, .int (nI N), .ref tb, .ref md, .ref rw0, .int (nI len), .ref cs, .ref va, .int lk, .ref rn, .ref kp])) :: (tb, jaR g 10 (fun i => some (tr i))) :: (rw0, jaL g 40 row) :: (rn, jaL g 5 rf) :: jpl (fun i => (tr i, jaI g 253 (jrw (pn i) (pf i)))) N) (jDG N pn pf row len rf) := by
  refine j_enterW (Qc := fun sz_ => va_Ql (fun r (_ : Unit) => r = jDG N pn pf row len rf) (fun _ t => va_P g.1 vwCl ((m0, .inr (4, [.int 0, .int (nI N), .ref tb, .ref md, .ref rw0, .int (nI len), .ref cs, .ref va, .int lk, .ref rn, .ref kp])) :: (tb, jaR g 10 (fun i => some (tr i))) :: (rw0, jaL g 40 row) :: (rn, jaL g 5 rf) :: jpl (fun i => (tr i, jaI g 253 (jrw (pn i) (pf i)))) N) t.heap) (va_A ((m0, .inr (4, [.int th, .int (nI N), .ref tb, .ref md, .ref rw0, .int (nI len), .ref cs, .ref va, .int lk, .ref rn, .ref kp])) :: (tb, jaR g 10 (fun i => some (tr i))) :: (rw0, jaL g 40 row) :: (rn, jaL g 5 rf) :: jpl (fun i => (tr i, jaI g 253 (jrw (pn i) (pf i)))) N) sz_)) (cc := cX5_digest) (maxL := 7) (ret := (some .long)) (own := RX5) (L := [(0, .ref m0)]) (by decide) rfl rfl (Nat.le_of_ble_eq_true rfl) rfl (fun p e s m args below meth c C hr => ?_)
  refine j_aload_n 0 C dX5_digest_0 rfl rfl ?_
  refine j_iconst (v := 0) C dX5_digest_1 rfl ?_
  refine j_put (Cn := RX5) (T := TX5) (N := 11) (ws' := ((m0, .inr (4, [.int 0, .int (nI N), .ref tb, .ref md, .ref rw0, .int (nI len), .ref cs, .ref va, .int lk, .ref rn, .ref kp])) :: (tb, jaR g 10 (fun i => some (tr i))) :: (rw0, jaL g 40 row) :: (rn, jaL g 5 rf) :: jpl (fun i => (tr i, jaI g 253 (jrw (pn i) (pf i)))) N)) tyX5 0 0 C dX5_digest_2 hin_X5_digest_X5 tyX5_ok nmX5 rfl rfl (by decide) (List.mem_of_getElem? (i := 1) rfl) rfl (tyX5_ok 0 (by decide)) rfl rfl (Nat.le_of_ble_eq_true rfl) rfl ?_
  refine j_ldc2 (v := 11563) C dX5_digest_5 (List.mem_of_getElem? (i := 2) rfl) ?_
  refine j_aload_n 0 C dX5_digest_8 rfl rfl ?_
  refine j_get (Cn := RX5) (T := TX5) (N := 11) 0 1 C dX5_digest_9 hin_X5_digest_X5 rfl rfl (by decide) (List.mem_of_getElem? (i := 3) rfl) rfl ?_
  refine j_i2l (v := (nI N).toInt64) C dX5_digest_12 rfl ?_
  refine j_ladd (v := 11563 + ((nI N).toInt64)) C dX5_digest_13 rfl ?_
  refine j_lstore_n (L' := [(0, .ref m0), (1, .long (11563 + ((nI N).toInt64)))]) C dX5_digest_14 rfl (Nat.le_of_ble_eq_true rfl) rfl rfl ?_
  refine j_iconst (v := 0) C dX5_digest_15 rfl ?_
  refine j_istore_n (L' := [(0, .ref m0), (1, .long (11563 + ((nI N).toInt64))), (3, .int 0)]) C dX5_digest_16 rfl (Nat.le_of_ble_eq_true rfl) rfl rfl ?_
  refine j_pick (L' := [(0, .ref m0), (1, .long (11563 + ((nI N).toInt64))), (3, .int 0)]) [0, 1, 2] rfl ?_
  refine j_loop (σ := Nat × Int64) (fun (x9_ : Nat × Int64) => match x9_ with | (i, d0) => [(0, .ref m0), (1, .long d0), (3, .int (nI i))]) (fun (x9_ : Nat × Int64) => match x9_ with | (i, d0) => ((m0, .inr (4, [.int 0, .int (nI N), .ref tb, .ref md, .ref rw0, .int (nI len), .ref cs, .ref va, .int lk, .ref rn, .ref kp])) :: (tb, jaR g 10 (fun i => some (tr i))) :: (rw0, jaL g 40 row) :: (rn, jaL g 5 rf) :: jpl (fun i => (tr i, jaI g 253 (jrw (pn i) (pf i)))) N)) (fun (x9_ : Nat × Int64) => match x9_ with | (i, d0) => (i ≤ N) ∧ (jDp pn pf (N - i) i d0 = jDp pn pf N 0 (jMx 373 (nI N).toInt64))) (fun (x9_ : Nat × Int64) => match x9_ with | (i, d0) => N - i) (fun x_ hi_2 ih_1 => ?_) (0, 11563 + (nI N).toInt64) ⟨(by omega), rfl⟩ rfl rfl
  obtain ⟨i, d0⟩ := x_
  obtain ⟨hI0, hI1⟩ := (show (i ≤ N) ∧ (jDp pn pf (N - i) i d0 = jDp pn pf N 0 (jMx 373 (nI N).toInt64)) from hi_2)
  refine j_eq (pc' := 17) (L' := [(0, .ref m0), (1, .long d0), (3, .int (nI i))]) (st' := []) (ws' := ((m0, .inr (4, [.int 0, .int (nI N), .ref tb, .ref md, .ref rw0, .int (nI len), .ref cs, .ref va, .int lk, .ref rn, .ref kp])) :: (tb, jaR g 10 (fun i => some (tr i))) :: (rw0, jaL g 40 row) :: (rn, jaL g 5 rf) :: jpl (fun i => (tr i, jaI g 253 (jrw (pn i) (pf i)))) N)) ?_ rfl rfl rfl rfl
  refine j_iload_n 2 C dX5_digest_17 rfl rfl ?_
  refine j_aload_n 0 C dX5_digest_18 rfl rfl ?_
  refine j_get (Cn := RX5) (T := TX5) (N := 11) 0 1 C dX5_digest_19 hin_X5_digest_X5 rfl rfl (by decide) (List.mem_of_getElem? (i := 3) rfl) rfl ?_
  refine j_icmp_ge (tgt := 113) C dX5_digest_22 (by decide) (fun c_3 => ?_) (fun c_3 => ?_)
  · skip
    have c_3 : N ≤ i := (nI_leI (a := N) (b := i) (by omega) (by omega)).mp c_3
    refine j_lload_n 1 C dX5_digest_113 rfl rfl ?_
    refine j_ldc2 (v := 31) C dX5_digest_114 (List.mem_of_getElem? (i := 5) rfl) ?_
    refine j_lmul (v := d0 * 31) C dX5_digest_117 rfl ?_
    refine j_aload_n 0 C dX5_digest_118 rfl rfl ?_
    refine j_get (Cn := RX5) (T := TX5) (N := 11) 0 5 C dX5_digest_119 hin_X5_digest_X5 rfl rfl (by decide) (List.mem_of_getElem? (i := 6) rfl) rfl ?_
    refine j_i2l (v := (nI len).toInt64) C dX5_digest_122 rfl ?_
    refine j_ladd (v := (d0 * 31) + ((nI len).toInt64)) C dX5_digest_123 rfl ?_
    refine j_lstore_n (L' := [(0, .ref m0), (1, .long ((d0 * 31) + ((nI len).toInt64))), (3, .int (nI i))]) C dX5_digest_124 rfl (Nat.le_of_ble_eq_true rfl) rfl rfl ?_
    refine j_iconst (v := 0) C dX5_digest_125 rfl ?_
    refine j_istore_n (L' := [(0, .ref m0), (1, .long ((d0 * 31) + ((nI len).toInt64))), (3, .int 0)]) C dX5_digest_126 rfl (Nat.le_of_ble_eq_true rfl) rfl rfl ?_
    refine j_loop (σ := Nat × Int64) (fun (x9_ : Nat × Int64) => match x9_ with | (i, d0) => [(0, .ref m0), (1, .long d0), (3, .int (nI i))]) (fun (x9_ : Nat × Int64) => match x9_ with | (i, d0) => ((m0, .inr (4, [.int 0, .int (nI N), .ref tb, .ref md, .ref rw0, .int (nI len), .ref cs, .ref va, .int lk, .ref rn, .ref kp])) :: (tb, jaR g 10 (fun i => some (tr i))) :: (rw0, jaL g 40 row) :: (rn, jaL g 5 rf) :: jpl (fun i => (tr i, jaI g 253 (jrw (pn i) (pf i)))) N)) (fun (x9_ : Nat × Int64) => match x9_ with | (i, d0) => (i ≤ len) ∧ (jDr row (len - i) i d0 = jDr row len 0 (jMx (jDp pn pf N 0 (jMx 373 (nI N).toInt64)) (nI len).toInt64))) (fun (x9_ : Nat × Int64) => match x9_ with | (i, d0) => len - i) (fun x_ hi_5 ih_4 => ?_) (0, d0 * 31 + (nI len).toInt64) ⟨(by omega), (by rw [show d0 = jDp pn pf N 0 (jMx 373 (nI N).toInt64) by rw [← hI1, show N - i = 0 by omega]; rfl]; rfl)⟩ rfl rfl
    obtain ⟨i, d0⟩ := x_
    obtain ⟨hA0, hA1⟩ := (show (i ≤ len) ∧ (jDr row (len - i) i d0 = jDr row len 0 (jMx (jDp pn pf N 0 (jMx 373 (nI N).toInt64)) (nI len).toInt64)) from hi_5)
    refine j_eq (pc' := 127) (L' := [(0, .ref m0), (1, .long d0), (3, .int (nI i))]) (st' := []) (ws' := ((m0, .inr (4, [.int 0, .int (nI N), .ref tb, .ref md, .ref rw0, .int (nI len), .ref cs, .ref va, .int lk, .ref rn, .ref kp])) :: (tb, jaR g 10 (fun i => some (tr i))) :: (rw0, jaL g 40 row) :: (rn, jaL g 5 rf) :: jpl (fun i => (tr i, jaI g 253 (jrw (pn i) (pf i)))) N)) ?_ rfl rfl rfl rfl
    refine j_iload_n 2 C dX5_digest_127 rfl rfl ?_
    refine j_aload_n 0 C dX5_digest_128 rfl rfl ?_
    refine j_get (Cn := RX5) (T := TX5) (N := 11) 0 5 C dX5_digest_129 hin_X5_digest_X5 rfl rfl (by decide) (List.mem_of_getElem? (i := 6) rfl) rfl ?_
    refine j_icmp_ge (tgt := 154) C dX5_digest_132 (by decide) (fun c_6 => ?_) (fun c_6 => ?_)
    · skip
      have c_6 : len ≤ i := (nI_leI (a := len) (b := i) (by omega) (by omega)).mp c_6
      refine j_iconst (v := 0) C dX5_digest_154 rfl ?_
      refine j_istore_n (L' := [(0, .ref m0), (1, .long d0), (3, .int 0)]) C dX5_digest_155 rfl (Nat.le_of_ble_eq_true rfl) rfl rfl ?_
      refine j_loop (σ := Nat × Int64) (fun (x9_ : Nat × Int64) => match x9_ with | (w, e0) => [(0, .ref m0), (1, .long e0), (3, .int (nI w))]) (fun (x9_ : Nat × Int64) => match x9_ with | (w, e0) => ((m0, .inr (4, [.int 0, .int (nI N), .ref tb, .ref md, .ref rw0, .int (nI len), .ref cs, .ref va, .int lk, .ref rn, .ref kp])) :: (tb, jaR g 10 (fun i => some (tr i))) :: (rw0, jaL g 40 row) :: (rn, jaL g 5 rf) :: jpl (fun i => (tr i, jaI g 253 (jrw (pn i) (pf i)))) N)) (fun (x9_ : Nat × Int64) => match x9_ with | (w, e0) => (w ≤ 5) ∧ (jDr rf (5 - w) w e0 = jDG N pn pf row len rf)) (fun (x9_ : Nat × Int64) => match x9_ with | (w, e0) => 5 - w) (fun x_ hi_8 ih_7 => ?_) (0, d0) ⟨(by omega), (by have hd0 : d0 = jDr row len 0 (jMx (jDp pn pf N 0 (jMx 373 (nI N).toInt64)) (nI len).toInt64) := (by rw [← hA1, show len - i = 0 by omega]; rfl); rw [hd0]; rfl)⟩ rfl rfl
      obtain ⟨w, e0⟩ := x_
      obtain ⟨hB0, hB1⟩ := (show (w ≤ 5) ∧ (jDr rf (5 - w) w e0 = jDG N pn pf row len rf) from hi_8)
      refine j_eq (pc' := 156) (L' := [(0, .ref m0), (1, .long e0), (3, .int (nI w))]) (st' := []) (ws' := ((m0, .inr (4, [.int 0, .int (nI N), .ref tb, .ref md, .ref rw0, .int (nI len), .ref cs, .ref va, .int lk, .ref rn, .ref kp])) :: (tb, jaR g 10 (fun i => some (tr i))) :: (rw0, jaL g 40 row) :: (rn, jaL g 5 rf) :: jpl (fun i => (tr i, jaI g 253 (jrw (pn i) (pf i)))) N)) ?_ rfl rfl rfl rfl
      refine j_iload_n 2 C dX5_digest_156 rfl rfl ?_
      refine j_iconst (v := 5) C dX5_digest_157 rfl ?_
      refine j_icmp_ge (tgt := 180) C dX5_digest_158 (by decide) (fun c_9 => ?_) (fun c_9 => ?_)
      · skip
        have c_9 : 5 ≤ w := (nI_leI (a := 5) (b := w) (by omega) (by omega)).mp c_9
        refine j_lload_n 1 C dX5_digest_180 rfl rfl ?_
        exact j_lretW (v := e0) C hr dX5_digest_181 () (by rw [← hB1, show 5 - w = 0 by omega]; rfl) rfl
      · skip
        have c_9 : ¬ 5 ≤ w := fun z => c_9 ((nI_leI (a := 5) (b := w) (by omega) (by omega)).mpr z)
        refine j_lload_n 1 C dX5_digest_161 rfl rfl ?_
        refine j_ldc2 (v := 31) C dX5_digest_162 (List.mem_of_getElem? (i := 5) rfl) ?_
        refine j_lmul (v := e0 * 31) C dX5_digest_165 rfl ?_
        refine j_aload_n 0 C dX5_digest_166 rfl rfl ?_
        refine j_get (Cn := RX5) (T := TX5) (N := 11) 0 9 C dX5_digest_167 hin_X5_digest_X5 rfl rfl (by decide) (List.mem_of_getElem? (i := 8) rfl) rfl ?_
        refine j_iload_n 2 C dX5_digest_170 rfl rfl ?_
        refine j_laldN (x := w) 3 C dX5_digest_171 rfl rfl (by omega) (by decide) ?_
        refine j_ladd (v := (e0 * 31) + (rf w)) C dX5_digest_172 rfl ?_
        refine j_lstore_n (L' := [(0, .ref m0), (1, .long ((e0 * 31) + (rf w))), (3, .int (nI w))]) C dX5_digest_173 rfl (Nat.le_of_ble_eq_true rfl) rfl rfl ?_
        refine j_iinc (v := nI (w + 1)) (L' := [(0, .ref m0), (1, .long ((e0 * 31) + (rf w))), (3, .int (nI (w + 1)))]) 2 C dX5_digest_174 rfl (nI_add w 1) (Nat.le_of_ble_eq_true rfl) rfl rfl ?_
        refine j_goto (tgt := 156) C dX5_digest_177 (by decide) ?_
        exact ih_7 (w + 1, (e0 * 31) + (rf w)) ⟨(by omega), (by rw [← hB1, show 5 - w = (5 - (w + 1)) + 1 by omega, jDr_s]; rfl)⟩ (show 5 - (w + 1) < 5 - w from by omega)
    · skip
      have c_6 : ¬ len ≤ i := fun z => c_6 ((nI_leI (a := len) (b := i) (by omega) (by omega)).mpr z)
      refine j_lload_n 1 C dX5_digest_135 rfl rfl ?_
      refine j_ldc2 (v := 31) C dX5_digest_136 (List.mem_of_getElem? (i := 5) rfl) ?_
      refine j_lmul (v := d0 * 31) C dX5_digest_139 rfl ?_
      refine j_aload_n 0 C dX5_digest_140 rfl rfl ?_
      refine j_get (Cn := RX5) (T := TX5) (N := 11) 0 4 C dX5_digest_141 hin_X5_digest_X5 rfl rfl (by decide) (List.mem_of_getElem? (i := 7) rfl) rfl ?_
      refine j_iload_n 2 C dX5_digest_144 rfl rfl ?_
      refine j_laldN (x := i) 2 C dX5_digest_145 rfl rfl (by omega) (by decide) ?_
      refine j_ladd (v := (d0 * 31) + (row i)) C dX5_digest_146 rfl ?_
      refine j_lstore_n (L' := [(0, .ref m0), (1, .long ((d0 * 31) + (row i))), (3, .int (nI i))]) C dX5_digest_147 rfl (Nat.le_of_ble_eq_true rfl) rfl rfl ?_
      refine j_iinc (v := nI (i + 1)) (L' := [(0, .ref m0), (1, .long ((d0 * 31) + (row i))), (3, .int (nI (i + 1)))]) 2 C dX5_digest_148 rfl (nI_add i 1) (Nat.le_of_ble_eq_true rfl) rfl rfl ?_
      refine j_goto (tgt := 127) C dX5_digest_151 (by decide) ?_
      exact ih_4 (i + 1, (d0 * 31) + (row i)) ⟨(by omega), (by rw [← hA1, show len - i = (len - (i + 1)) + 1 by omega, jDr_s]; rfl)⟩ (show len - (i + 1) < len - i from by omega)
  · skip
    have c_3 : ¬ N ≤ i := fun z => c_3 ((nI_leI (a := N) (b := i) (by omega) (by omega)).mpr z)
    refine j_perm (ws' := ((m0, .inr (4, [.int 0, .int (nI N), .ref tb, .ref md, .ref rw0, .int (nI len), .ref cs, .ref va, .int lk, .ref rn, .ref kp])) :: (tb, jaR g 10 (fun i => some (tr i))) :: (rw0, jaL g 40 row) :: (rn, jaL g 5 rf) :: (tr i, jaI g 253 (jrw (pn i) (pf i))) :: jrest (fun i => (tr i, jaI g 253 (jrw (pn i) (pf i)))) N i)) (by repeat (first | exact jpl_p (F := (fun i => (tr i, jaI g 253 (jrw (pn i) (pf i))))) (by omega) | apply List.Perm.cons)) ?_
    obtain ⟨hn8, hs⟩ := hw i (by omega)
    refine j_aload_n 0 C dX5_digest_25 rfl rfl ?_
    refine j_get (Cn := RX5) (T := TX5) (N := 11) 0 2 C dX5_digest_26 hin_X5_digest_X5 rfl rfl (by decide) (List.mem_of_getElem? (i := 4) rfl) rfl ?_
    refine j_iload_n 2 C dX5_digest_29 rfl rfl ?_
    refine j_aldR (x := i) 1 C dX5_digest_30 rfl rfl (by omega) (by decide) ?_
    refine j_eq (pc' := 31) (L' := [(0, .ref m0), (1, .long d0), (3, .int (nI i))]) (st' := [.ref (tr i)]) (ws' := ((m0, .inr (4, [.int 0, .int (nI N), .ref tb, .ref md, .ref rw0, .int (nI len), .ref cs, .ref va, .int lk, .ref rn, .ref kp])) :: (tb, jaR g 10 (fun i => some (tr i))) :: (rw0, jaL g 40 row) :: (rn, jaL g 5 rf) :: (tr i, jaI g 253 (jrw (pn i) (pf i))) :: jrest (fun i => (tr i, jaI g 253 (jrw (pn i) (pf i)))) N i)) ?_ rfl rfl rfl rfl
    refine j_astore (L' := [(0, .ref m0), (1, .long d0), (3, .int (nI i)), (4, .ref (tr i))]) C dX5_digest_31 (Nat.le_of_ble_eq_true rfl) rfl rfl ?_
    refine j_lload_n 1 C dX5_digest_33 rfl rfl ?_
    refine j_ldc2 (v := 31) C dX5_digest_34 (List.mem_of_getElem? (i := 5) rfl) ?_
    refine j_lmul (v := d0 * 31) C dX5_digest_37 rfl ?_
    refine j_aload 3 C dX5_digest_38 rfl ?_
    refine j_iconst (v := 0) C dX5_digest_40 rfl ?_
    refine j_ialdR0 4 C dX5_digest_41 rfl rfl ?_
    refine j_i2l (v := (nI (pn i)).toInt64) C dX5_digest_42 rfl ?_
    refine j_ladd (v := (d0 * 31) + ((nI (pn i)).toInt64)) C dX5_digest_43 rfl ?_
    refine j_lstore_n (L' := [(0, .ref m0), (1, .long ((d0 * 31) + ((nI (pn i)).toInt64))), (3, .int (nI i)), (4, .ref (tr i))]) C dX5_digest_44 rfl (Nat.le_of_ble_eq_true rfl) rfl rfl ?_
    refine j_iconst (v := 0) C dX5_digest_45 rfl ?_
    refine j_istore (L' := [(0, .ref m0), (1, .long ((d0 * 31) + ((nI (pn i)).toInt64))), (3, .int (nI i)), (4, .ref (tr i)), (5, .int 0)]) C dX5_digest_46 (Nat.le_of_ble_eq_true rfl) rfl rfl ?_
    refine j_pick (L' := [(0, .ref m0), (1, .long ((d0 * 31) + ((nI (pn i)).toInt64))), (3, .int (nI i)), (4, .ref (tr i)), (5, .int 0)]) [0, 1, 2, 3, 4] rfl ?_
    refine j_loop (σ := Nat × Int64) (fun (x9_ : Nat × Int64) => match x9_ with | (y, d1) => [(0, .ref m0), (1, .long d1), (3, .int (nI i)), (4, .ref (tr i)), (5, .int (nI y))]) (fun (x9_ : Nat × Int64) => match x9_ with | (y, d1) => ((m0, .inr (4, [.int 0, .int (nI N), .ref tb, .ref md, .ref rw0, .int (nI len), .ref cs, .ref va, .int lk, .ref rn, .ref kp])) :: (tb, jaR g 10 (fun i => some (tr i))) :: (rw0, jaL g 40 row) :: (rn, jaL g 5 rf) :: (tr i, jaI g 253 (jrw (pn i) (pf i))) :: jrest (fun i => (tr i, jaI g 253 (jrw (pn i) (pf i)))) N i)) (fun (x9_ : Nat × Int64) => match x9_ with | (y, d1) => (y ≤ pn i) ∧ (jML (pf i) (pn i - y) y d1 = jML (pf i) (pn i) 0 (jMx d0 (nI (pn i)).toInt64))) (fun (x9_ : Nat × Int64) => match x9_ with | (y, d1) => pn i - y) (fun x_ hi_11 ih_10 => ?_) (0, d0 * 31 + (nI (pn i)).toInt64) ⟨(by omega), rfl⟩ rfl rfl
    obtain ⟨y, d1⟩ := x_
    obtain ⟨hJ0, hJ1⟩ := (show (y ≤ pn i) ∧ (jML (pf i) (pn i - y) y d1 = jML (pf i) (pn i) 0 (jMx d0 (nI (pn i)).toInt64)) from hi_11)
    refine j_eq (pc' := 48) (L' := [(0, .ref m0), (1, .long d1), (3, .int (nI i)), (4, .ref (tr i)), (5, .int (nI y))]) (st' := []) (ws' := ((m0, .inr (4, [.int 0, .int (nI N), .ref tb, .ref md, .ref rw0, .int (nI len), .ref cs, .ref va, .int lk, .ref rn, .ref kp])) :: (tb, jaR g 10 (fun i => some (tr i))) :: (rw0, jaL g 40 row) :: (rn, jaL g 5 rf) :: (tr i, jaI g 253 (jrw (pn i) (pf i))) :: jrest (fun i => (tr i, jaI g 253 (jrw (pn i) (pf i)))) N i)) ?_ rfl rfl rfl rfl
    refine j_iload 4 C dX5_digest_48 rfl ?_
    refine j_aload 3 C dX5_digest_50 rfl ?_
    refine j_iconst (v := 0) C dX5_digest_52 rfl ?_
    refine j_ialdR0 4 C dX5_digest_53 rfl rfl ?_
    refine j_icmp_ge (tgt := 107) C dX5_digest_54 (by decide) (fun c_12 => ?_) (fun c_12 => ?_)
    · skip
      have c_12 : (pn i) ≤ y := (nI_leI (a := (pn i)) (b := y) (by omega) (by omega)).mp c_12
      have hJJ : d1 = jML (pf i) (pn i) 0 (jMx d0 (nI (pn i)).toInt64) := by rw [← hJ1, show pn i - y = 0 by omega]; rfl
      refine j_perm (ws' := ((m0, .inr (4, [.int 0, .int (nI N), .ref tb, .ref md, .ref rw0, .int (nI len), .ref cs, .ref va, .int lk, .ref rn, .ref kp])) :: (tb, jaR g 10 (fun i => some (tr i))) :: (rw0, jaL g 40 row) :: (rn, jaL g 5 rf) :: jpl (fun i => (tr i, jaI g 253 (jrw (pn i) (pf i)))) N)) (by repeat (first | exact jpl_q (F := (fun i => (tr i, jaI g 253 (jrw (pn i) (pf i))))) (by omega) | apply List.Perm.cons)) ?_
      refine j_iinc (v := nI (i + 1)) (L' := [(0, .ref m0), (1, .long d1), (3, .int (nI (i + 1))), (4, .ref (tr i)), (5, .int (nI y))]) 2 C dX5_digest_107 rfl (nI_add i 1) (Nat.le_of_ble_eq_true rfl) rfl rfl ?_
      refine j_goto (tgt := 17) C dX5_digest_110 (by decide) ?_
      refine j_pick (L' := [(0, .ref m0), (1, .long d1), (3, .int (nI (i + 1)))]) [0, 1, 2] rfl ?_
      exact ih_1 (i + 1, d1) ⟨(by omega), (by rw [← hI1, show N - i = (N - (i + 1)) + 1 by omega, jDp_s, ← hJJ])⟩ (show N - (i + 1) < N - i from by omega)
    · skip
      have c_12 : ¬ (pn i) ≤ y := fun z => c_12 ((nI_leI (a := (pn i)) (b := y) (by omega) (by omega)).mpr z)
      obtain ⟨a, ha6, ha⟩ := hs y (by omega)
      refine j_iconst (v := 0) C dX5_digest_57 rfl ?_
      refine j_istore (L' := [(0, .ref m0), (1, .long d1), (3, .int (nI i)), (4, .ref (tr i)), (5, .int (nI y)), (6, .int 0)]) C dX5_digest_58 (Nat.le_of_ble_eq_true rfl) rfl rfl ?_
      refine j_loop (σ := Nat × Int64) (fun (x9_ : Nat × Int64) => match x9_ with | (t, d2) => [(0, .ref m0), (1, .long d2), (3, .int (nI i)), (4, .ref (tr i)), (5, .int (nI y)), (6, .int (nI t))]) (fun (x9_ : Nat × Int64) => match x9_ with | (t, d2) => ((m0, .inr (4, [.int 0, .int (nI N), .ref tb, .ref md, .ref rw0, .int (nI len), .ref cs, .ref va, .int lk, .ref rn, .ref kp])) :: (tb, jaR g 10 (fun i => some (tr i))) :: (rw0, jaL g 40 row) :: (rn, jaL g 5 rf) :: (tr i, jaI g 253 (jrw (pn i) (pf i))) :: jrest (fun i => (tr i, jaI g 253 (jrw (pn i) (pf i)))) N i)) (fun (x9_ : Nat × Int64) => match x9_ with | (t, d2) => (t ≤ 4 + 4 * a) ∧ (jMR (pf i) (4 + 4 * a - t) (y * 28 + t) d2 = jMR (pf i) (4 + 4 * a) (y * 28) d1)) (fun (x9_ : Nat × Int64) => match x9_ with | (t, d2) => 4 + 4 * a - t) (fun x_ hi_14 ih_13 => ?_) (0, d1) ⟨(by omega), rfl⟩ rfl rfl
      obtain ⟨t, d2⟩ := x_
      obtain ⟨hK0, hK1⟩ := (show (t ≤ 4 + 4 * a) ∧ (jMR (pf i) (4 + 4 * a - t) (y * 28 + t) d2 = jMR (pf i) (4 + 4 * a) (y * 28) d1) from hi_14)
      refine j_eq (pc' := 60) (L' := [(0, .ref m0), (1, .long d2), (3, .int (nI i)), (4, .ref (tr i)), (5, .int (nI y)), (6, .int (nI t))]) (st' := []) (ws' := ((m0, .inr (4, [.int 0, .int (nI N), .ref tb, .ref md, .ref rw0, .int (nI len), .ref cs, .ref va, .int lk, .ref rn, .ref kp])) :: (tb, jaR g 10 (fun i => some (tr i))) :: (rw0, jaL g 40 row) :: (rn, jaL g 5 rf) :: (tr i, jaI g 253 (jrw (pn i) (pf i))) :: jrest (fun i => (tr i, jaI g 253 (jrw (pn i) (pf i)))) N i)) ?_ rfl rfl rfl rfl
      refine j_iload 5 C dX5_digest_60 rfl ?_
      refine j_iconst (v := 4) C dX5_digest_62 rfl ?_
      refine j_iconst (v := 4) C dX5_digest_63 rfl ?_
      refine j_aload 3 C dX5_digest_64 rfl ?_
      refine j_iload 4 C dX5_digest_66 rfl ?_
      refine j_callRi (v := (pf i) (y * 28 + 3)) (j_runS (As := [.ref (tr i), .int (nI y)]) (rest := [.int 4, .int 4, .int (nI t)]) [4] C (c_X5_steps l g (tr i) (pn i) (pf i) y (by omega)) gX5_digest_X5_steps rfl rfl rfl hd_X5_steps ⟨Nat.le_of_ble_eq_true rfl, Nat.le_of_ble_eq_true rfl⟩ rfl rfl dX5_digest_68 rfl (Nat.le_of_ble_eq_true rfl) ⟨Nat.le_of_ble_eq_true rfl, Nat.le_of_ble_eq_true rfl⟩) ?_
      refine j_eq (pc' := 71) (L' := [(0, .ref m0), (1, .long d2), (3, .int (nI i)), (4, .ref (tr i)), (5, .int (nI y)), (6, .int (nI t))]) (st' := [.int (nI a), .int 4, .int 4, .int (nI t)]) (ws' := ((m0, .inr (4, [.int 0, .int (nI N), .ref tb, .ref md, .ref rw0, .int (nI len), .ref cs, .ref va, .int lk, .ref rn, .ref kp])) :: (tb, jaR g 10 (fun i => some (tr i))) :: (rw0, jaL g 40 row) :: (rn, jaL g 5 rf) :: (tr i, jaI g 253 (jrw (pn i) (pf i))) :: jrest (fun i => (tr i, jaI g 253 (jrw (pn i) (pf i)))) N i)) ?_ rfl rfl (by rw [ha]) rfl
      refine j_imul (x := 4) (y := nI a) (v := nI (4 * a)) C dX5_digest_71 (pk_mul 4 a) ?_
      refine j_iadd (x := 4) (y := nI (4 * a)) (v := nI (4 + 4 * a)) C dX5_digest_72 (nI_add 4 (4 * a)) ?_
      refine j_icmp_ge (tgt := 101) C dX5_digest_73 (by decide) (fun c_15 => ?_) (fun c_15 => ?_)
      · skip
        have c_15 : (4 + 4 * a) ≤ t := (nI_leI (a := 4 + 4 * a) (b := t) (by omega) (by omega)).mp c_15
        have hKK : d2 = jMR (pf i) (4 + 4 * a) (y * 28) d1 := by rw [← hK1, show 4 + 4 * a - t = 0 by omega]; rfl
        refine j_iinc (v := nI (y + 1)) (L' := [(0, .ref m0), (1, .long d2), (3, .int (nI i)), (4, .ref (tr i)), (5, .int (nI (y + 1))), (6, .int (nI t))]) 4 C dX5_digest_101 rfl (nI_add y 1) (Nat.le_of_ble_eq_true rfl) rfl rfl ?_
        refine j_goto (tgt := 48) C dX5_digest_104 (by decide) ?_
        refine j_pick (L' := [(0, .ref m0), (1, .long d2), (3, .int (nI i)), (4, .ref (tr i)), (5, .int (nI (y + 1)))]) [0, 1, 2, 3, 4] rfl ?_
        exact ih_10 (y + 1, d2) ⟨(by omega), (by rw [← hJ1, show pn i - y = (pn i - (y + 1)) + 1 by omega, jML_s, show nn (pf i (y * 28 + 3)) = a by rw [ha]; exact nI_clamp (by omega)]; rw [← hKK])⟩ (show pn i - (y + 1) < pn i - y from by omega)
      · skip
        have c_15 : ¬ (4 + 4 * a) ≤ t := fun z => c_15 ((nI_leI (a := 4 + 4 * a) (b := t) (by omega) (by omega)).mpr z)
        refine j_lload_n 1 C dX5_digest_76 rfl rfl ?_
        refine j_ldc2 (v := 31) C dX5_digest_77 (List.mem_of_getElem? (i := 5) rfl) ?_
        refine j_lmul (v := d2 * 31) C dX5_digest_80 rfl ?_
        refine j_aload 3 C dX5_digest_81 rfl ?_
        refine j_iload 4 C dX5_digest_83 rfl ?_
        refine j_callRi (v := nI (1 + 28 * y)) (j_runS (As := [.int (nI y)]) (rest := [.ref (tr i), .long (d2 * 31)]) [] C (c_X5_loopAt l g y) gX5_digest_X5_loopAt rfl rfl rfl hd_X5_loopAt ⟨Nat.le_of_ble_eq_true rfl, Nat.le_of_ble_eq_true rfl⟩ rfl rfl dX5_digest_85 rfl (Nat.le_of_ble_eq_true rfl) ⟨Nat.le_of_ble_eq_true rfl, Nat.le_of_ble_eq_true rfl⟩) ?_
        refine j_iload 5 C dX5_digest_88 rfl ?_
        refine j_iadd (x := nI (1 + 28 * y)) (y := nI t) (v := nI (1 + 28 * y + t)) C dX5_digest_90 (nI_add (1 + 28 * y) t) ?_
        refine j_ialdR (x := 1 + 28 * y + t) (y := y * 28 + t) 4 C dX5_digest_91 rfl rfl (by omega) (by omega) ?_
        refine j_i2l (v := ((pf i) (y * 28 + t)).toInt64) C dX5_digest_92 rfl ?_
        refine j_ladd (v := (d2 * 31) + (((pf i) (y * 28 + t)).toInt64)) C dX5_digest_93 rfl ?_
        refine j_lstore_n (L' := [(0, .ref m0), (1, .long ((d2 * 31) + (((pf i) (y * 28 + t)).toInt64))), (3, .int (nI i)), (4, .ref (tr i)), (5, .int (nI y)), (6, .int (nI t))]) C dX5_digest_94 rfl (Nat.le_of_ble_eq_true rfl) rfl rfl ?_
        refine j_iinc (v := nI (t + 1)) (L' := [(0, .ref m0), (1, .long ((d2 * 31) + (((pf i) (y * 28 + t)).toInt64))), (3, .int (nI i)), (4, .ref (tr i)), (5, .int (nI y)), (6, .int (nI (t + 1)))]) 5 C dX5_digest_95 rfl (nI_add t 1) (Nat.le_of_ble_eq_true rfl) rfl rfl ?_
        refine j_goto (tgt := 60) C dX5_digest_98 (by decide) ?_
        exact ih_13 (t + 1, (d2 * 31) + (((pf i) (y * 28 + t)).toInt64)) ⟨(by omega), (by rw [← hK1, show 4 + 4 * a - t = (4 + 4 * a - (t + 1)) + 1 by omega, jMR_s]; rfl)⟩ (show 4 + 4 * a - (t + 1) < 4 + 4 * a - t from by omega)
