/-! LAW 7: the law's body -/
section LAWB
variable {p : Program} {l : Launch} {e : Env} {R : Room} {s : State} {m : MethodId} {args : Array Value} {below : List Frame} {meth : Method} {c : Code} {Q : State → Prop} {A : Nat → Prop} {g : jG} {cells slots x0 b Ln len N : Nat} {xs : Nat → Int32} {pn : Nat → Nat} {pf : Nat → Nat → Int32} {row vv : Nat → Int64} {lk : Int32} {w : va_W}
set_option maxHeartbeats 4000000 in
theorem l_take {t : Nat} (C : jC p s m args meth c code wsL_law RL 16 A g) (K : jSc s b Ln xs A) (hR : 11 ≤ R.frames ∧ 420 ≤ R.locals) (hLn : Ln < 2 ^ 30) (hf : cells ≤ R.cells ∧ slots ≤ R.slots) (ht : t < 1000) (hN1 : 1 ≤ N) (hN2 : N ≤ 10) (kk : ∀ (xr : Int32) (i ch : Nat), i < N → ch < 6 → jJ p l e R s m args below meth c Q A g (va_S A s.heap) 16 cells slots 75 [(0, .ref b), (1, .ref x0), (2, .int (nI N)), (3, .int (nI t)), (4, .int xr), (5, .int (nI i)), (6, .int (nI ch))] [] w) : jJ p l e R s m args below meth c Q A g (va_S A s.heap) 16 cells slots 36 [(0, .ref b), (1, .ref x0), (2, .int (nI N)), (3, .int (nI t))] [] w := by
  refine j_aload_n 0 C dL_law_36 rfl rfl ?_
  refine j_bipush (v := 15) C dL_law_37 rfl ?_
  refine j_iload_n 3 C dL_law_39 rfl rfl ?_
  refine j_bipush (v := 16) C dL_law_40 rfl ?_
  refine j_irem (v := nI (t % 16)) C dL_law_42 (by decide) (nI_rem (u := t) (N := 16) (by omega) (by decide) (by decide)) ?_
  refine j_isub (v := nI (15 - t % 16)) C dL_law_43 (pk_sub (a := 15) (b := t % 16) (by omega)) ?_
  refine j_scell (15 - t % 16) (by omega) hLn rfl C K gL_law_L_cell ⟨by omega, by omega⟩ dL_law_44 (Nat.le_of_ble_eq_true rfl) ⟨by omega, by omega⟩ (fun r0 => ?_)
  refine j_iload_n 3 C dL_law_47 rfl rfl ?_
  refine j_bipush (v := 16) C dL_law_48 rfl ?_
  refine j_idiv (v := nI (t / 16)) C dL_law_50 (by decide) (pk_div (a := t) (d := 16) (by omega) (by decide) (by decide)) ?_
  refine j_iconst (v := 4) C dL_law_51 rfl ?_
  refine j_imul (v := nI ((t / 16) * 4)) C dL_law_52 (pk_mul (t / 16) 4) ?_
  obtain ⟨xr, hx⟩ : ∃ xr : Int32, xr = r0 >>> ((nI ((t / 16) * 4)) &&& 31) := ⟨_, rfl⟩
  refine j_ishr (v := xr) C dL_law_53 hx.symm ?_
  refine j_istore (L' := [(0, .ref b), (1, .ref x0), (2, .int (nI N)), (3, .int (nI t)), (4, .int xr)]) C dL_law_54 (Nat.le_of_ble_eq_true rfl) rfl rfl ?_
  refine j_iload 4 C dL_law_56 rfl ?_
  refine j_iload_n 2 C dL_law_58 rfl rfl ?_
  refine j_below N (by omega) (by omega) C K gL_law_L_below ⟨by omega, by omega⟩ dL_law_59 (Nat.le_of_ble_eq_true rfl) ⟨by omega, by omega⟩ (fun i hi => ?_)
  refine j_istore (L' := [(0, .ref b), (1, .ref x0), (2, .int (nI N)), (3, .int (nI t)), (4, .int xr), (5, .int (nI i))]) C dL_law_62 (Nat.le_of_ble_eq_true rfl) rfl rfl ?_
  refine j_iload 4 C dL_law_64 rfl ?_
  refine j_iconst (v := 2) C dL_law_66 rfl ?_
  refine j_ishr (v := xr >>> ((2 : Int32) &&& 31)) C dL_law_67 rfl ?_
  refine j_bipush (v := 6) C dL_law_68 rfl ?_
  refine j_below 6 (by decide) (by decide) C K gL_law_L_below ⟨by omega, by omega⟩ dL_law_70 (Nat.le_of_ble_eq_true rfl) ⟨by omega, by omega⟩ (fun ch hch => ?_)
  refine j_istore (L' := [(0, .ref b), (1, .ref x0), (2, .int (nI N)), (3, .int (nI t)), (4, .int xr), (5, .int (nI i)), (6, .int (nI ch))]) C dL_law_73 (Nat.le_of_ble_eq_true rfl) rfl rfl ?_
  exact kk xr i ch hi hch
set_option maxHeartbeats 4000000 in
theorem l_room {t i ch : Nat} {xr : Int32} (C : jC p s m args meth c code wsL_law RL 16 A g) (K : jSc s b Ln xs A) (hR : 11 ≤ R.frames ∧ 420 ≤ R.locals) (hf : cells ≤ R.cells ∧ slots ≤ R.slots) (hi : i < N) (hch : ch < 6) (hok : jMok N pn pf len) (hc : jCW g x0 N pn pf len row vv lk w) (k424 : ∀ w', jCW g x0 N pn pf len row vv lk w' → jJ p l e R s m args below meth c Q A g (va_S A s.heap) 16 cells slots 424 [(0, .ref b), (1, .ref x0), (2, .int (nI N)), (3, .int (nI t))] [] w') (kk : ∀ (v7 : Int32) (w' : va_W), jCW g x0 N pn pf len row vv lk w' → (ch = 5 ∨ ∃ rm : Nat, v7 = nI rm ∧ 1 ≤ rm ∧ rm ≤ 8 ∧ rm ≤ pn i ∧ ((ch = 0 ∨ ch = 4) → rm + 1 ≤ pn i)) → jJ p l e R s m args below meth c Q A g (va_S A s.heap) 16 cells slots 115 [(0, .ref b), (1, .ref x0), (2, .int (nI N)), (3, .int (nI t)), (4, .int xr), (5, .int (nI i)), (6, .int (nI ch)), (7, .int v7)] [] w') : jJ p l e R s m args below meth c Q A g (va_S A s.heap) 16 cells slots 75 [(0, .ref b), (1, .ref x0), (2, .int (nI N)), (3, .int (nI t)), (4, .int xr), (5, .int (nI i)), (6, .int (nI ch))] [] w := by
  have hn8 := (hok.2.2.1 i hi).1
  refine j_aload_n 1 C dL_law_75 rfl rfl ?_
  refine j_iload 5 C dL_law_76 rfl ?_
  refine j_oV (Fx := []) (V := w) (As := [.int (nI i)]) (rest := []) (n := 3) (T := TX4) (N := 8) C (q_loops hok hc hi) gL_law_X4_loops rfl hl_loops ⟨by show 1 + 1 ≤ R.frames; omega, by show 8 + (2 + 11) + 22 ≤ R.locals; omega⟩ (List.Perm.refl _) (jCW_x0 hc) rfl dL_law_78 rfl (Nat.le_of_ble_eq_true rfl) ⟨by show cells + 0 ≤ R.cells; omega, by show slots + 0 ≤ R.slots; omega⟩ rfl (fun w1 hc => ?_)
  show jJ p l e R s m args below meth c Q A g (va_S A s.heap) 16 cells slots 81 [(0, .ref b), (1, .ref x0), (2, .int (nI N)), (3, .int (nI t)), (4, .int xr), (5, .int (nI i)), (6, .int (nI ch))] [.int (nI (pn i))] w1
  have at98 : ∀ v7 : Int32, ((ch = 0 ∨ ch = 4) ∧ v7 = nI (pn i) - 1) ∨ (ch ≠ 0 ∧ ch ≠ 4 ∧ v7 = nI (pn i)) → jJ p l e R s m args below meth c Q A g (va_S A s.heap) 16 cells slots 98 [(0, .ref b), (1, .ref x0), (2, .int (nI N)), (3, .int (nI t)), (4, .int xr), (5, .int (nI i)), (6, .int (nI ch))] [.int v7] w1 := fun v7 hv => by
    refine j_istore (L' := [(0, .ref b), (1, .ref x0), (2, .int (nI N)), (3, .int (nI t)), (4, .int xr), (5, .int (nI i)), (6, .int (nI ch)), (7, .int v7)]) C dL_law_98 (Nat.le_of_ble_eq_true rfl) rfl rfl ?_
    refine j_iload 7 C dL_law_100 rfl ?_
    refine j_iconst (v := 1) C dL_law_102 rfl ?_
    refine j_icmp_ge (tgt := 115) C dL_law_103 (by decide) (fun h1 => ?_) (fun h1 => ?_)
    · skip
      refine kk v7 w1 hc (Or.inr ?_)
      rcases hv with ⟨h9, hv⟩ | ⟨n0, n4, hv⟩
      · rw [hv, Int32.le_iff_toInt_le, show (1 : Int32) = nI 1 from rfl, pk_sub_toInt (by omega) (by decide), nI_toInt (by decide)] at h1
        exact ⟨pn i - 1, by rw [hv, show (1 : Int32) = nI 1 from rfl, pk_sub (by omega)], by omega, by omega, by omega, fun _ => by omega⟩
      · rw [hv, show (1 : Int32) = nI 1 from rfl, nI_leI (by decide) (by omega)] at h1
        exact ⟨pn i, hv, h1, hn8, Nat.le_refl _, fun z => by omega⟩
    · skip
      refine j_iload 6 C dL_law_106 rfl ?_
      refine j_iconst (v := 5) C dL_law_108 rfl ?_
      refine j_icmp_eq (tgt := 115) C dL_law_109 (by decide) (fun h5 => ?_) (fun h5 => ?_)
      · skip
        exact kk v7 w1 hc (Or.inl ((nI_eq (by omega) (by decide)).mp h5))
      · skip
        refine j_goto (tgt := 424) C dL_law_112 (by decide) ?_
        refine j_pick (L' := [(0, .ref b), (1, .ref x0), (2, .int (nI N)), (3, .int (nI t))]) [0, 1, 2, 3] rfl ?_
        exact k424 w1 hc
  refine j_iload 6 C dL_law_81 rfl ?_
  refine j_if_eq (tgt := 92) C dL_law_83 (by decide) (fun h0 => ?_) (fun h0 => ?_)
  · skip
    refine j_iconst (v := 1) C dL_law_92 rfl ?_
    refine j_goto (tgt := 97) C dL_law_93 (by decide) ?_
    refine j_isub (v := nI (pn i) - 1) C dL_law_97 rfl ?_
    exact at98 _ (Or.inl ⟨Or.inl ((nI_eq (b := 0) (by omega) (by decide)).mp h0), rfl⟩)
  · skip
    refine j_iload 6 C dL_law_86 rfl ?_
    refine j_iconst (v := 4) C dL_law_88 rfl ?_
    refine j_icmp_ne (tgt := 96) C dL_law_89 (by decide) (fun h4 => ?_) (fun h4 => ?_)
    · skip
      refine j_iconst (v := 0) C dL_law_96 rfl ?_
      refine j_isub (v := nI (pn i - 0)) C dL_law_97 (pk_sub (a := pn i) (b := 0) (Nat.zero_le _)) ?_
      refine at98 _ (Or.inr ⟨fun z => h0 (by rw [z]; rfl), fun z => h4 (by rw [z]; rfl), rfl⟩)
    · skip
      refine j_iconst (v := 1) C dL_law_92 rfl ?_
      refine j_goto (tgt := 97) C dL_law_93 (by decide) ?_
      refine j_isub (v := nI (pn i) - 1) C dL_law_97 rfl ?_
      exact at98 _ (Or.inl ⟨Or.inr ((nI_eq (b := 4) (by omega) (by decide)).mp h4), rfl⟩)
set_option maxHeartbeats 4000000 in
theorem l_k {t i ch : Nat} {xr v7 : Int32} (C : jC p s m args meth c code wsL_law RL 16 A g) (K : jSc s b Ln xs A) (hR : 11 ≤ R.frames ∧ 420 ≤ R.locals) (hf : cells ≤ R.cells ∧ slots ≤ R.slots) (hch : ch < 6) (hrm : ch = 5 ∨ ∃ rm : Nat, v7 = nI rm ∧ 1 ≤ rm ∧ rm ≤ 8 ∧ rm ≤ pn i ∧ ((ch = 0 ∨ ch = 4) → rm + 1 ≤ pn i)) (kk : ∀ k : Nat, (ch = 5 ∧ k = 0) ∨ (ch ≠ 5 ∧ k < pn i ∧ ((ch = 0 ∨ ch = 4) → k + 1 < pn i)) → jJ p l e R s m args below meth c Q A g (va_S A s.heap) 16 cells slots 136 [(0, .ref b), (1, .ref x0), (2, .int (nI N)), (3, .int (nI t)), (4, .int xr), (5, .int (nI i)), (6, .int (nI ch)), (7, .int v7), (8, .int (nI k))] [] w) : jJ p l e R s m args below meth c Q A g (va_S A s.heap) 16 cells slots 115 [(0, .ref b), (1, .ref x0), (2, .int (nI N)), (3, .int (nI t)), (4, .int xr), (5, .int (nI i)), (6, .int (nI ch)), (7, .int v7)] [] w := by
  have at134 : ∀ k : Nat, (ch = 5 ∧ k = 0) ∨ (ch ≠ 5 ∧ k < pn i ∧ ((ch = 0 ∨ ch = 4) → k + 1 < pn i)) → jJ p l e R s m args below meth c Q A g (va_S A s.heap) 16 cells slots 134 [(0, .ref b), (1, .ref x0), (2, .int (nI N)), (3, .int (nI t)), (4, .int xr), (5, .int (nI i)), (6, .int (nI ch)), (7, .int v7)] [.int (nI k)] w := fun k hk => by
    refine j_istore (L' := [(0, .ref b), (1, .ref x0), (2, .int (nI N)), (3, .int (nI t)), (4, .int xr), (5, .int (nI i)), (6, .int (nI ch)), (7, .int v7), (8, .int (nI k))]) C dL_law_134 (Nat.le_of_ble_eq_true rfl) rfl rfl ?_
    exact kk k hk
  refine j_iload 6 C dL_law_115 rfl ?_
  refine j_iconst (v := 5) C dL_law_117 rfl ?_
  refine j_icmp_ne (tgt := 125) C dL_law_118 (by decide) (fun h5 => ?_) (fun h5 => ?_)
  · skip
    have n5 : ch ≠ 5 := fun z => h5 (by rw [z]; rfl)
    obtain ⟨rm, hv, r1, r8, r2, r3⟩ := hrm.elim (fun z => absurd z n5) id
    subst hv
    refine j_iload 4 C dL_law_125 rfl ?_
    refine j_iconst (v := 4) C dL_law_127 rfl ?_
    refine j_ishr (v := xr >>> ((4 : Int32) &&& 31)) C dL_law_128 rfl ?_
    refine j_iload 7 C dL_law_129 rfl ?_
    refine j_below rm (by omega) (by omega) C K gL_law_L_below ⟨by omega, by omega⟩ dL_law_131 (Nat.le_of_ble_eq_true rfl) ⟨by omega, by omega⟩ (fun k hk => ?_)
    exact at134 k (Or.inr ⟨n5, by omega, fun z => by have := r3 z; omega⟩)
  · skip
    refine j_iconst (v := 0) C dL_law_121 rfl ?_
    refine j_goto (tgt := 134) C dL_law_122 (by decide) ?_
    exact at134 0 (Or.inl ⟨(nI_eq (by omega) (by decide)).mp h5, rfl⟩)
set_option maxHeartbeats 4000000 in
theorem l_with {t i ch k : Nat} {xr v7 : Int32} (C : jC p s m args meth c code wsL_law RL 16 A g) (K : jSc s b Ln xs A) (hR : 11 ≤ R.frames ∧ 420 ≤ R.locals) (hf : cells ≤ R.cells ∧ slots ≤ R.slots) (hch : ch < 6) (kk : ∀ n9 wi : Nat, 1 ≤ n9 → n9 ≤ 5 → ((ch = 1 ∧ 1 ≤ wi ∧ wi ≤ 5) ∨ (ch = 2 ∧ wi = n9) ∨ (ch ≠ 1 ∧ ch ≠ 2 ∧ wi = 0)) → jJ p l e R s m args below meth c Q A g (va_S A s.heap) 16 cells slots 183 [(0, .ref b), (1, .ref x0), (2, .int (nI N)), (3, .int (nI t)), (4, .int xr), (5, .int (nI i)), (6, .int (nI ch)), (7, .int v7), (8, .int (nI k)), (9, .int (nI n9)), (10, .int (nI wi))] [] w) : jJ p l e R s m args below meth c Q A g (va_S A s.heap) 16 cells slots 136 [(0, .ref b), (1, .ref x0), (2, .int (nI N)), (3, .int (nI t)), (4, .int xr), (5, .int (nI i)), (6, .int (nI ch)), (7, .int v7), (8, .int (nI k))] [] w := by
  refine j_iconst (v := 1) C dL_law_136 rfl ?_
  refine j_iload 4 C dL_law_137 rfl ?_
  refine j_bipush (v := 6) C dL_law_139 rfl ?_
  refine j_ishr (v := xr >>> ((6 : Int32) &&& 31)) C dL_law_141 rfl ?_
  refine j_iconst (v := 5) C dL_law_142 rfl ?_
  refine j_below 5 (by decide) (by decide) C K gL_law_L_below ⟨by omega, by omega⟩ dL_law_143 (Nat.le_of_ble_eq_true rfl) ⟨by omega, by omega⟩ (fun d hd => ?_)
  refine j_iadd (v := nI (1 + d)) C dL_law_146 (nI_add 1 d) ?_
  refine j_istore (L' := [(0, .ref b), (1, .ref x0), (2, .int (nI N)), (3, .int (nI t)), (4, .int xr), (5, .int (nI i)), (6, .int (nI ch)), (7, .int v7), (8, .int (nI k)), (9, .int (nI (1 + d)))]) C dL_law_147 (Nat.le_of_ble_eq_true rfl) rfl rfl ?_
  have at181 : ∀ wi : Nat, (ch = 1 ∧ 1 ≤ wi ∧ wi ≤ 5) ∨ (ch = 2 ∧ wi = 1 + d) ∨ (ch ≠ 1 ∧ ch ≠ 2 ∧ wi = 0) → jJ p l e R s m args below meth c Q A g (va_S A s.heap) 16 cells slots 181 [(0, .ref b), (1, .ref x0), (2, .int (nI N)), (3, .int (nI t)), (4, .int xr), (5, .int (nI i)), (6, .int (nI ch)), (7, .int v7), (8, .int (nI k)), (9, .int (nI (1 + d)))] [.int (nI wi)] w := fun wi hwi => by
    refine j_istore (L' := [(0, .ref b), (1, .ref x0), (2, .int (nI N)), (3, .int (nI t)), (4, .int xr), (5, .int (nI i)), (6, .int (nI ch)), (7, .int v7), (8, .int (nI k)), (9, .int (nI (1 + d))), (10, .int (nI wi))]) C dL_law_181 (Nat.le_of_ble_eq_true rfl) rfl rfl ?_
    exact kk (1 + d) wi (by omega) (by omega) (by rcases hwi with z | z | z <;> omega)
  refine j_iload 6 C dL_law_149 rfl ?_
  refine j_iconst (v := 1) C dL_law_151 rfl ?_
  refine j_icmp_ne (tgt := 169) C dL_law_152 (by decide) (fun h1 => ?_) (fun h1 => ?_)
  · skip
    refine j_iload 6 C dL_law_169 rfl ?_
    refine j_iconst (v := 2) C dL_law_171 rfl ?_
    refine j_icmp_ne (tgt := 180) C dL_law_172 (by decide) (fun h2 => ?_) (fun h2 => ?_)
    · skip
      refine j_iconst (v := 0) C dL_law_180 rfl ?_
      exact at181 0 (Or.inr (Or.inr ⟨fun z => h1 (by rw [z]; rfl), fun z => h2 (by rw [z]; rfl), rfl⟩))
    · skip
      refine j_iload 9 C dL_law_175 rfl ?_
      refine j_goto (tgt := 181) C dL_law_177 (by decide) ?_
      exact at181 (1 + d) (Or.inr (Or.inl ⟨(nI_eq (by omega) (by decide)).mp h2, rfl⟩))
  · skip
    refine j_iconst (v := 1) C dL_law_155 rfl ?_
    refine j_iload 4 C dL_law_156 rfl ?_
    refine j_bipush (v := 6) C dL_law_158 rfl ?_
    refine j_ishr (v := xr >>> ((6 : Int32) &&& 31)) C dL_law_160 rfl ?_
    refine j_iconst (v := 5) C dL_law_161 rfl ?_
    refine j_below 5 (by decide) (by decide) C K gL_law_L_below ⟨by omega, by omega⟩ dL_law_162 (Nat.le_of_ble_eq_true rfl) ⟨by omega, by omega⟩ (fun d2 hd2 => ?_)
    refine j_iadd (v := nI (1 + d2)) C dL_law_165 (nI_add 1 d2) ?_
    refine j_goto (tgt := 181) C dL_law_166 (by decide) ?_
    exact at181 (1 + d2) (Or.inl ⟨(nI_eq (by omega) (by decide)).mp h1, by omega, by omega⟩)
set_option maxHeartbeats 4000000 in
theorem l_args {t i ch k n9 wi : Nat} {xr v7 : Int32} (C : jC p s m args meth c code wsL_law RL 16 A g) (K : jSc s b Ln xs A) (hR : 11 ≤ R.frames ∧ 420 ≤ R.locals) (hf : cells ≤ R.cells ∧ slots ≤ R.slots) (hi : i < N) (hch : ch < 6) (hok : jMok N pn pf len) (hc : jCW g x0 N pn pf len row vv lk w) (hk : (ch = 5 ∧ k = 0) ∨ (ch ≠ 5 ∧ k < pn i ∧ ((ch = 0 ∨ ch = 4) → k + 1 < pn i))) (hn9 : 1 ≤ n9 ∧ n9 ≤ 5) (hwi : (ch = 1 ∧ 1 ≤ wi ∧ wi ≤ 5) ∨ (ch = 2 ∧ wi = n9) ∨ (ch ≠ 1 ∧ ch ≠ 2 ∧ wi = 0)) (k424 : ∀ w', jCW g x0 N pn pf len row vv lk w' → jJ p l e R s m args below meth c Q A g (va_S A s.heap) 16 cells slots 424 [(0, .ref b), (1, .ref x0), (2, .int (nI N)), (3, .int (nI t))] [] w') (kk : ∀ w', jCW g x0 N pn pf len row vv lk w' → qArgs (pn i) (pf i) ch k wi → jJ p l e R s m args below meth c Q A g (va_S A s.heap) 16 cells slots 203 [(0, .ref b), (1, .ref x0), (2, .int (nI N)), (3, .int (nI t)), (4, .int xr), (5, .int (nI i)), (6, .int (nI ch)), (7, .int v7), (8, .int (nI k)), (9, .int (nI n9)), (10, .int (nI wi))] [] w') : jJ p l e R s m args below meth c Q A g (va_S A s.heap) 16 cells slots 183 [(0, .ref b), (1, .ref x0), (2, .int (nI N)), (3, .int (nI t)), (4, .int xr), (5, .int (nI i)), (6, .int (nI ch)), (7, .int v7), (8, .int (nI k)), (9, .int (nI n9)), (10, .int (nI wi))] [] w := by
  refine j_iload 6 C dL_law_183 rfl ?_
  refine j_iconst (v := 1) C dL_law_185 rfl ?_
  refine j_icmp_ne (tgt := 203) C dL_law_186 (by decide) (fun h1 => ?_) (fun h1 => ?_)
  · skip
    have n1 : ch ≠ 1 := fun z => h1 (by rw [z]; rfl)
    refine kk w hc ?_
    unfold qArgs
    rcases hk with ⟨z1, z2⟩ | ⟨z1, z2, z3⟩
    · exact Or.inr (Or.inr (Or.inr (Or.inr (Or.inr ⟨z1, z2, by omega⟩))))
    · rcases (show ch = 0 ∨ ch = 2 ∨ ch = 3 ∨ ch = 4 by omega) with z | z | z | z
      · exact Or.inl ⟨z, z3 (Or.inl z), by omega⟩
      · exact Or.inr (Or.inr (Or.inr (Or.inl ⟨z, z2, by omega, by omega⟩)))
      · exact Or.inr (Or.inr (Or.inr (Or.inr (Or.inl ⟨z, z2, by omega⟩))))
      · exact Or.inr (Or.inl ⟨z, z3 (Or.inr z), by omega⟩)
  · skip
    have e1 : ch = 1 := (nI_eq (by omega) (by decide)).mp h1
    have hk2 : k < pn i := by rcases hk with ⟨z1, z2⟩ | ⟨z1, z2, z3⟩ <;> omega
    obtain ⟨u, v, a, -, -, ha6, -, -, -, ha, -⟩ := (hok.2.2.1 i hi).2 k hk2
    refine j_iload 10 C dL_law_189 rfl ?_
    refine j_aload_n 1 C dL_law_191 rfl rfl ?_
    refine j_iload 5 C dL_law_192 rfl ?_
    refine j_iload 8 C dL_law_194 rfl ?_
    refine j_iconst (v := 3) C dL_law_196 rfl ?_
    have hq := q_loop (l := l) hok hc hi hk2 (w := 3) (by decide)
    rw [ha] at hq
    refine j_oV (Fx := []) (V := w) (As := [.int (nI i), .int (nI k), .int 3]) (rest := [.int (nI wi)]) (n := 3) (T := TX4) (N := 8) C (hq) gL_law_X4_loop rfl hl_loop ⟨by show 2 + 1 ≤ R.frames; omega, by show 8 + (5 + 11) + 43 ≤ R.locals; omega⟩ (List.Perm.refl _) (jCW_x0 hc) rfl dL_law_197 rfl (Nat.le_of_ble_eq_true rfl) ⟨by show cells + 0 ≤ R.cells; omega, by show slots + 0 ≤ R.slots; omega⟩ rfl (fun w1 hc => ?_)
    show jJ p l e R s m args below meth c Q A g (va_S A s.heap) 16 cells slots 200 [(0, .ref b), (1, .ref x0), (2, .int (nI N)), (3, .int (nI t)), (4, .int xr), (5, .int (nI i)), (6, .int (nI ch)), (7, .int v7), (8, .int (nI k)), (9, .int (nI n9)), (10, .int (nI wi))] [.int (nI a), .int (nI wi)] w1
    refine j_icmp_ge (tgt := 424) C dL_law_200 (by decide) (fun h2 => ?_) (fun h2 => ?_)
    · skip
      refine j_pick (L' := [(0, .ref b), (1, .ref x0), (2, .int (nI N)), (3, .int (nI t))]) [0, 1, 2, 3] rfl ?_
      exact k424 w1 hc
    · skip
      exact kk w1 hc (Or.inr (Or.inr (Or.inl ⟨e1, hk2, by omega, a, ha, ha6, Nat.lt_of_not_le (fun z => h2 ((nI_leI (by omega) (by omega)).mpr z))⟩)))
set_option maxHeartbeats 4000000 in
theorem l_change {t i ch k n9 wi : Nat} {xr v7 : Int32} (C : jC p s m args meth c code wsL_law RL 16 A g) (K : jSc s b Ln xs A) (hR : 11 ≤ R.frames ∧ 420 ≤ R.locals) (hf : cells + 2 ≤ R.cells ∧ slots + 226 ≤ R.slots) (hi : i < N) (hN10 : N < 10) (hok : jMok N pn pf len) (hc : jCW g x0 N pn pf len row vv lk w) (ha : qArgs (pn i) (pf i) ch k wi) (k424 : ∀ w', jCW g x0 N pn pf len row vv lk w' → jJ p l e R s m args below meth c Q A g (va_S A s.heap) 16 cells slots 424 [(0, .ref b), (1, .ref x0), (2, .int (nI N)), (3, .int (nI t))] [] w') (kk : ∀ (n' : Nat) (f' : Nat → Int32) (w' : va_W), jOk n' f' → (∀ d, (ch = 2 → d = wi) → qSame (pn i) (pf i) n' f' d) → (ch = 5 → ∀ d v m, jCo false (jKx (pn i) (pf i) d v) m 0 0 = jCo false (jKx n' f' d v) m 0 0) → jCW g x0 (N + 1) (up1 pn N n') (up1 pf N f') len row vv lk w' → jJ p l e R s m args below meth c Q A g (va_S A s.heap) 16 (cells + 2) (slots + 226) 239 [(0, .ref b), (1, .ref x0), (2, .int (nI N)), (3, .int (nI t)), (4, .int xr), (5, .int (nI i)), (6, .int (nI ch)), (7, .int v7), (8, .int (nI k)), (9, .int (nI n9)), (10, .int (nI wi))] [] w') : jJ p l e R s m args below meth c Q A g (va_S A s.heap) 16 cells slots 203 [(0, .ref b), (1, .ref x0), (2, .int (nI N)), (3, .int (nI t)), (4, .int xr), (5, .int (nI i)), (6, .int (nI ch)), (7, .int v7), (8, .int (nI k)), (9, .int (nI n9)), (10, .int (nI wi))] [] w := by
  obtain ⟨rz, q1, q2⟩ := q_rc (l := l) (g := g) (x0 := x0) (row := row) (vv := vv) (lk := lk) hok hi ha
  refine j_aload_n 1 C dL_law_203 rfl rfl ?_
  refine j_iload 5 C dL_law_204 rfl ?_
  refine j_iload 6 C dL_law_206 rfl ?_
  refine j_iload 8 C dL_law_208 rfl ?_
  refine j_iload 10 C dL_law_210 rfl ?_
  refine j_oV (Fx := []) (V := w) (As := [.int (nI i), .int (nI ch), .int (nI k), .int (nI wi)]) (rest := []) (n := 3) (T := TX4) (N := 8) C (q1 w hc) gL_law_X4_reason rfl hl_reason ⟨by show 9 + 1 ≤ R.frames; omega, by show 8 + (6 + 11) + 223 ≤ R.locals; omega⟩ (List.Perm.refl _) (jCW_x0 hc) rfl dL_law_212 rfl (Nat.le_of_ble_eq_true rfl) ⟨by show cells + 0 ≤ R.cells; omega, by show slots + 0 ≤ R.slots; omega⟩ rfl (fun w1 hc => ?_)
  show jJ p l e R s m args below meth c Q A g (va_S A s.heap) 16 cells slots 215 [(0, .ref b), (1, .ref x0), (2, .int (nI N)), (3, .int (nI t)), (4, .int xr), (5, .int (nI i)), (6, .int (nI ch)), (7, .int v7), (8, .int (nI k)), (9, .int (nI n9)), (10, .int (nI wi))] [.int rz] w1
  refine j_if_eq (tgt := 221) C dL_law_215 (by decide) (fun h1 => ?_) (fun h1 => ?_)
  · skip
    obtain ⟨n', f', a1, a2, a3, a4⟩ := q2 h1 hN10
    refine j_aload_n 1 C dL_law_221 rfl rfl ?_
    refine j_iload 5 C dL_law_222 rfl ?_
    refine j_iload 6 C dL_law_224 rfl ?_
    refine j_iload 8 C dL_law_226 rfl ?_
    refine j_iload 10 C dL_law_228 rfl ?_
    refine j_oV (Fx := []) (V := w1) (As := [.int (nI i), .int (nI ch), .int (nI k), .int (nI wi)]) (rest := []) (n := 3) (T := TX4) (N := 8) C (a4 w1 hc) gL_law_X4_change rfl hl_change ⟨by show 9 + 1 ≤ R.frames; omega, by show 8 + (7 + 11) + 223 ≤ R.locals; omega⟩ (List.Perm.refl _) (jCW_x0 hc) rfl dL_law_230 rfl (Nat.le_of_ble_eq_true rfl) ⟨by show cells + 2 ≤ R.cells; omega, by show slots + 226 ≤ R.slots; omega⟩ rfl (fun w2 hc => ?_)
    show jJ p l e R s m args below meth c Q A g (va_S A s.heap) 16 (cells + 2) (slots + 226) 233 [(0, .ref b), (1, .ref x0), (2, .int (nI N)), (3, .int (nI t)), (4, .int xr), (5, .int (nI i)), (6, .int (nI ch)), (7, .int v7), (8, .int (nI k)), (9, .int (nI n9)), (10, .int (nI wi))] [.int (nI N)] w2
    refine j_iload_n 2 C dL_law_233 rfl rfl ?_
    refine j_icmp_eq (tgt := 239) C dL_law_234 (by decide) (fun h2 => ?_) (fun h2 => ?_)
    · skip
      exact kk n' f' w2 a1 a2 a3 hc
    · skip
      exact absurd rfl h2
  · skip
    refine j_goto (tgt := 424) C dL_law_218 (by decide) ?_
    refine j_pick (L' := [(0, .ref b), (1, .ref x0), (2, .int (nI N)), (3, .int (nI t))]) [0, 1, 2, 3] rfl ?_
    exact k424 w1 hc
set_option maxHeartbeats 8000000 in
theorem l_case {t i j2 ch k n9 wi : Nat} {xr v7 : Int32} {d : Nat} (C : jC p s m args meth c code wsL_law RL 16 A g) (K : jSc s b Ln xs A) (hR : 11 ≤ R.frames ∧ 420 ≤ R.locals) (hf : cells ≤ R.cells ∧ slots ≤ R.slots) (hi : i < N) (hj2 : j2 < N) (hne : j2 ≠ i) (hch : ch < 6) (hok : jMok N pn pf len) (hc : jCW g x0 N pn pf len row vv lk w) (hS : ∀ d, (ch = 2 → d = n9) → qSame (pn i) (pf i) (pn j2) (pf j2) d) (h5 : ch = 5 → ∀ d v m, jCo false (jKx (pn i) (pf i) d v) m 0 0 = jCo false (jKx (pn j2) (pf j2) d v) m 0 0) (hd : d < 5) (hd2 : ch = 2 → d = n9) (kk : ∀ w', jCW g x0 N pn pf len row vv lk w' → jJ p l e R s m args below meth c Q A g (va_S A s.heap) 16 cells slots 415 [(0, .ref b), (1, .ref x0), (2, .int (nI j2)), (3, .int (nI t)), (4, .int xr), (5, .int (nI i)), (6, .int (nI ch)), (7, .int v7), (8, .int (nI k)), (9, .int (nI n9)), (10, .int (nI wi)), (11, .int (nI d))] [] w') : jJ p l e R s m args below meth c Q A g (va_S A s.heap) 16 cells slots 264 [(0, .ref b), (1, .ref x0), (2, .int (nI j2)), (3, .int (nI t)), (4, .int xr), (5, .int (nI i)), (6, .int (nI ch)), (7, .int v7), (8, .int (nI k)), (9, .int (nI n9)), (10, .int (nI wi)), (11, .int (nI d))] [] w := by
  have hp2 : 2 ^ d ≤ 1024 := by rcases (show d = 0 ∨ d = 1 ∨ d = 2 ∨ d = 3 ∨ d = 4 by omega) with z | z | z | z | z <;> subst z <;> decide
  have at315 : ∀ w1, jCW g x0 N pn pf len row vv lk w1 → jJ p l e R s m args below meth c Q A g (va_S A s.heap) 16 cells slots 315 [(0, .ref b), (1, .ref x0), (2, .int (nI j2)), (3, .int (nI t)), (4, .int xr), (5, .int (nI i)), (6, .int (nI ch)), (7, .int v7), (8, .int (nI k)), (9, .int (nI n9)), (10, .int (nI wi)), (11, .int (nI d)), (12, .int 0)] [] w1 := fun w1 hc => by
    obtain ⟨q, hq⟩ : ∃ q : Nat, q = jDf (jCx (pn i) (pf i) d 2) (2 ^ d) 0 0 := ⟨_, rfl⟩
    have hqle : q ≤ 2 ^ d := by have := (jDf_ge (S := jCx (pn i) (pf i) d 2) (2 ^ d) 0 0).2; omega
    have hp16 : 2 ^ d ≤ 16 := by rcases (show d = 0 ∨ d = 1 ∨ d = 2 ∨ d = 3 ∨ d = 4 by omega) with z | z | z | z | z <;> subst z <;> decide
    have hq17 : q < 17 := by omega
    obtain ⟨hcmp1, hcmp2⟩ := qDcm ⟨d, by omega⟩ ⟨q, hq17⟩ hqle
    dsimp only at hcmp1 hcmp2
    have e1 : ∀ W, jCW g x0 N pn pf len row vv lk W → jO l yX4_exits wsX4_exits ({ frames := 6, cells := 0, slots := 0, locals := 148 } : Room) g [.ref x0, .int (nI i), .int (nI d), .int (nI 2)] W (jOd (FP.ddiv (FP.i2d (nI q)) (FP.i2d (nI (2 ^ d))))) (jCW g x0 N pn pf len row vv lk) := fun W hW => by
      rw [hq]
      exact q_exits hok hW hi (by omega) (by decide) (by decide) hp2
    have e2 : ∀ W, jCW g x0 N pn pf len row vv lk W → jO l yX4_exits wsX4_exits ({ frames := 6, cells := 0, slots := 0, locals := 148 } : Room) g [.ref x0, .int (nI j2), .int (nI d), .int (nI 2)] W (jOd (FP.ddiv (FP.i2d (nI q)) (FP.i2d (nI (2 ^ d))))) (jCW g x0 N pn pf len row vv lk) := fun W hW => by
      rw [hq, qCx (hS d hd2)]
      exact q_exits hok hW hj2 (by omega) (by decide) (by decide) hp2
    obtain ⟨c1, hc1⟩ : ∃ c1 : Int32, c1 = jCo false (jKx (pn i) (pf i) d 2) (2 ^ d) 0 0 := ⟨_, rfl⟩
    obtain ⟨c2, hc2⟩ : ∃ c2 : Int32, c2 = jCo false (jKx (pn j2) (pf j2) d 2) (2 ^ d) 0 0 := ⟨_, rfl⟩
    have o1 : ∀ W, jCW g x0 N pn pf len row vv lk W → jO l yX4_cost wsX4_cost ({ frames := 6, cells := 0, slots := 0, locals := 148 } : Room) g [.ref x0, .int (nI i), .int (nI d), .int (nI 2), .int (jb false)] W (jOi c1) (jCW g x0 N pn pf len row vv lk) := fun W hW => by
      rw [hc1]
      exact q_cost_false hok hW hi (by omega) (by decide) (by decide) hp2
    have o2 : ∀ W, jCW g x0 N pn pf len row vv lk W → jO l yX4_cost wsX4_cost ({ frames := 6, cells := 0, slots := 0, locals := 148 } : Room) g [.ref x0, .int (nI j2), .int (nI d), .int (nI 2), .int (jb false)] W (jOi c2) (jCW g x0 N pn pf len row vv lk) := fun W hW => by
      rw [hc2]
      exact q_cost_false hok hW hj2 (by omega) (by decide) (by decide) hp2
    refine j_aload_n 1 C dL_law_315 rfl rfl ?_
    refine j_iload 5 C dL_law_316 rfl ?_
    refine j_iload 11 C dL_law_318 rfl ?_
    refine j_iconst (v := 2) C dL_law_320 rfl ?_
    refine j_oV (Fx := []) (V := w1) (As := [.int (nI i), .int (nI d), .int 2]) (rest := []) (n := 3) (T := TX4) (N := 8) C (e1 w1 hc) gL_law_X4_exits rfl hl_exits ⟨by show 6 + 1 ≤ R.frames; omega, by show 8 + (8 + 11) + 148 ≤ R.locals; omega⟩ (List.Perm.refl _) (jCW_x0 hc) rfl dL_law_321 rfl (Nat.le_of_ble_eq_true rfl) ⟨by show cells + 0 ≤ R.cells; omega, by show slots + 0 ≤ R.slots; omega⟩ rfl (fun w2 hc => ?_)
    show jJ p l e R s m args below meth c Q A g (va_S A s.heap) 16 cells slots 324 [(0, .ref b), (1, .ref x0), (2, .int (nI j2)), (3, .int (nI t)), (4, .int xr), (5, .int (nI i)), (6, .int (nI ch)), (7, .int v7), (8, .int (nI k)), (9, .int (nI n9)), (10, .int (nI wi)), (11, .int (nI d)), (12, .int 0)] [.double (FP.ddiv (FP.i2d (nI q)) (FP.i2d (nI (2 ^ d))))] w2
    refine j_aload_n 1 C dL_law_324 rfl rfl ?_
    refine j_iload_n 2 C dL_law_325 rfl rfl ?_
    refine j_iload 11 C dL_law_326 rfl ?_
    refine j_iconst (v := 2) C dL_law_328 rfl ?_
    refine j_oV (Fx := []) (V := w2) (As := [.int (nI j2), .int (nI d), .int 2]) (rest := [.double (FP.ddiv (FP.i2d (nI q)) (FP.i2d (nI (2 ^ d))))]) (n := 3) (T := TX4) (N := 8) C (e2 w2 hc) gL_law_X4_exits rfl hl_exits ⟨by show 6 + 1 ≤ R.frames; omega, by show 8 + (8 + 11) + 148 ≤ R.locals; omega⟩ (List.Perm.refl _) (jCW_x0 hc) rfl dL_law_329 rfl (Nat.le_of_ble_eq_true rfl) ⟨by show cells + 0 ≤ R.cells; omega, by show slots + 0 ≤ R.slots; omega⟩ rfl (fun w3 hc => ?_)
    show jJ p l e R s m args below meth c Q A g (va_S A s.heap) 16 cells slots 332 [(0, .ref b), (1, .ref x0), (2, .int (nI j2)), (3, .int (nI t)), (4, .int xr), (5, .int (nI i)), (6, .int (nI ch)), (7, .int v7), (8, .int (nI k)), (9, .int (nI n9)), (10, .int (nI wi)), (11, .int (nI d)), (12, .int 0)] [.double (FP.ddiv (FP.i2d (nI q)) (FP.i2d (nI (2 ^ d)))), .double (FP.ddiv (FP.i2d (nI q)) (FP.i2d (nI (2 ^ d))))] w3
    refine j_dcmp C dL_law_332 ?_
    refine j_if_eq (tgt := 338) C dL_law_333 (by decide) (fun hz => ?_) (fun hz => ?_)
    · skip
      refine j_aload_n 1 C dL_law_338 rfl rfl ?_
      refine j_iload 5 C dL_law_339 rfl ?_
      refine j_iload 11 C dL_law_341 rfl ?_
      refine j_iconst (v := 2) C dL_law_343 rfl ?_
      refine j_iconst (v := 0) C dL_law_344 rfl ?_
      refine j_oV (Fx := []) (V := w3) (As := [.int (nI i), .int (nI d), .int 2, .int (jb false)]) (rest := []) (n := 3) (T := TX4) (N := 8) C (o1 w3 hc) gL_law_X4_cost rfl hl_cost ⟨by show 6 + 1 ≤ R.frames; omega, by show 8 + (11 + 11) + 148 ≤ R.locals; omega⟩ (List.Perm.refl _) (jCW_x0 hc) rfl dL_law_345 rfl (Nat.le_of_ble_eq_true rfl) ⟨by show cells + 0 ≤ R.cells; omega, by show slots + 0 ≤ R.slots; omega⟩ rfl (fun w4 hc => ?_)
      show jJ p l e R s m args below meth c Q A g (va_S A s.heap) 16 cells slots 348 [(0, .ref b), (1, .ref x0), (2, .int (nI j2)), (3, .int (nI t)), (4, .int xr), (5, .int (nI i)), (6, .int (nI ch)), (7, .int v7), (8, .int (nI k)), (9, .int (nI n9)), (10, .int (nI wi)), (11, .int (nI d)), (12, .int 0)] [.int c1] w4
      refine j_istore (L' := [(0, .ref b), (1, .ref x0), (2, .int (nI j2)), (3, .int (nI t)), (4, .int xr), (5, .int (nI i)), (6, .int (nI ch)), (7, .int v7), (8, .int (nI k)), (9, .int (nI n9)), (10, .int (nI wi)), (11, .int (nI d)), (12, .int 0), (13, .int c1)]) C dL_law_348 (Nat.le_of_ble_eq_true rfl) rfl rfl ?_
      refine j_aload_n 1 C dL_law_350 rfl rfl ?_
      refine j_iload_n 2 C dL_law_351 rfl rfl ?_
      refine j_iload 11 C dL_law_352 rfl ?_
      refine j_iconst (v := 2) C dL_law_354 rfl ?_
      refine j_iconst (v := 0) C dL_law_355 rfl ?_
      refine j_oV (Fx := []) (V := w4) (As := [.int (nI j2), .int (nI d), .int 2, .int (jb false)]) (rest := []) (n := 3) (T := TX4) (N := 8) C (o2 w4 hc) gL_law_X4_cost rfl hl_cost ⟨by show 6 + 1 ≤ R.frames; omega, by show 8 + (11 + 11) + 148 ≤ R.locals; omega⟩ (List.Perm.refl _) (jCW_x0 hc) rfl dL_law_356 rfl (Nat.le_of_ble_eq_true rfl) ⟨by show cells + 0 ≤ R.cells; omega, by show slots + 0 ≤ R.slots; omega⟩ rfl (fun w5 hc => ?_)
      show jJ p l e R s m args below meth c Q A g (va_S A s.heap) 16 cells slots 359 [(0, .ref b), (1, .ref x0), (2, .int (nI j2)), (3, .int (nI t)), (4, .int xr), (5, .int (nI i)), (6, .int (nI ch)), (7, .int v7), (8, .int (nI k)), (9, .int (nI n9)), (10, .int (nI wi)), (11, .int (nI d)), (12, .int 0), (13, .int c1)] [.int c2] w5
      refine j_istore (L' := [(0, .ref b), (1, .ref x0), (2, .int (nI j2)), (3, .int (nI t)), (4, .int xr), (5, .int (nI i)), (6, .int (nI ch)), (7, .int v7), (8, .int (nI k)), (9, .int (nI n9)), (10, .int (nI wi)), (11, .int (nI d)), (12, .int 0), (13, .int c1), (14, .int c2)]) C dL_law_359 (Nat.le_of_ble_eq_true rfl) rfl rfl ?_
      refine j_aload_n 1 C dL_law_361 rfl rfl ?_
      refine j_iload 5 C dL_law_362 rfl ?_
      refine j_iload 11 C dL_law_364 rfl ?_
      refine j_iconst (v := 2) C dL_law_366 rfl ?_
      refine j_oV (Fx := []) (V := w5) (As := [.int (nI i), .int (nI d), .int 2]) (rest := []) (n := 3) (T := TX4) (N := 8) C (e1 w5 hc) gL_law_X4_exits rfl hl_exits ⟨by show 6 + 1 ≤ R.frames; omega, by show 8 + (8 + 11) + 148 ≤ R.locals; omega⟩ (List.Perm.refl _) (jCW_x0 hc) rfl dL_law_367 rfl (Nat.le_of_ble_eq_true rfl) ⟨by show cells + 0 ≤ R.cells; omega, by show slots + 0 ≤ R.slots; omega⟩ rfl (fun w6 hc => ?_)
      show jJ p l e R s m args below meth c Q A g (va_S A s.heap) 16 cells slots 370 [(0, .ref b), (1, .ref x0), (2, .int (nI j2)), (3, .int (nI t)), (4, .int xr), (5, .int (nI i)), (6, .int (nI ch)), (7, .int v7), (8, .int (nI k)), (9, .int (nI n9)), (10, .int (nI wi)), (11, .int (nI d)), (12, .int 0), (13, .int c1), (14, .int c2)] [.double (FP.ddiv (FP.i2d (nI q)) (FP.i2d (nI (2 ^ d))))] w6
      refine j_dconst0 C dL_law_370 ?_
      refine j_dcmp C dL_law_371 ?_
      have at380 : ∀ v : Int32, (v = 0 → c1 = c2) → jJ p l e R s m args below meth c Q A g (va_S A s.heap) 16 cells slots 380 [(0, .ref b), (1, .ref x0), (2, .int (nI j2)), (3, .int (nI t)), (4, .int xr), (5, .int (nI i)), (6, .int (nI ch)), (7, .int v7), (8, .int (nI k)), (9, .int (nI n9)), (10, .int (nI wi)), (11, .int (nI d)), (12, .int 0), (13, .int c1), (14, .int c2)] [.int v] w6 := fun v hv => by
        refine j_istore (L' := [(0, .ref b), (1, .ref x0), (2, .int (nI j2)), (3, .int (nI t)), (4, .int xr), (5, .int (nI i)), (6, .int (nI ch)), (7, .int v7), (8, .int (nI k)), (9, .int (nI n9)), (10, .int (nI wi)), (11, .int (nI d)), (12, .int 0), (13, .int c1), (14, .int c2), (15, .int v)]) C dL_law_380 (Nat.le_of_ble_eq_true rfl) rfl rfl ?_
        refine j_iload 6 C dL_law_382 rfl ?_
        refine j_iconst (v := 5) C dL_law_384 rfl ?_
        refine j_icmp_ne (tgt := 395) C dL_law_385 (by decide) (fun hch5 => ?_) (fun hch5 => ?_)
        · skip
          refine j_iload 6 C dL_law_395 rfl ?_
          refine j_iconst (v := 5) C dL_law_397 rfl ?_
          refine j_icmp_ge (tgt := 415) C dL_law_398 (by decide) (fun hge => ?_) (fun hge => ?_)
          · skip
            refine j_pick (L' := [(0, .ref b), (1, .ref x0), (2, .int (nI j2)), (3, .int (nI t)), (4, .int xr), (5, .int (nI i)), (6, .int (nI ch)), (7, .int v7), (8, .int (nI k)), (9, .int (nI n9)), (10, .int (nI wi)), (11, .int (nI d))]) [0, 1, 2, 3, 4, 5, 6, 7, 8, 9, 10, 11] rfl ?_
            exact kk w6 hc
          · skip
            refine j_iload 15 C dL_law_401 rfl ?_
            refine j_if_ne (tgt := 415) C dL_law_403 (by decide) (fun hl => ?_) (fun hl => ?_)
            · skip
              refine j_pick (L' := [(0, .ref b), (1, .ref x0), (2, .int (nI j2)), (3, .int (nI t)), (4, .int xr), (5, .int (nI i)), (6, .int (nI ch)), (7, .int v7), (8, .int (nI k)), (9, .int (nI n9)), (10, .int (nI wi)), (11, .int (nI d))]) [0, 1, 2, 3, 4, 5, 6, 7, 8, 9, 10, 11] rfl ?_
              exact kk w6 hc
            · skip
              refine j_iload 14 C dL_law_406 rfl ?_
              refine j_iload 13 C dL_law_408 rfl ?_
              refine j_icmp_eq (tgt := 415) C dL_law_410 (by decide) (fun he => ?_) (fun he => ?_)
              · skip
                refine j_pick (L' := [(0, .ref b), (1, .ref x0), (2, .int (nI j2)), (3, .int (nI t)), (4, .int xr), (5, .int (nI i)), (6, .int (nI ch)), (7, .int v7), (8, .int (nI k)), (9, .int (nI n9)), (10, .int (nI wi)), (11, .int (nI d))]) [0, 1, 2, 3, 4, 5, 6, 7, 8, 9, 10, 11] rfl ?_
                exact kk w6 hc
              · skip
                exact absurd (hv hl).symm he
        · skip
          have e5 : ch = 5 := (nI_eq (by omega) (by decide)).mp hch5
          have ec : c1 = c2 := by rw [hc1, hc2]; exact h5 e5 d 2 (2 ^ d)
          refine j_iload 14 C dL_law_388 rfl ?_
          refine j_iload 13 C dL_law_390 rfl ?_
          refine j_icmp_gt (tgt := 413) C dL_law_392 (by decide) (fun hgt => ?_) (fun hgt => ?_)
          · skip
            rw [ec] at hgt
            exact (Int32.lt_irrefl hgt).elim
          · skip
            refine j_iload 6 C dL_law_395 rfl ?_
            refine j_iconst (v := 5) C dL_law_397 rfl ?_
            refine j_icmp_ge (tgt := 415) C dL_law_398 (by decide) (fun hge => ?_) (fun hge => ?_)
            · skip
              refine j_pick (L' := [(0, .ref b), (1, .ref x0), (2, .int (nI j2)), (3, .int (nI t)), (4, .int xr), (5, .int (nI i)), (6, .int (nI ch)), (7, .int v7), (8, .int (nI k)), (9, .int (nI n9)), (10, .int (nI wi)), (11, .int (nI d))]) [0, 1, 2, 3, 4, 5, 6, 7, 8, 9, 10, 11] rfl ?_
              exact kk w6 hc
            · skip
              refine j_iload 15 C dL_law_401 rfl ?_
              refine j_if_ne (tgt := 415) C dL_law_403 (by decide) (fun hl => ?_) (fun hl => ?_)
              · skip
                refine j_pick (L' := [(0, .ref b), (1, .ref x0), (2, .int (nI j2)), (3, .int (nI t)), (4, .int xr), (5, .int (nI i)), (6, .int (nI ch)), (7, .int v7), (8, .int (nI k)), (9, .int (nI n9)), (10, .int (nI wi)), (11, .int (nI d))]) [0, 1, 2, 3, 4, 5, 6, 7, 8, 9, 10, 11] rfl ?_
                exact kk w6 hc
              · skip
                refine j_iload 14 C dL_law_406 rfl ?_
                refine j_iload 13 C dL_law_408 rfl ?_
                refine j_icmp_eq (tgt := 415) C dL_law_410 (by decide) (fun he => ?_) (fun he => ?_)
                · skip
                  refine j_pick (L' := [(0, .ref b), (1, .ref x0), (2, .int (nI j2)), (3, .int (nI t)), (4, .int xr), (5, .int (nI i)), (6, .int (nI ch)), (7, .int v7), (8, .int (nI k)), (9, .int (nI n9)), (10, .int (nI wi)), (11, .int (nI d))]) [0, 1, 2, 3, 4, 5, 6, 7, 8, 9, 10, 11] rfl ?_
                  exact kk w6 hc
                · skip
                  exact absurd (hv hl).symm he
      refine j_if_le (tgt := 379) C dL_law_372 (by decide) (fun hle => ?_) (fun hle => ?_)
      · skip
        refine j_iconst (v := 0) C dL_law_379 rfl ?_
        refine at380 0 (fun _ => ?_)
        have q0 : q = 0 := Nat.eq_zero_of_not_pos (fun z => hcmp2 z hle)
        rw [hc1, hc2]
        exact qCost (hS d hd2) (by rw [← hq, q0]) false
      · skip
        refine j_iconst (v := 1) C dL_law_375 rfl ?_
        refine j_goto (tgt := 380) C dL_law_376 (by decide) ?_
        exact at380 1 (fun z => absurd z (by decide))
    · skip
      exact absurd hcmp1 hz
  have at281 : ∀ v : Nat, v ≤ 4 → 1 ≤ v → v ^ d ≤ 1024 → jJ p l e R s m args below meth c Q A g (va_S A s.heap) 16 cells slots 281 [(0, .ref b), (1, .ref x0), (2, .int (nI j2)), (3, .int (nI t)), (4, .int xr), (5, .int (nI i)), (6, .int (nI ch)), (7, .int v7), (8, .int (nI k)), (9, .int (nI n9)), (10, .int (nI wi)), (11, .int (nI d))] [.int (nI v), .int (nI d), .int (nI j2), .int (nI i), .ref x0] w := fun v hv hv1 hp => by
    have hq := q_differ (l := l) hok hc hi hj2 hne (d := d) (v := v) (by omega) hv hv1 hp
    rw [jDf_0 (qSm (hS d hd2))] at hq
    refine j_oV (Fx := []) (V := w) (As := [.int (nI i), .int (nI j2), .int (nI d), .int (nI v)]) (rest := []) (n := 3) (T := TX4) (N := 8) C (hq) gL_law_X4_differ rfl hl_differ ⟨by show 7 + 1 ≤ R.frames; omega, by show 8 + (10 + 11) + 170 ≤ R.locals; omega⟩ (List.Perm.refl _) (jCW_x0 hc) rfl dL_law_281 rfl (Nat.le_of_ble_eq_true rfl) ⟨by show cells + 0 ≤ R.cells; omega, by show slots + 0 ≤ R.slots; omega⟩ rfl (fun w1 hc => ?_)
    show jJ p l e R s m args below meth c Q A g (va_S A s.heap) 16 cells slots 284 [(0, .ref b), (1, .ref x0), (2, .int (nI j2)), (3, .int (nI t)), (4, .int xr), (5, .int (nI i)), (6, .int (nI ch)), (7, .int v7), (8, .int (nI k)), (9, .int (nI n9)), (10, .int (nI wi)), (11, .int (nI d))] [.int 0] w1
    refine j_istore (L' := [(0, .ref b), (1, .ref x0), (2, .int (nI j2)), (3, .int (nI t)), (4, .int xr), (5, .int (nI i)), (6, .int (nI ch)), (7, .int v7), (8, .int (nI k)), (9, .int (nI n9)), (10, .int (nI wi)), (11, .int (nI d)), (12, .int 0)]) C dL_law_284 (Nat.le_of_ble_eq_true rfl) rfl rfl ?_
    refine j_iload 12 C dL_law_286 rfl ?_
    refine j_if_ne (tgt := 336) C dL_law_288 (by decide) (fun hz => ?_) (fun hz => ?_)
    · skip
      exact absurd rfl hz
    · skip
      have at308 : ∀ v : Nat, v ≤ 4 → 1 ≤ v → v ^ d ≤ 1024 → jJ p l e R s m args below meth c Q A g (va_S A s.heap) 16 cells slots 308 [(0, .ref b), (1, .ref x0), (2, .int (nI j2)), (3, .int (nI t)), (4, .int xr), (5, .int (nI i)), (6, .int (nI ch)), (7, .int v7), (8, .int (nI k)), (9, .int (nI n9)), (10, .int (nI wi)), (11, .int (nI d)), (12, .int 0)] [.int (nI v), .int (nI d), .int (nI j2), .int (nI i), .ref x0] w1 := fun v hv hv1 hp => by
        have hq := q_firstCase (l := l) hok hc hi hj2 hne (d := d) (v := v) (by omega) hv hv1 hp
        rw [jFc_0 (qSm (hS d hd2))] at hq
        refine j_oV (Fx := []) (V := w1) (As := [.int (nI i), .int (nI j2), .int (nI d), .int (nI v)]) (rest := []) (n := 3) (T := TX4) (N := 8) C (hq) gL_law_X4_firstCase rfl hl_firstCase ⟨by show 7 + 1 ≤ R.frames; omega, by show 8 + (9 + 11) + 170 ≤ R.locals; omega⟩ (List.Perm.refl _) (jCW_x0 hc) rfl dL_law_308 rfl (Nat.le_of_ble_eq_true rfl) ⟨by show cells + 0 ≤ R.cells; omega, by show slots + 0 ≤ R.slots; omega⟩ rfl (fun w2 hc => ?_)
        show jJ p l e R s m args below meth c Q A g (va_S A s.heap) 16 cells slots 311 [(0, .ref b), (1, .ref x0), (2, .int (nI j2)), (3, .int (nI t)), (4, .int xr), (5, .int (nI i)), (6, .int (nI ch)), (7, .int v7), (8, .int (nI k)), (9, .int (nI n9)), (10, .int (nI wi)), (11, .int (nI d)), (12, .int 0)] [.int (-1)] w2
        refine j_iconst (v := (-1)) C dL_law_311 (by decide) ?_
        refine j_icmp_ne (tgt := 336) C dL_law_312 (by decide) (fun hz => ?_) (fun hz => ?_)
        · skip
          exact absurd rfl hz
        · skip
          exact at315 w2 hc
      refine j_aload_n 1 C dL_law_291 rfl rfl ?_
      refine j_iload 5 C dL_law_292 rfl ?_
      refine j_iload_n 2 C dL_law_294 rfl rfl ?_
      refine j_iload 11 C dL_law_295 rfl ?_
      refine j_iload 11 C dL_law_297 rfl ?_
      refine j_iconst (v := 4) C dL_law_299 rfl ?_
      refine j_icmp_ge (tgt := 307) C dL_law_300 (by decide) (fun h4 => ?_) (fun h4 => ?_)
      · skip
        refine j_iconst (v := 3) C dL_law_307 rfl ?_
        exact at308 3 (by decide) (by decide) (by rcases (show d = 0 ∨ d = 1 ∨ d = 2 ∨ d = 3 ∨ d = 4 by omega) with z | z | z | z | z <;> subst z <;> decide)
      · skip
        have hd4 : d < 4 := Nat.lt_of_not_le (fun z => h4 ((nI_leI (by decide) (by omega)).mpr z))
        refine j_iconst (v := 4) C dL_law_303 rfl ?_
        refine j_goto (tgt := 308) C dL_law_304 (by decide) ?_
        exact at308 4 (by decide) (by decide) (by rcases (show d = 0 ∨ d = 1 ∨ d = 2 ∨ d = 3 by omega) with z | z | z | z <;> subst z <;> decide)
  refine j_aload_n 1 C dL_law_264 rfl rfl ?_
  refine j_iload 5 C dL_law_265 rfl ?_
  refine j_iload_n 2 C dL_law_267 rfl rfl ?_
  refine j_iload 11 C dL_law_268 rfl ?_
  refine j_iload 11 C dL_law_270 rfl ?_
  refine j_iconst (v := 4) C dL_law_272 rfl ?_
  refine j_icmp_ge (tgt := 280) C dL_law_273 (by decide) (fun h4 => ?_) (fun h4 => ?_)
  · skip
    refine j_iconst (v := 3) C dL_law_280 rfl ?_
    exact at281 3 (by decide) (by decide) (by rcases (show d = 0 ∨ d = 1 ∨ d = 2 ∨ d = 3 ∨ d = 4 by omega) with z | z | z | z | z <;> subst z <;> decide)
  · skip
    have hd4 : d < 4 := Nat.lt_of_not_le (fun z => h4 ((nI_leI (by decide) (by omega)).mpr z))
    refine j_iconst (v := 4) C dL_law_276 rfl ?_
    refine j_goto (tgt := 281) C dL_law_277 (by decide) ?_
    exact at281 4 (by decide) (by decide) (by rcases (show d = 0 ∨ d = 1 ∨ d = 2 ∨ d = 3 by omega) with z | z | z | z <;> subst z <;> decide)
set_option maxHeartbeats 4000000 in
theorem l_cases {t i j2 ch k n9 wi : Nat} {xr v7 : Int32} (C : jC p s m args meth c code wsL_law RL 16 A g) (K : jSc s b Ln xs A) (hR : 11 ≤ R.frames ∧ 420 ≤ R.locals) (hf : cells ≤ R.cells ∧ slots ≤ R.slots) (hi : i < N) (hj2 : j2 < N) (hne : j2 ≠ i) (hch : ch < 6) (hok : jMok N pn pf len) (hS : ∀ d, (ch = 2 → d = n9) → qSame (pn i) (pf i) (pn j2) (pf j2) d) (h5 : ch = 5 → ∀ d v m, jCo false (jKx (pn i) (pf i) d v) m 0 0 = jCo false (jKx (pn j2) (pf j2) d v) m 0 0) (hn9 : n9 ≤ 5) (kk : ∀ w', jCW g x0 N pn pf len row vv lk w' → jJ p l e R s m args below meth c Q A g (va_S A s.heap) 16 cells slots 421 [(0, .ref b), (1, .ref x0), (2, .int (nI j2)), (3, .int (nI t))] [] w') : ∀ (rr d : Nat) (w : va_W), d + rr = 5 → jCW g x0 N pn pf len row vv lk w → jJ p l e R s m args below meth c Q A g (va_S A s.heap) 16 cells slots 242 [(0, .ref b), (1, .ref x0), (2, .int (nI j2)), (3, .int (nI t)), (4, .int xr), (5, .int (nI i)), (6, .int (nI ch)), (7, .int v7), (8, .int (nI k)), (9, .int (nI n9)), (10, .int (nI wi)), (11, .int (nI d))] [] w
  | 0, d, w, hr, hc => by
    refine j_iload 11 C dL_law_242 rfl ?_
    refine j_iconst (v := 5) C dL_law_244 rfl ?_
    refine j_icmp_ge (tgt := 421) C dL_law_245 (by decide) (fun h => ?_) (fun h => ?_)
    · skip
      refine j_pick (L' := [(0, .ref b), (1, .ref x0), (2, .int (nI j2)), (3, .int (nI t))]) [0, 1, 2, 3] rfl ?_
      exact kk w hc
    · skip
      exact absurd ((nI_leI (by decide) (by omega)).mpr (show 5 ≤ d by omega)) h
  | rr + 1, d, w, hr, hc => by
    have at415 : ∀ w', jCW g x0 N pn pf len row vv lk w' → jJ p l e R s m args below meth c Q A g (va_S A s.heap) 16 cells slots 415 [(0, .ref b), (1, .ref x0), (2, .int (nI j2)), (3, .int (nI t)), (4, .int xr), (5, .int (nI i)), (6, .int (nI ch)), (7, .int v7), (8, .int (nI k)), (9, .int (nI n9)), (10, .int (nI wi)), (11, .int (nI d))] [] w' := fun w' hc' => by
      refine j_iinc (v := nI (d + 1)) (L' := [(0, .ref b), (1, .ref x0), (2, .int (nI j2)), (3, .int (nI t)), (4, .int xr), (5, .int (nI i)), (6, .int (nI ch)), (7, .int v7), (8, .int (nI k)), (9, .int (nI n9)), (10, .int (nI wi)), (11, .int (nI (d + 1)))]) 11 C dL_law_415 rfl (nI_add d 1) (Nat.le_of_ble_eq_true rfl) rfl rfl ?_
      refine j_goto (tgt := 242) C dL_law_418 (by decide) ?_
      exact l_cases C K hR hf hi hj2 hne hch hok hS h5 hn9 kk rr (d + 1) w' (by omega) hc'
    refine j_iload 11 C dL_law_242 rfl ?_
    refine j_iconst (v := 5) C dL_law_244 rfl ?_
    refine j_icmp_ge (tgt := 421) C dL_law_245 (by decide) (fun h => ?_) (fun h => ?_)
    · skip
      exact absurd ((nI_leI (a := 5) (by decide) (by omega)).mp h) (by omega)
    · skip
      refine j_iload 6 C dL_law_248 rfl ?_
      refine j_iconst (v := 2) C dL_law_250 rfl ?_
      refine j_icmp_ne (tgt := 264) C dL_law_251 (by decide) (fun h2 => ?_) (fun h2 => ?_)
      · skip
        exact l_case C K hR hf hi hj2 hne hch hok hc hS h5 (by omega) (fun z => absurd (by rw [z]; rfl) h2) at415
      · skip
        refine j_iload 11 C dL_law_254 rfl ?_
        refine j_iload 9 C dL_law_256 rfl ?_
        refine j_icmp_eq (tgt := 264) C dL_law_258 (by decide) (fun h3 => ?_) (fun h3 => ?_)
        · skip
          exact l_case C K hR hf hi hj2 hne hch hok hc hS h5 (by omega) (fun _ => (nI_eq (by omega) (by omega)).mp h3) at415
        · skip
          refine j_goto (tgt := 415) C dL_law_261 (by decide) ?_
          exact at415 w hc
set_option maxHeartbeats 4000000 in
theorem l_turn {t : Nat} (C : jC p s m args meth c code wsL_law RL 16 A g) (K : jSc s b Ln xs A) (hR : 11 ≤ R.frames ∧ 420 ≤ R.locals) (hLn : Ln < 2 ^ 30) (hf : cells + 2 ≤ R.cells ∧ slots + 226 ≤ R.slots) (ht : t < 1000) (hN1 : 1 ≤ N) (hN10 : N < 10) (hok : jMok N pn pf len) (hc : jCW g x0 N pn pf len row vv lk w) (kk : ∀ (N9 : Nat) (pn9 : Nat → Nat) (pf9 : Nat → Nat → Int32) (w' : va_W), 1 ≤ N9 → N9 ≤ 10 → jMok N9 pn9 pf9 len → jCW g x0 N9 pn9 pf9 len row vv lk w' → jJ p l e R s m args below meth c Q A g (va_S A s.heap) 16 (cells + 2) (slots + 226) 424 [(0, .ref b), (1, .ref x0), (2, .int (nI N9)), (3, .int (nI t))] [] w') : jJ p l e R s m args below meth c Q A g (va_S A s.heap) 16 cells slots 36 [(0, .ref b), (1, .ref x0), (2, .int (nI N)), (3, .int (nI t))] [] w := by
  have k424 : ∀ w', jCW g x0 N pn pf len row vv lk w' → jJ p l e R s m args below meth c Q A g (va_S A s.heap) 16 cells slots 424 [(0, .ref b), (1, .ref x0), (2, .int (nI N)), (3, .int (nI t))] [] w' := fun w' hc' => j_widen (by omega) (by omega) (kk N pn pf w' hN1 (by omega) hok hc')
  refine l_take C K hR hLn ⟨by omega, by omega⟩ ht hN1 (by omega) (fun xr i ch hi hch => ?_)
  refine l_room C K hR ⟨by omega, by omega⟩ hi hch hok hc k424 (fun v7 w1 hc1 hrm => ?_)
  refine l_k (pn := pn) C K hR ⟨by omega, by omega⟩ hch hrm (fun k hk => ?_)
  refine l_with C K hR ⟨by omega, by omega⟩ hch (fun n9 wi h1 h5 hwi => ?_)
  refine l_args C K hR ⟨by omega, by omega⟩ hi hch hok hc1 hk ⟨h1, h5⟩ hwi k424 (fun w2 hc2 ha => ?_)
  refine l_change C K hR hf hi hN10 hok hc2 ha k424 (fun n' f' w3 hok' hS hz hc3 => ?_)
  refine j_iconst (v := 0) C dL_law_239 rfl ?_
  refine j_istore (L' := [(0, .ref b), (1, .ref x0), (2, .int (nI N)), (3, .int (nI t)), (4, .int xr), (5, .int (nI i)), (6, .int (nI ch)), (7, .int v7), (8, .int (nI k)), (9, .int (nI n9)), (10, .int (nI wi)), (11, .int 0)]) C dL_law_240 (Nat.le_of_ble_eq_true rfl) rfl rfl ?_
  have hni : N ≠ i := by omega
  have e1 : up1 pn N n' i = pn i := up1_ne (by omega)
  have e2 : up1 pf N f' i = pf i := up1_ne (by omega)
  have e3 : up1 pn N n' N = n' := up1_eq
  have e4 : up1 pf N f' N = f' := up1_eq
  refine l_cases (N := N + 1) (pn := up1 pn N n') (pf := up1 pf N f') (j2 := N) (i := i) C K hR hf (by omega) (by omega) hni hch (jMok_g hok hN10 hok') (fun d hd => ?_) (fun z d v m => ?_) h5 (fun w4 hc4 => ?_) 5 0 w3 rfl hc3
  · rw [e1, e2, e3, e4]; exact hS d (fun z => (hd z).trans (by rcases hwi with y | y | y <;> omega))
  · rw [e1, e2, e3, e4]; exact hz z d v m
  · skip
    refine j_iinc (v := nI (N + 1)) (L' := [(0, .ref b), (1, .ref x0), (2, .int (nI (N + 1))), (3, .int (nI t))]) 2 C dL_law_421 rfl (nI_add N 1) (Nat.le_of_ble_eq_true rfl) rfl rfl ?_
    exact kk (N + 1) _ _ w4 (by omega) (by omega) (jMok_g hok hN10 hok') hc4
set_option maxHeartbeats 4000000 in
theorem l_end (C : jC p s m args meth c code wsL_law RL 16 A g) (K : jSc s b Ln xs A) (hR : 11 ≤ R.frames ∧ 420 ≤ R.locals) (hf : cells ≤ R.cells ∧ slots ≤ R.slots) (hok : jMok N pn pf len) (kk : ∀ (L : List (Nat × Value)) (w' : va_W), jJ p l e R s m args below meth c Q A g (va_S A s.heap) 16 cells slots 480 L [.int 1] w') : ∀ (rr k : Nat) (w : va_W), k + rr = N → jCW g x0 N pn pf len row vv lk w → jJ p l e R s m args below meth c Q A g (va_S A s.heap) 16 cells slots 432 [(0, .ref b), (1, .ref x0), (2, .int (nI N)), (3, .int (nI k))] [] w
  | 0, k, w, hr, hc => by
    have hN := hok.1
    refine j_iload_n 3 C dL_law_432 rfl rfl ?_
    refine j_iload_n 2 C dL_law_433 rfl rfl ?_
    refine j_icmp_ge (tgt := 467) C dL_law_434 (by decide) (fun h => ?_) (fun h => ?_)
    · skip
      refine j_aload_n 1 C dL_law_467 rfl rfl ?_
      have hq := q_programs (l := l) hok hc
      refine j_oV (Fx := []) (V := w) (As := []) (rest := []) (n := 3) (T := TX4) (N := 8) C (hq) gL_law_X4_programs rfl hl_programs ⟨by show 0 + 1 ≤ R.frames; omega, by show 8 + (1 + 11) + 0 ≤ R.locals; omega⟩ (List.Perm.refl _) (jCW_x0 hc) rfl dL_law_468 rfl (Nat.le_of_ble_eq_true rfl) ⟨by show cells + 0 ≤ R.cells; omega, by show slots + 0 ≤ R.slots; omega⟩ rfl (fun w1 hc => ?_)
      show jJ p l e R s m args below meth c Q A g (va_S A s.heap) 16 cells slots 471 [(0, .ref b), (1, .ref x0), (2, .int (nI N)), (3, .int (nI k))] [.int (nI N)] w1
      refine j_iload_n 2 C dL_law_471 rfl rfl ?_
      refine j_icmp_ne (tgt := 479) C dL_law_472 (by decide) (fun h2 => ?_) (fun h2 => ?_)
      · skip
        exact absurd rfl h2
      · skip
        refine j_iconst (v := 1) C dL_law_475 rfl ?_
        refine j_goto (tgt := 480) C dL_law_476 (by decide) ?_
        exact kk _ w1
    · skip
      exact absurd ((nI_leI (by omega) (by omega)).mpr (show N ≤ k by omega)) h
  | rr + 1, k, w, hr, hc => by
    have hN := hok.1
    refine j_iload_n 3 C dL_law_432 rfl rfl ?_
    refine j_iload_n 2 C dL_law_433 rfl rfl ?_
    refine j_icmp_ge (tgt := 467) C dL_law_434 (by decide) (fun h => ?_) (fun h => ?_)
    · skip
      exact absurd ((nI_leI (by omega) (by omega)).mp h) (by omega)
    · skip
      refine j_aload_n 1 C dL_law_437 rfl rfl ?_
      refine j_iload_n 3 C dL_law_438 rfl rfl ?_
      refine j_iload_n 3 C dL_law_439 rfl rfl ?_
      refine j_iconst (v := 4) C dL_law_440 rfl ?_
      refine j_iconst (v := 2) C dL_law_441 rfl ?_
      have hkN : k < N := by omega
      have hq := q_differ_e (l := l) hok hc hkN (d := 4) (v := 2) (by decide) (by decide) (by decide) (by decide)
      rw [jDf_0 (qSm qSame_refl)] at hq
      refine j_oV (Fx := []) (V := w) (As := [.int (nI k), .int (nI k), .int 4, .int 2]) (rest := []) (n := 3) (T := TX4) (N := 8) C (hq) gL_law_X4_differ rfl hl_differ ⟨by show 7 + 1 ≤ R.frames; omega, by show 8 + (10 + 11) + 170 ≤ R.locals; omega⟩ (List.Perm.refl _) (jCW_x0 hc) rfl dL_law_442 rfl (Nat.le_of_ble_eq_true rfl) ⟨by show cells + 0 ≤ R.cells; omega, by show slots + 0 ≤ R.slots; omega⟩ rfl (fun w1 hc => ?_)
      show jJ p l e R s m args below meth c Q A g (va_S A s.heap) 16 cells slots 445 [(0, .ref b), (1, .ref x0), (2, .int (nI N)), (3, .int (nI k))] [.int 0] w1
      refine j_if_ne (tgt := 459) C dL_law_445 (by decide) (fun hz => ?_) (fun hz => ?_)
      · skip
        exact absurd rfl hz
      · skip
        refine j_aload_n 1 C dL_law_448 rfl rfl ?_
        refine j_iload_n 3 C dL_law_449 rfl rfl ?_
        refine j_iconst (v := 0) C dL_law_450 rfl ?_
        refine j_iconst (v := 3) C dL_law_451 rfl ?_
        refine j_iconst (v := 1) C dL_law_452 rfl ?_
        have hq2 := q_cost_true (l := l) hok hc hkN (d := 0) (v := 3) (by decide) (by decide) (by decide) (by decide)
        rw [show (3 : Nat) ^ 0 = 1 from rfl, qCost0] at hq2
        refine j_oV (Fx := []) (V := w1) (As := [.int (nI k), .int 0, .int 3, .int (jb true)]) (rest := []) (n := 3) (T := TX4) (N := 8) C (hq2) gL_law_X4_cost rfl hl_cost ⟨by show 6 + 1 ≤ R.frames; omega, by show 8 + (11 + 11) + 148 ≤ R.locals; omega⟩ (List.Perm.refl _) (jCW_x0 hc) rfl dL_law_453 rfl (Nat.le_of_ble_eq_true rfl) ⟨by show cells + 0 ≤ R.cells; omega, by show slots + 0 ≤ R.slots; omega⟩ rfl (fun w2 hc => ?_)
        show jJ p l e R s m args below meth c Q A g (va_S A s.heap) 16 cells slots 456 [(0, .ref b), (1, .ref x0), (2, .int (nI N)), (3, .int (nI k))] [.int 0] w2
        refine j_if_eq (tgt := 461) C dL_law_456 (by decide) (fun hz2 => ?_) (fun hz2 => ?_)
        · skip
          refine j_iinc (v := nI (k + 1)) (L' := [(0, .ref b), (1, .ref x0), (2, .int (nI N)), (3, .int (nI (k + 1)))]) 3 C dL_law_461 rfl (nI_add k 1) (Nat.le_of_ble_eq_true rfl) rfl rfl ?_
          refine j_goto (tgt := 432) C dL_law_464 (by decide) ?_
          exact l_end C K hR hf hok kk rr (k + 1) w2 (by omega) hc
        · skip
          exact absurd rfl hz2
set_option maxHeartbeats 4000000 in
theorem l_all (C : jC p s m args meth c code wsL_law RL 16 A g) (K : jSc s b Ln xs A) (hR : 11 ≤ R.frames ∧ 420 ≤ R.locals) (hLn : Ln < 2 ^ 30) (kk : ∀ (cells slots : Nat) (L : List (Nat × Value)) (w' : va_W), cells ≤ R.cells → slots ≤ R.slots → jJ p l e R s m args below meth c Q A g (va_S A s.heap) 16 cells slots 480 L [.int 1] w') : ∀ (rr t cells slots N : Nat) (pn : Nat → Nat) (pf : Nat → Nat → Int32) (w : va_W), t + rr = 24 → 1 ≤ N → N ≤ 10 → jMok N pn pf len → jCW g x0 N pn pf len row vv lk w → cells + 2 * rr ≤ R.cells → slots + 226 * rr ≤ R.slots → jJ p l e R s m args below meth c Q A g (va_S A s.heap) 16 cells slots 24 [(0, .ref b), (1, .ref x0), (2, .int (nI N)), (3, .int (nI t))] [] w
  | 0, t, cells, slots, N, pn, pf, w, hr, hN1, hN2, hok, hc, h1, h2 => by
    refine j_iload_n 3 C dL_law_24 rfl rfl ?_
    refine j_bipush (v := 24) C dL_law_25 rfl ?_
    refine j_icmp_ge (tgt := 430) C dL_law_27 (by decide) (fun h => ?_) (fun h => ?_)
    · skip
      refine j_iconst (v := 0) C dL_law_430 rfl ?_
      refine j_istore_n (L' := [(0, .ref b), (1, .ref x0), (2, .int (nI N)), (3, .int 0)]) C dL_law_431 rfl (Nat.le_of_ble_eq_true rfl) rfl rfl ?_
      exact l_end C K hR ⟨by omega, by omega⟩ hok (fun L9 w9 => kk _ _ L9 w9 (by omega) (by omega)) N 0 w (by omega) hc
    · skip
      exact absurd ((nI_leI (by decide) (by omega)).mpr (show 24 ≤ t by omega)) h
  | rr + 1, t, cells, slots, N, pn, pf, w, hr, hN1, hN2, hok, hc, h1, h2 => by
    refine j_iload_n 3 C dL_law_24 rfl rfl ?_
    refine j_bipush (v := 24) C dL_law_25 rfl ?_
    refine j_icmp_ge (tgt := 430) C dL_law_27 (by decide) (fun h => ?_) (fun h => ?_)
    · skip
      refine j_iconst (v := 0) C dL_law_430 rfl ?_
      refine j_istore_n (L' := [(0, .ref b), (1, .ref x0), (2, .int (nI N)), (3, .int 0)]) C dL_law_431 rfl (Nat.le_of_ble_eq_true rfl) rfl rfl ?_
      exact l_end C K hR ⟨by omega, by omega⟩ hok (fun L9 w9 => kk _ _ L9 w9 (by omega) (by omega)) N 0 w (by omega) hc
    · skip
      refine j_iload_n 2 C dL_law_30 rfl rfl ?_
      refine j_bipush (v := 10) C dL_law_31 rfl ?_
      refine j_icmp_ge (tgt := 430) C dL_law_33 (by decide) (fun h9 => ?_) (fun h9 => ?_)
      · skip
        refine j_iconst (v := 0) C dL_law_430 rfl ?_
        refine j_istore_n (L' := [(0, .ref b), (1, .ref x0), (2, .int (nI N)), (3, .int 0)]) C dL_law_431 rfl (Nat.le_of_ble_eq_true rfl) rfl rfl ?_
        exact l_end C K hR ⟨by omega, by omega⟩ hok (fun L9 w9 => kk _ _ L9 w9 (by omega) (by omega)) N 0 w (by omega) hc
      · skip
        have hN10 : N < 10 := Nat.lt_of_not_le (fun z => h9 ((nI_leI (by decide) (by omega)).mpr z))
        refine l_turn C K hR hLn ⟨by omega, by omega⟩ (by omega) hN1 hN10 hok hc (fun N9 pn9 pf9 w' a1 a2 a3 a4 => ?_)
        refine j_iinc (v := nI (t + 1)) (L' := [(0, .ref b), (1, .ref x0), (2, .int (nI N9)), (3, .int (nI (t + 1)))]) 3 C dL_law_424 rfl (nI_add t 1) (Nat.le_of_ble_eq_true rfl) rfl rfl ?_
        refine j_goto (tgt := 24) C dL_law_427 (by decide) ?_
        exact l_all C K hR hLn kk rr (t + 1) (cells + 2) (slots + 226) N9 pn9 pf9 w' (by omega) a1 a2 a3 a4 (by omega) (by omega)
end LAWB
