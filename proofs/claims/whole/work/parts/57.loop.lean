/-! LAW 9: the loop of the law, and its entry -/
theorem jand31 (x : Int32) : ∃ i : Nat, i < 32 ∧ x &&& 31 = nI i := by
  refine ⟨(x &&& 31).toBitVec.toNat, ?_, ?_⟩
  · rw [Int32.toBitVec_and, BitVec.toNat_and]
    exact Nat.lt_of_le_of_lt Nat.and_le_right (by decide)
  · apply Int32.toBitVec_inj.mp
    show _ = BitVec.ofNat 32 _
    simp
section LAWD
variable {p : Program} {l : Launch} {e : Env} {R : Room} {s : State} {m : MethodId} {args : Array Value} {below : List Frame} {meth : Method} {c : Code} {Q : State → Prop} {A : Nat → Prop} {g : jG} {cells slots b n t x0 m0 out outD : Nat} {xs : Nat → Int32} {ws : va_W}
theorem law_disp (C : jC p s m args meth c code wsL_law RL 9 A g) (K : jLc l R s b n xs A) (ht : t + 7 ≤ n) (hroom : cells + 4 ≤ R.cells ∧ slots + 452 ≤ R.slots) (hI : jIW g x0 m0 out outD ws) (k : ∀ ws', jIW g x0 m0 out outD ws' → jJ p l e R s m args below meth c Q A g (va_S A s.heap) 9 (cells + 4) (slots + 452) 1506 (jLL b x0 m0 out outD t) [] ws') : jJ p l e R s m args below meth c Q A g (va_S A s.heap) 9 cells slots 38 (jLL b x0 m0 out outD t) [] ws := by
  obtain ⟨hX, hZ, hN, hS, hbl, hbA, hn, hRf, hRl, hst⟩ := id K
  refine j_aload_n 0 C dL_law_38 rfl rfl ?_
  refine j_iload 5 C dL_law_39 rfl ?_
  refine j_sld (x := t) C hS hbl hbA dL_law_41 rfl (by omega) hn ?_
  refine j_bipush (v := 31) C dL_law_42 (by decide) ?_
  obtain ⟨i, hi, e1⟩ := jand31 (xs t)
  refine j_iand C dL_law_44 e1 ?_
  rcases (show i = 0 ∨ i = 1 ∨ i = 2 ∨ i = 3 ∨ i = 4 ∨ i = 5 ∨ i = 6 ∨ i = 7 ∨ i = 8 ∨ i = 9 ∨ i = 10 ∨ i = 11 ∨ i = 12 ∨ i = 13 ∨ i = 14 ∨ i = 15 ∨ i = 16 ∨ i = 17 ∨ i = 18 ∨ 19 ≤ i by omega) with rfl | rfl | rfl | rfl | rfl | rfl | rfl | rfl | rfl | rfl | rfl | rfl | rfl | rfl | rfl | rfl | rfl | rfl | rfl | h
  · exact j_tabIn (off := 91) (tgt := 136) C dL_law_45 (by decide) (by decide) (by decide) rfl (law_addProgram C K ht hroom hI k)
  · exact j_tabIn (off := 135) (tgt := 180) C dL_law_45 (by decide) (by decide) (by decide) rfl (law_addLoop C K ht hroom hI k)
  · exact j_tabIn (off := 243) (tgt := 288) C dL_law_45 (by decide) (by decide) (by decide) rfl (law_addStep C K ht hroom hI k)
  · exact j_tabIn (off := 361) (tgt := 406) C dL_law_45 (by decide) (by decide) (by decide) rfl (law_loop C K ht hroom hI k)
  · exact j_tabIn (off := 441) (tgt := 486) C dL_law_45 (by decide) (by decide) (by decide) rfl (law_step C K ht hroom hI k)
  · exact j_tabIn (off := 533) (tgt := 578) C dL_law_45 (by decide) (by decide) (by decide) rfl (law_programs C K ht hroom hI k)
  · exact j_tabIn (off := 546) (tgt := 591) C dL_law_45 (by decide) (by decide) (by decide) rfl (law_loops C K ht hroom hI k)
  · exact j_tabIn (off := 602) (tgt := 647) C dL_law_45 (by decide) (by decide) (by decide) rfl (law_put C K ht hroom hI k)
  · exact j_tabIn (off := 690) (tgt := 735) C dL_law_45 (by decide) (by decide) (by decide) rfl (law_empty C K ht hroom hI k)
  · exact j_tabIn (off := 703) (tgt := 748) C dL_law_45 (by decide) (by decide) (by decide) rfl (law_run C K ht hroom hI k)
  · exact j_tabIn (off := 759) (tgt := 804) C dL_law_45 (by decide) (by decide) (by decide) rfl (law_ran C K ht hroom hI k)
  · exact j_tabIn (off := 814) (tgt := 859) C dL_law_45 (by decide) (by decide) (by decide) rfl (law_reason C K ht hroom hI k)
  · exact j_tabIn (off := 906) (tgt := 951) C dL_law_45 (by decide) (by decide) (by decide) rfl (law_change C K ht hroom hI k)
  · exact j_tabIn (off := 998) (tgt := 1043) C dL_law_45 (by decide) (by decide) (by decide) rfl (law_joinAll C K ht hroom hI k)
  · exact j_tabIn (off := 1054) (tgt := 1099) C dL_law_45 (by decide) (by decide) (by decide) rfl (law_differ C K ht hroom hI k)
  · exact j_tabIn (off := 1146) (tgt := 1191) C dL_law_45 (by decide) (by decide) (by decide) rfl (law_firstCase C K ht hroom hI k)
  · exact j_tabIn (off := 1238) (tgt := 1283) C dL_law_45 (by decide) (by decide) (by decide) rfl (law_cost C K ht hroom hI k)
  · exact j_tabIn (off := 1346) (tgt := 1391) C dL_law_45 (by decide) (by decide) (by decide) rfl (law_exits C K ht hroom hI k)
  · exact j_tabIn (off := 1447) (tgt := 1492) C dL_law_45 (by decide) (by decide) (by decide) rfl (law_digest C K ht hroom hI k)
  · refine j_tabOut (tgt := 1506) C dL_law_45 (Or.inr ?_) rfl (j_widen (by omega) (by omega) (k ws hI))
    rw [nI_toInt (by omega)]
    omega
theorem law_all (C : jC p s m args meth c code wsL_law RL 9 A g) (K : jLc l R s b n xs A) (hn9 : n ≤ 3584) (kont : ∀ (cells slots : Nat) (L : List (Nat × Value)) (ws : va_W), cells ≤ R.cells → slots ≤ R.slots → jJ p l e R s m args below meth c Q A g (va_S A s.heap) 9 cells slots 1512 L [] ws) : ∀ (r t cells slots : Nat) (ws : va_W), jIW g x0 m0 out outD ws → n < t + 7 + 7 * r → t ≤ n + 7 → cells + 4 * r ≤ R.cells → slots + 452 * r ≤ R.slots → jJ p l e R s m args below meth c Q A g (va_S A s.heap) 9 cells slots 28 (jLL b x0 m0 out outD t) [] ws := by
  obtain ⟨hX, hZ, hN, hS, hbl, hbA, hn, hRf, hRl, hst⟩ := id K
  intro r
  induction r with
  | zero =>
    intro t cells slots ws hI h1 ht h2 h3
    refine j_iload 5 C dL_law_28 rfl ?_
    refine j_aload_n 0 C dL_law_30 rfl rfl ?_
    refine j_slen C hS hbl hbA dL_law_31 ?_
    refine j_bipush (v := 7) C dL_law_32 (by decide) ?_
    refine j_isub C dL_law_34 rfl ?_
    refine j_icmp_gt (tgt := 1512) C dL_law_35 rfl (fun _ => kont _ _ _ _ (by omega) (by omega)) (fun h => absurd ?_ h)
    rw [Int32.lt_iff_toInt_lt, show (7 : Int32) = nI 7 from rfl, pk_sub_toInt (by omega) (by decide), nI_toInt (by omega)]
    omega
  | succ r ih =>
    intro t cells slots ws hI h1 ht h2 h3
    refine j_iload 5 C dL_law_28 rfl ?_
    refine j_aload_n 0 C dL_law_30 rfl rfl ?_
    refine j_slen C hS hbl hbA dL_law_31 ?_
    refine j_bipush (v := 7) C dL_law_32 (by decide) ?_
    refine j_isub C dL_law_34 rfl ?_
    refine j_icmp_gt (tgt := 1512) C dL_law_35 rfl (fun _ => kont _ _ _ _ (by omega) (by omega)) (fun h => ?_)
    have ht7 : t + 7 ≤ n := by
      rw [Int32.lt_iff_toInt_lt, show (7 : Int32) = nI 7 from rfl, pk_sub_toInt (by omega) (by decide), nI_toInt (by omega)] at h
      omega
    rw [Nat.mul_add_one] at h2 h3
    generalize hz2 : 4 * r = z2 at h2 ih
    generalize hz3 : 452 * r = z3 at h3 ih
    refine j_eq (pc' := 38) (law_disp (cells := cells) (slots := slots) C K ht7 ⟨Nat.le_trans (Nat.add_le_add_left (Nat.le_add_left 4 z2) cells) h2, Nat.le_trans (Nat.add_le_add_left (Nat.le_add_left 452 z3) slots) h3⟩ hI (fun ws' hI' => ?_)) rfl rfl rfl rfl
    refine j_iinc (v := nI (t + 7)) (L' := jLL b x0 m0 out outD (t + 7)) 5 C dL_law_1506 rfl (nI_add t 7) (by decide) rfl rfl ?_
    refine j_goto (tgt := 28) C dL_law_1509 rfl ?_
    exact ih (t + 7) (cells + 4) (slots + 452) ws' hI' (by omega) (by omega) (by omega) (by omega)
end LAWD
theorem jrw_00 : jrw 0 (fun _ => (0 : Int32)) = fun _ => 0 := by
  funext i
  cases i <;> rfl
theorem jRan_00 : jRan (fun _ => (0 : Int64)) 0 = fun _ => 0 := by
  funext i
  unfold jRan
  split <;> rfl
theorem jLp0 {a b : Nat × va_E} {X : va_W} : ((X ++ [a]) ++ [b]).Perm (b :: a :: X) := by
  rw [List.append_assoc]
  exact List.perm_append_comm.trans (List.Perm.swap _ _ _)
theorem hdI_X4 : yX4_init.cls ≠ "java/lang/invoke/MethodHandle" ∧ yX4_init.cls ≠ "java/lang/invoke/VarHandle" ∧ (parseMethodDescriptor yX4_init.desc).map (fun d => d.parameters.length) = some 0 := by decide +kernel
theorem hdI_X5 : yX5_init.cls ≠ "java/lang/invoke/MethodHandle" ∧ yX5_init.cls ≠ "java/lang/invoke/VarHandle" ∧ (parseMethodDescriptor yX5_init.desc).map (fun d => d.parameters.length) = some 0 := by decide +kernel
theorem whole_start {p : Program} {e : Env} {s : State} {m : MethodId} {below : List Frame} {meth : Method} {c : Code} (l : Launch) (hflags : l.flags = flags0) {b L : Nat} {xs : Nat → Int32} (hL : L ≤ 3584) (C0 : lw_At p s m meth c b L xs) : W p l e room_1 s m #[Value.ref b] below meth c s.heap [] 0 0 (lw_Z below #[Value.ref b] s) (entryFrame m ([Value.ref b] : List Value).toArray 9) := by
  obtain ⟨hx, hb, hr, hml, hown, hts, hX, hbl, hlocks, hgv⟩ := id C0
  have hst : l.stackTraces = false := by
    show (!l.flags.contains noTraceFlag) = false
    rw [hflags]
    decide +kernel
  obtain ⟨g, hE⟩ := en_E hts
  obtain ⟨ha1, ha2⟩ := en_AO hts
  have C : jC p s m #[Value.ref b] meth c code wsL_law RL 9 (fun q : Nat => s.heap.size ≤ q) g := ⟨hx, hb, hml, hown, fun w hw => hts w (wsL_law_in w hw), hlocks, hE, fun _ h => h⟩
  have K : jLc l room_1 s b L xs (fun q : Nat => s.heap.size ≤ q) := ⟨en_X hts hgv, en_Z hts hgv (fun a ha => Nat.not_le.mpr ha), en_N hgv, hX, hbl, Nat.not_le.mpr hbl, by omega, (Nat.le_of_ble_eq_true rfl), (Nat.le_of_ble_eq_true rfl), hst⟩
  have hl := lv_entry ([.ref b]) (n := 9) (Nat.le_of_ble_eq_true rfl)
  rw [lg_entry_eq]
  generalize (lg_sl ([.ref b]) ++ List.replicate (9 - (lg_sl ([.ref b])).length) Slot.unset).toArray = ls at hl ⊢
  have main : jJ p l e room_1 s m #[Value.ref b] below meth c (lw_Z below #[Value.ref b] s) (fun q : Nat => s.heap.size ≤ q) g (va_S (fun q : Nat => s.heap.size ≤ q) s.heap) 9 0 0 0 [(0, .ref b)] [] [] := by
    refine j_new (Cn := RX4) (T := TX4) (N := 8) (ci := 3) (fs := [.null, .int 0, .null, .int 0, .null, .null, .null, .null]) tyX4 C dL_law_0 (fun w h => inlX4 w h) tyX4_ok (List.mem_of_getElem? (i := 0) rfl) (List.mem_of_getElem? (i := 1) rfl) (List.mem_of_getElem? (i := 2) rfl) rfl (fun j hj => match j, hj with | 0, _ => rfl | 1, _ => rfl | 2, _ => rfl | 3, _ => rfl | 4, _ => rfl | 5, _ => rfl | 6, _ => rfl | 7, _ => rfl | j + 8, h => absurd h (by omega)) ⟨(Nat.le_of_ble_eq_true rfl), (Nat.le_of_ble_eq_true rfl)⟩ (fun x0 => ?_)
    refine j_dup C dL_law_3 rfl ?_
    refine j_oI (Fx := []) (rest := [.ref x0]) C (c_X4_init l g x0) ha1 ha2 gL_law_X4_init rfl rfl rfl (List.mem_of_getElem? (i := 9) rfl) (List.mem_of_getElem? (i := 2) rfl) (List.mem_of_getElem? (i := 10) rfl) rfl hdI_X4 ⟨(Nat.le_of_ble_eq_true rfl), (Nat.le_of_ble_eq_true rfl)⟩ rfl dL_law_4 (Nat.le_of_ble_eq_true rfl) ⟨(Nat.le_of_ble_eq_true rfl), (Nat.le_of_ble_eq_true rfl)⟩ (fun u => ?_)
    refine j_astore_n (L' := [(0, .ref b), (1, .ref x0)]) C dL_law_7 rfl (by decide) rfl rfl ?_
    refine j_new (Cn := RX5) (T := TX5) (N := 11) (ci := 4) (fs := [.int 0, .int 0, .null, .null, .null, .int 0, .null, .null, .int 0, .null, .null]) tyX5 C dL_law_8 (fun w h => inlX5 w h) tyX5_ok (List.mem_of_getElem? (i := 3) rfl) (List.mem_of_getElem? (i := 4) rfl) (List.mem_of_getElem? (i := 5) rfl) rfl (fun j hj => match j, hj with | 0, _ => rfl | 1, _ => rfl | 2, _ => rfl | 3, _ => rfl | 4, _ => rfl | 5, _ => rfl | 6, _ => rfl | 7, _ => rfl | 8, _ => rfl | 9, _ => rfl | 10, _ => rfl | j + 11, h => absurd h (by omega)) ⟨(Nat.le_of_ble_eq_true rfl), (Nat.le_of_ble_eq_true rfl)⟩ (fun m0 => ?_)
    refine j_dup C dL_law_11 rfl ?_
    refine j_oI (rest := [.ref m0]) C (c_X5_init l g m0) ha1 ha2 gL_law_X5_init rfl rfl rfl (List.mem_of_getElem? (i := 42) rfl) (List.mem_of_getElem? (i := 5) rfl) (List.mem_of_getElem? (i := 43) rfl) rfl hdI_X5 ⟨(Nat.le_of_ble_eq_true rfl), (Nat.le_of_ble_eq_true rfl)⟩ rfl dL_law_12 (Nat.le_of_ble_eq_true rfl) ⟨(Nat.le_of_ble_eq_true rfl), (Nat.le_of_ble_eq_true rfl)⟩ (fun v => ?_)
    refine j_astore_n (L' := [(0, .ref b), (1, .ref x0), (2, .ref m0)]) C dL_law_15 rfl (by decide) rfl rfl ?_
    refine j_iconst (v := 1) C dL_law_16 rfl ?_
    refine j_newaL (N := 1) C dL_law_17 (List.mem_of_getElem? (i := 6) rfl) rfl (by decide) ⟨(Nat.le_of_ble_eq_true rfl), (Nat.le_of_ble_eq_true rfl)⟩ (fun out => ?_)
    refine j_astore_n (L' := [(0, .ref b), (1, .ref x0), (2, .ref m0), (3, .ref out)]) C dL_law_19 rfl (by decide) rfl rfl ?_
    refine j_iconst (v := 1) C dL_law_20 rfl ?_
    refine j_newaD (N := 1) C dL_law_21 (List.mem_of_getElem? (i := 7) rfl) rfl (by decide) ⟨(Nat.le_of_ble_eq_true rfl), (Nat.le_of_ble_eq_true rfl)⟩ (fun outD => ?_)
    refine j_astore (L' := [(0, .ref b), (1, .ref x0), (2, .ref m0), (3, .ref out), (4, .ref outD)]) C dL_law_23 (by decide) rfl rfl ?_
    refine j_iconst (v := 0) C dL_law_25 rfl ?_
    refine j_istore (L' := jLL b x0 m0 out outD 0) C dL_law_26 (by decide) rfl rfl ?_
    refine j_perm jLp0.symm ?_
    refine law_all C K hL ?_ 512 0 _ _ _ ⟨fun _ => 0, fun _ => FP.dconst0, _, _, 0, fun _ => 0, fun _ _ => 0, 0, fun _ => 0, fun _ => 0, 0, 0, ⟨by decide, by decide, fun i hi => absurd hi (Nat.not_lt_zero _), fun i _ => ⟨rfl, rfl⟩⟩, ?_, ?_, rfl⟩ (by omega) (by omega) (Nat.le_of_ble_eq_true rfl) (Nat.le_of_ble_eq_true rfl)
    · intro cells slots L9 ws h1 h2
      refine j_iconst (v := 1) C dL_law_1512 rfl ?_
      intro H locs ls g1 g2 g3 g4
      refine va_forget (fun q hq => g4.2.2 q hq) ?_
      refine W.widen h1 h2 ?_
      exact lw_ret (d0 := s.drawn) (Drawn.sameBut.refl s.drawn lw_cs) hx hb hr hlocks dL_law_1513
    · exact ⟨u.1, u.2.1, u.2.2.1, u.2.2.2.2.1, u.2.2.2.2.2.2.1, u.2.2.2.2.2.2.2.2.1, u.2.2.2.1, u.2.2.2.2.2.1, u.2.2.2.2.2.2.2.1, u.2.2.2.2.2.2.2.2.2, -1, 0, -1, 0, -1, 0, 0, fun _ => 0, fun _ => 0, fun _ => 0, fun _ => none, fun _ => 0, fun _ => 0, fun i hi => absurd hi (Nat.not_lt_zero _), fun i _ => rfl, List.Perm.refl _⟩
    · refine ⟨v.1, v.2.2.1, v.2.2.2.1, v.2.2.2.2.1, v.2.2.2.2.2.1, v.2.2.2.2.2.2.1, v.2.2.2.2.2.2.2, 0, v.2.1, 0, fun _ => 0, fun _ => 0, fun _ => 0, fun _ => 0, ?_⟩
      have e3 : jFR g v.2.1 (fun _ => 0) (fun _ _ => 0) = fun i => (v.2.1 i, jaI g 253 (fun _ => 0)) := by
        funext i
        show (v.2.1 i, jaI g 253 (jrw 0 (fun _ => 0))) = _
        rw [jrw_00]
      rw [e3, jRan_00]
      simp only [jrF, jrw_00]
      exact List.Perm.refl _
  exact main s.heap [] ls hl (fun k q h => by simp at h) ⟨fun i j p q h => by simp at h, fun k q h => by simp at h⟩ va_S.rf
