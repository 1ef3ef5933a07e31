/-! LAW 9: the start -/
theorem hdI_X4 : yX4_init.cls ≠ "java/lang/invoke/MethodHandle" ∧ yX4_init.cls ≠ "java/lang/invoke/VarHandle" ∧ (parseMethodDescriptor yX4_init.desc).map (fun d => d.parameters.length) = some 0 := by decide +kernel
theorem hd_L_build : yL_build.cls ≠ "java/lang/invoke/MethodHandle" ∧ yL_build.cls ≠ "java/lang/invoke/VarHandle" ∧ (parseMethodDescriptor yL_build.desc).map (fun d => d.parameters.length) = some 4 := by decide +kernel
section JROWSA
variable {p : Program} {l : Launch} {e : Env} {R : Room} {s : State} {m : MethodId} {args : Array Value} {below : List Frame} {meth : Method} {c : Code} {Q : State → Prop} {A : Nat → Prop} {g : jG} {I : Heap → List Loc → Prop} {nL cells slots pc : Nat} {L : List (Nat × Value)} {st : List Value} {ws : va_W} {cc : ByteArray} {Ts : List Cond} {own : String}
/-- a constructor -/
theorem j_oI {S : Type} {wf : S → va_W} {y : MethodName} {wsy wsr : List Cond} {rm : Room} {mc ms index : Nat} {bytes : ByteArray} {maxL : Nat} {rest : List Value} {b : Nat} {v9 : va_E} {Fx : va_W} (C : jC p s m args meth c cc Ts own nL A g) (hM : jIv l y wsy rm mc ms g [.ref b] [(b, v9)] wf) (ha1 : va_AO "LoopJoiner$Program" s) (ha2 : va_AOA .int s) (hG : GoodIn Ts wsy) (hw : wsy = Cond.code y bytes maxL none :: wsr) (hrc : rm.cells = mc) (hrs : rm.slots = ms) (hlk : Cond.methodLink own index y ∈ Ts) (hini : Cond.initialized y.cls ∈ Ts) (hin : Cond.instanceMethod y ∈ Ts) (hyn : y.name = "<init>")
    (hds : y.cls ≠ "java/lang/invoke/MethodHandle" ∧ y.cls ≠ "java/lang/invoke/VarHandle" ∧ (parseMethodDescriptor y.desc).map (fun d => d.parameters.length) = some 0) (hR : rm.frames + 1 ≤ R.frames ∧ 8 + (maxL + 11) + rm.locals ≤ R.locals)
    (hws : ws = Fx ++ [(b, v9)]) (hd : decode cc pc = .ok (.invokespecial index, 3)) (hrm : (rest.map fun v => v.category).sum ≤ 8) (hf : cells + mc ≤ R.cells ∧ slots + ms ≤ R.slots)
    (k : ∀ u, jJ p l e R s m args below meth c Q A g (va_S A s.heap) nL (cells + mc) (slots + ms) (pc + 3) L rest (Fx ++ wf u)) : jJ p l e R s m args below meth c Q A g (va_S A s.heap) nL cells slots pc L (.ref b :: rest) ws := fun H locs ls h1 h2 h3 h4 => by
  have hp : ws.Perm (Fx ++ [(b, v9)]) := by rw [hws]
  obtain ⟨c2, c3⟩ := jW_cut hp h2 h3
  have hFc := jW_free hp h3 h4 C.2.2.2.2.2.2.2
  have hr := va_runI (As := []) (rest := rest) (b := b) ⟨C.1, C.2.1, C.2.2.1, C.2.2.2.1, C.2.2.2.2.1⟩ (hM H.size) ⟨callB_of 0 C.2.2.2.2.1 hG hw hrc hrs (C.2.2.2.2.1 _ hini) (C.2.2.2.2.1 _ hlk) hds hR, hyn, C.2.2.2.2.1 _ hin⟩ ⟨jPi.blind, fun U hU hW => ⟨⟨rfl, by rw [hU], by rw [hU]; exact c2, C.2.2.2.2.2.2.1.warm hW, c3⟩, va_AO.moved hW.alike ha1, jAOA_warm hW ha2⟩⟩ (g := F0 m pc ls (.ref b :: rest)) (p := p) (e := e) (below := below) (meth := meth) (locs := locs) (cells := cells) (slots := slots) rfl rfl h1.1 rfl (lv_room hrm) hd hf
  refine va_callv hr h4 (fun q _ h => hFc q h) hFc (fun u t H1 locs1 ht hvm hw9 hB hz hk1 hS => ?_)
  rw [ht] at hB
  obtain ⟨j1, j2⟩ := jW_join (jP_perm hp h2) (jD_perm hp h3) hFc hk1 hB.1 hB.2
  exact k u H1 locs1 ls h1 j1 j2 hS
end JROWSA
set_option maxHeartbeats 4000000 in
theorem whole_start {p : Program} {e : Env} {s : State} {m : MethodId} {below : List Frame} {meth : Method} {c : Code} (l : Launch) (hflags : l.flags = flags0) {b L : Nat} {xs : Nat → Int32} (hL : L ≤ 260) (C0 : lw_At p s m meth c b L xs) : W p l e room_1 s m #[Value.ref b] below meth c s.heap [] 0 0 (lw_Z below #[Value.ref b] s) (entryFrame m ([Value.ref b] : List Value).toArray 16) := by
  obtain ⟨hx, hb, hr, hml, hown, hts, hX, hbl, hlocks, hgv⟩ := id C0
  obtain ⟨g, hE⟩ := en_E hts
  obtain ⟨ha1, ha2⟩ := en_AO hts
  have C : jC p s m #[Value.ref b] meth c code wsL_law RL 16 (fun q : Nat => s.heap.size ≤ q) g := ⟨hx, hb, hml, hown, fun w hw => hts w (wsL_law_in w hw), hlocks, hE, fun _ h => h⟩
  have K : jSc s b L xs (fun q : Nat => s.heap.size ≤ q) := ⟨ha2, hX, Nat.not_le.mpr hbl, hbl⟩
  have hl := lv_entry ([.ref b]) (n := 16) (Nat.le_of_ble_eq_true rfl)
  rw [lg_entry_eq]
  generalize (lg_sl ([.ref b]) ++ List.replicate (16 - (lg_sl ([.ref b])).length) Slot.unset).toArray = ls at hl ⊢
  have main : jJ p l e room_1 s m #[Value.ref b] below meth c (lw_Z below #[Value.ref b] s) (fun q : Nat => s.heap.size ≤ q) g (va_S (fun q : Nat => s.heap.size ≤ q) s.heap) 16 0 0 0 [(0, .ref b)] [] [] := by
    refine j_new (Cn := RX4) (T := TX4) (N := 8) (ci := 3) (fs := [.null, .int 0, .null, .int 0, .null, .null, .null, .null]) tyX4 C dL_law_0 (fun w h => inlX4 w h) tyX4_ok (List.mem_of_getElem? (i := 0) rfl) (List.mem_of_getElem? (i := 1) rfl) (List.mem_of_getElem? (i := 2) rfl) rfl (fun j hj => match j, hj with | 0, _ => rfl | 1, _ => rfl | 2, _ => rfl | 3, _ => rfl | 4, _ => rfl | 5, _ => rfl | 6, _ => rfl | 7, _ => rfl | j + 8, h => absurd h (by omega)) ⟨(Nat.le_of_ble_eq_true rfl), (Nat.le_of_ble_eq_true rfl)⟩ (fun x0 => ?_)
    refine j_dup C dL_law_3 rfl ?_
    refine j_oI (Fx := []) (rest := [.ref x0]) C (c_X4_init l g x0) ha1 ha2 gL_law_X4_init rfl rfl rfl (List.mem_of_getElem? (i := 3) rfl) (List.mem_of_getElem? (i := 2) rfl) (List.mem_of_getElem? (i := 4) rfl) rfl hdI_X4 ⟨(Nat.le_of_ble_eq_true rfl), (Nat.le_of_ble_eq_true rfl)⟩ rfl dL_law_4 (Nat.le_of_ble_eq_true rfl) ⟨(Nat.le_of_ble_eq_true rfl), (Nat.le_of_ble_eq_true rfl)⟩ (fun u => ?_)
    have hok0 : jMok 0 (fun _ => 0) (fun _ _ => 0) 0 := ⟨by decide, by decide, fun i hi => absurd hi (Nat.not_lt_zero _), fun i _ => ⟨rfl, rfl⟩⟩
    obtain ⟨W0, hW0, hc0⟩ : ∃ W0 : va_W, W0 = ([(x0, .inr (3, [.ref u.1, .int 0, .ref u.2.1, .int 0, .ref u.2.2.1, .ref u.2.2.2.2.1, .ref u.2.2.2.2.2.2.1, .ref u.2.2.2.2.2.2.2.2.1]))] ++ [(u.1, jaP g 10 (fun _ => none)), (u.2.1, jaL g 40 (fun _ => 0)), (u.2.2.1, .inr (2, [.ref u.2.2.2.1, .int 0, .int (-1)])), (u.2.2.2.1, jaL g 4 (fun _ => 0)), (u.2.2.2.2.1, .inr (2, [.ref u.2.2.2.2.2.1, .int 0, .int (-1)])), (u.2.2.2.2.2.1, jaL g 4 (fun _ => 0)), (u.2.2.2.2.2.2.1, .inr (2, [.ref u.2.2.2.2.2.2.2.1, .int 0, .int (-1)])), (u.2.2.2.2.2.2.2.1, jaL g 4 (fun _ => 0)), (u.2.2.2.2.2.2.2.2.1, .inr (0, [.ref u.2.2.2.2.2.2.2.2.2, .int 0, .int 0])), (u.2.2.2.2.2.2.2.2.2, jaL g 6 (fun _ => 0))] : va_W) ∧ jCW g x0 0 (fun _ => 0) (fun _ _ => 0) 0 (fun _ => 0) (fun _ => 0) 0 W0 :=
      ⟨_, rfl, ⟨u.1, u.2.1, u.2.2.1, u.2.2.2.2.1, u.2.2.2.2.2.2.1, u.2.2.2.2.2.2.2.2.1, u.2.2.2.1, u.2.2.2.2.2.1, u.2.2.2.2.2.2.2.1, u.2.2.2.2.2.2.2.2.2, -1, 0, -1, 0, -1, 0, 0, fun _ => 0, fun _ => 0, fun _ => 0, fun _ => none, fun _ => 0, fun _ => 0, fun i hi => absurd hi (Nat.not_lt_zero _), fun i _ => rfl, List.Perm.refl _⟩⟩
    refine j_eq (pc' := 7) (L' := [(0, .ref b)]) (st' := [.ref x0]) (ws' := W0) ?_ rfl rfl rfl hW0.symm
    refine j_astore_n (L' := [(0, .ref b), (1, .ref x0)]) C dL_law_7 rfl (by decide) rfl rfl ?_
    refine j_iconst (v := 1) C dL_law_8 rfl ?_
    refine j_istore_n (L' := [(0, .ref b), (1, .ref x0), (2, .int 1)]) C dL_law_9 rfl (by decide) rfl rfl ?_
    refine j_aload_n 1 C dL_law_10 rfl rfl ?_
    refine j_aload_n 0 C dL_law_11 rfl rfl ?_
    refine j_iconst (v := 0) C dL_law_12 rfl ?_
    refine j_iconst (v := 0) C dL_law_13 rfl ?_
    refine j_sS (Fx := []) (V := W0) (As := [.ref x0, .ref b, .int 0, .int 0]) (rest := []) C K (c_L_build l g b L xs (by omega) x0 0 _ _ _ _ _ W0 hok0 hc0) (fun o w h => by obtain ⟨⟨q, h1⟩, -⟩ := h; exact ⟨_, h1⟩) gL_law_L_build rfl hd_L_build ⟨(Nat.le_of_ble_eq_true rfl), (Nat.le_of_ble_eq_true rfl)⟩ (List.Perm.refl _) dL_law_14 rfl (Nat.le_of_ble_eq_true rfl) ⟨(Nat.le_of_ble_eq_true rfl), (Nat.le_of_ble_eq_true rfl)⟩ (fun v w h => ?_)
    obtain ⟨⟨q, h1⟩, pn', pf', hok1, hc1⟩ := h
    cases h1
    refine j_ifnonnull (tgt := 22) C dL_law_17 (by decide) ?_
    refine j_iconst (v := 0) C dL_law_22 rfl ?_
    refine j_istore_n (L' := [(0, .ref b), (1, .ref x0), (2, .int (nI 1)), (3, .int (nI 0))]) C dL_law_23 rfl (by decide) rfl rfl ?_
    refine j_widen (k := 100) (n := 1000) (Nat.le_of_ble_eq_true rfl) (Nat.le_of_ble_eq_true rfl) ?_
    refine l_all C K ⟨(Nat.le_of_ble_eq_true rfl), (Nat.le_of_ble_eq_true rfl)⟩ (by omega) (fun cells slots L9 ws h1 h2 => ?_) 24 0 100 1000 1 pn' pf' w rfl (by decide) (by decide) hok1 hc1 (Nat.le_of_ble_eq_true rfl) (Nat.le_of_ble_eq_true rfl)
    intro H locs ls g1 g2 g3 g4
    refine va_forget (fun q hq => g4.2.2 q hq) ?_
    refine W.widen h1 h2 ?_
    exact lw_ret (d0 := s.drawn) (Drawn.sameBut.refl s.drawn lw_cs) hx hb hr hlocks dL_law_480
  exact main s.heap [] ls hl (fun k q h => by simp at h) ⟨fun i j p q h => by simp at h, fun k q h => by simp at h⟩ va_S.rf
