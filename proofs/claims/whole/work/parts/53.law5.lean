/-! LAW 6: rows of the law's own body -/
theorem jAOA_warm {s U : State} (hW : s.WarmedH U.vm) (h : va_AOA .int s) : va_AOA .int U := by
  have h1 : (Cond.arrayOver (.array .int)).before #[] (s.setVm U.vm) = true := (Cond.arrayOver_setVmC hW.alike _).trans h
  exact h1
section JROWSA
variable {p : Program} {l : Launch} {e : Env} {R : Room} {s : State} {m : MethodId} {args : Array Value} {below : List Frame} {meth : Method} {c : Code} {Q : State → Prop} {A : Nat → Prop} {g : jG} {I : Heap → List Loc → Prop} {nL cells slots pc : Nat} {L : List (Nat × Value)} {st : List Value} {ws : va_W} {cc : ByteArray} {Ts : List Cond} {own : String}
theorem j_sld {b n x : Nat} {xs : Nat → Int32} {i : Int32} (C : jC p s m args meth c cc Ts own nL A g) (hX : va_X b n xs s s.heap) (hbl : b < s.heap.size) (hbA : ¬ A b) (hd : decode cc pc = .ok (.iaload, 1)) (hi : i = nI x) (hx : x < n) (hn : n < 2 ^ 31) (k : jJ p l e R s m args below meth c Q A g (va_S A s.heap) nL cells slots (pc + 1) L (.int (xs x) :: st) ws) : jJ p l e R s m args below meth c Q A g (va_S A s.heap) nL cells slots pc L (.int i :: .ref b :: st) ws := fun H locs ls h1 h2 h3 h4 => by
  subst hi
  refine va_sld C.1 C.2.1 hX hbl hbA h4 (vp_in_nI hx hn) hd ?_
  rw [nI_clamp (by omega)]
  exact k H locs ls h1 h2 h3 h4
theorem j_slen {b n : Nat} {xs : Nat → Int32} (C : jC p s m args meth c cc Ts own nL A g) (hX : va_X b n xs s s.heap) (hbl : b < s.heap.size) (hbA : ¬ A b) (hd : decode cc pc = .ok (.arraylength, 1)) (k : jJ p l e R s m args below meth c Q A g (va_S A s.heap) nL cells slots (pc + 1) L (.int (nI n) :: st) ws) : jJ p l e R s m args below meth c Q A g (va_S A s.heap) nL cells slots pc L (.ref b :: st) ws := fun H locs ls h1 h2 h3 h4 => va_slen C.1 C.2.1 hX hbl hbA h4 hd (k H locs ls h1 h2 h3 h4)
theorem j_bool {v : Int32} (C : jC p s m args meth c cc Ts own nL A g) (hd0 : decode cc pc = .ok (.ifCond .eq 7, 3)) (hd1 : decode cc (pc + 3) = .ok (.iconst 1, 1)) (hd2 : decode cc (pc + 4) = .ok (.goto 4, 3)) (hd3 : decode cc (pc + 7) = .ok (.iconst 0, 1)) (k : jJ p l e R s m args below meth c Q A g I nL cells slots (pc + 8) L (.int (jb (!decide (v = 0))) :: st) ws) : jJ p l e R s m args below meth c Q A g I nL cells slots pc L (.int v :: st) ws := by
  refine j_if_eq (tgt := pc + 7) C hd0 (by omega) (fun h => ?_) (fun h => ?_)
  · refine j_iconst (v := 0) C hd3 rfl ?_
    rw [decide_eq_true h] at k
    exact k
  · refine j_iconst (v := 1) C hd1 rfl ?_
    refine j_goto (tgt := pc + 8) C hd2 (by omega) ?_
    rw [decide_eq_false h] at k
    exact k
/-- a constructor of the law's two sides -/
theorem j_oI {S : Type} {wf : S → va_W} {y : MethodName} {wsy wsr : List Cond} {rm : Room} {mc ms index : Nat} {bytes : ByteArray} {maxL : Nat} {rest : List Value} {b : Nat} {v9 : va_E} {Fx : va_W} (C : jC p s m args meth c cc Ts own nL A g) (hM : jIv l y wsy rm mc ms g [.ref b] [(b, v9)] wf) (ha1 : va_AO "LoopJoiner$Program" s) (ha2 : va_AOA .int s) (hG : GoodIn Ts wsy) (hw : wsy = Cond.code y bytes maxL none :: wsr) (hrc : rm.cells = mc) (hrs : rm.slots = ms) (hlk : Cond.methodLink own index y ∈ Ts) (hini : Cond.initialized y.cls ∈ Ts) (hin : Cond.instanceMethod y ∈ Ts) (hyn : y.name = "<init>")
    (hds : y.cls ≠ "java/lang/invoke/MethodHandle" ∧ y.cls ≠ "java/lang/invoke/VarHandle" ∧ (parseMethodDescriptor y.desc).map (fun d => d.parameters.length) = some 0) (hR : rm.frames + 1 ≤ R.frames ∧ 8 + (maxL + 11) + rm.locals ≤ R.locals)
    (hws : ws = Fx ++ [(b, v9)]) (hd : decode cc pc = .ok (.invokespecial index, 3)) (hrm : (rest.map fun v => v.category).sum ≤ 8) (hf : cells + mc ≤ R.cells ∧ slots + ms ≤ R.slots)
    (k : ∀ u, jJ p l e R s m args below meth c Q A g (va_S A s.heap) nL (cells + mc) (slots + ms) (pc + 3) L rest (Fx ++ wf u)) : jJ p l e R s m args below meth c Q A g (va_S A s.heap) nL cells slots pc L (.ref b :: rest) ws := fun H locs ls h1 h2 h3 h4 => by
  have hp : ws.Perm (Fx ++ [(b, v9)]) := by rw [hws]
  obtain ⟨c2, c3⟩ := jW_cut hp h2 h3
  have hFc := jW_free hp h3 h4 C.2.2.2.2.2.2.2
  have hr := va_runI (As := []) (rest := rest) (b := b) ⟨C.1, C.2.1, C.2.2.1, C.2.2.2.1, C.2.2.2.2.1⟩ (hM H.size) ⟨callB_of 0 C.2.2.2.2.1 hG hw hrc hrs (C.2.2.2.2.1 _ hini) (C.2.2.2.2.1 _ hlk) hds hR, hyn, C.2.2.2.2.1 _ hin⟩ ⟨jPi.blind, fun U hU hW => ⟨⟨rfl, by rw [hU], by rw [hU]; exact c2, C.2.2.2.2.2.2.1.warm hW, c3⟩, va_AO.moved hW.alike ha1, jAOA_warm hW ha2⟩⟩ (g := F0 m pc ls (.ref b :: rest)) (p := p) (e := e) (below := below) (meth := meth) (locs := locs) (cells := cells) (slots := slots) rfl rfl h1.1 rfl (lv_room hrm) hd hf
  refine va_callv hr h4 (fun q _ h => hFc q h) hFc (fun u t H1 locs1 ht hvm hw9 hB hz hk1 hS => ?_)
  rw [ht] at hB
  obtain ⟨j1, j2⟩ := jW_join (jP_perm hp h2) (jD_perm hp h3) hFc hk1 hB.1 hB.2
  exact k u H1 locs1 ls h1 j1 j2 hS
end JROWSA
theorem jLp1 {a b : Nat × va_E} {X Y : va_W} : (a :: b :: (X ++ Y)).Perm ((a :: Y) ++ (b :: X)) := by
  show (a :: b :: (X ++ Y)).Perm (a :: (Y ++ b :: X))
  refine List.Perm.cons _ ?_
  exact (List.Perm.cons _ List.perm_append_comm).trans (List.perm_middle (a := b) (l₁ := Y) (l₂ := X)).symm
theorem jLp2 {a b : Nat × va_E} {X Y : va_W} : ((a :: Y) ++ (b :: X)).Perm ((a :: b :: X) ++ Y) := jLp1.symm
theorem jLp3 {a b : Nat × va_E} {X Y : va_W} : ((a :: b :: X) ++ Y).Perm ((b :: Y) ++ (a :: X)) := by
  show (a :: b :: (X ++ Y)).Perm _
  exact (List.Perm.swap _ _ _).trans jLp1
theorem jLp4 {a b : Nat × va_E} {X Y : va_W} : ((b :: Y) ++ (a :: X)).Perm ((a :: b :: X) ++ Y) := jLp3.symm
theorem op_thrown {l : Launch} {g : jG} {m0 N : Nat} {pn : Nat → Nat} {pf : Nat → Nat → Int32} {len : Nat} {row vv : Nat → Int64} {lk th : Int32} {Wr : va_W} (hr : jRW g m0 N pn pf len row vv lk th Wr) : jO l yX5_thrown wsX5_thrown ({ frames := 0, cells := 0, slots := 0, locals := 0 } : Room) g [.ref m0] Wr (jOi th) (jRW g m0 N pn pf len row vv lk th) := by
  obtain ⟨tb, md, rw0, csr, va, rn, kp, lkr, tr, n0, f0, cf, vw, kf, hR⟩ := id hr
  exact jO_perm hR (jO_imp (fun w hw => by subst hw; exact ⟨tb, md, rw0, csr, va, rn, kp, lkr, tr, n0, f0, cf, vw, kf, List.Perm.refl _⟩) (jO_ri [0] (c_X5_thrown l g m0 th (nI N) tb md rw0 (nI len) csr va lkr rn kp) rfl rfl rfl rfl))
/-- the law's world between two calls -/
def jIW (g : jG) (x0 m0 out outD : Nat) (ws : va_W) : Prop := ∃ (o : Nat → Int64) (od : Nat → UInt64) (Wc Wr : va_W) (N : Nat) (pn : Nat → Nat) (pf : Nat → Nat → Int32) (len : Nat) (row vv : Nat → Int64) (lk th : Int32), jMok N pn pf len ∧ jCW g x0 N pn pf len row vv lk Wc ∧ jRW g m0 N pn pf len row vv lk th Wr ∧ ws = (outD, jaD g 1 od) :: (out, jaL g 1 o) :: (Wc ++ Wr)
theorem nI_a1 (t : Nat) : nI t + 1 = nI (t + 1) := nI_add t 1
theorem nI_a2 (t : Nat) : nI t + 2 = nI (t + 2) := nI_add t 2
theorem nI_a3 (t : Nat) : nI t + 3 = nI (t + 3) := nI_add t 3
theorem nI_a4 (t : Nat) : nI t + 4 = nI (t + 4) := nI_add t 4
theorem nI_a5 (t : Nat) : nI t + 5 = nI (t + 5) := nI_add t 5
theorem nI_a6 (t : Nat) : nI t + 6 = nI (t + 6) := nI_add t 6
