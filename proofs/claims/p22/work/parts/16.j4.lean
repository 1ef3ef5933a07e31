/-- between, both ends taken in -/
def jBt (x lo hi : Int32) : Bool := !decide (x < lo) && !decide (hi < x)
theorem jIn_b (x lo hi : Int32) (a b : Int64) (ha : a = lo.toInt64) (hb : b = hi.toInt64) : jIn x.toInt64 a b = jBt x lo hi := by
  subst ha; subst hb
  unfold jIn jBt
  have e1 : decide (x.toInt64 < lo.toInt64) = decide (x < lo) := decide_eq_decide.mpr (by rw [Int64.lt_iff_toInt_lt, Int32.lt_iff_toInt_lt, Int32.toInt_toInt64, Int32.toInt_toInt64])
  have e2 : decide (hi.toInt64 < x.toInt64) = decide (hi < x) := decide_eq_decide.mpr (by rw [Int64.lt_iff_toInt_lt, Int32.lt_iff_toInt_lt, Int32.toInt_toInt64, Int32.toInt_toInt64])
  rw [e1, e2]
theorem jBt_iff {x lo hi : Int32} : jBt x lo hi = true ↔ ¬ x < lo ∧ ¬ hi < x := by
  unfold jBt
  simp
theorem jBt_f1 {x lo hi : Int32} (h : x < lo) : jBt x lo hi = false := by simp [jBt, h]
theorem jBt_f2 {x lo hi : Int32} (h : hi < x) : jBt x lo hi = false := by simp [jBt, h]
theorem jBt_ff {x lo hi : Int32} (h1 : ¬ x < lo) (h2 : ¬ hi < x) : jBt x lo hi = true := jBt_iff.mpr ⟨h1, h2⟩
theorem jI_nat {x : Int32} (h : ¬ x < 0) : x = nI x.toNatClampNeg := by
  apply Int32.toInt_inj.mp
  have h1 : 0 ≤ x.toInt := by rw [Int32.lt_iff_toInt_lt] at h; exact Int.not_lt.mp h
  have h2 := Int32.toInt_lt x
  have h3 : x.toNatClampNeg = x.toInt.toNat := rfl
  rw [nI_toInt (by omega)]
  omega
theorem jBt_nat {x : Int32} {N : Nat} (hN : N < 2 ^ 30) : jBt x 0 (nI N - 1) = true ↔ ∃ k, k < N ∧ x = nI k := by
  rw [jBt_iff]
  constructor
  · rintro ⟨h1, h2⟩
    have h3 := jI_nat h1
    refine ⟨x.toNatClampNeg, ?_, h3⟩
    have h4 : x.toNatClampNeg < 2 ^ 31 := by have := Int32.toInt_lt x; have h5 : x.toNatClampNeg = x.toInt.toNat := rfl; omega
    rw [Int32.lt_iff_toInt_lt, show (1 : Int32) = nI 1 from rfl, pk_sub_toInt hN (by decide), h3, nI_toInt h4] at h2
    omega
  · rintro ⟨k, hk, rfl⟩
    refine ⟨nI_pos (by omega), ?_⟩
    rw [Int32.lt_iff_toInt_lt, show (1 : Int32) = nI 1 from rfl, pk_sub_toInt hN (by decide), nI_toInt (by omega)]
    omega
theorem jBt_n {k N : Nat} (hk : k < N) (hN : N ≤ 1000) : jBt (nI k) 0 (nI N - 1) = true := (jBt_nat (by omega)).mpr ⟨k, hk, rfl⟩
theorem jBt_m {k N : Nat} (hk : k ≤ N) (hN : N ≤ 1000) : jBt (nI k) 0 (nI N) = true := by
  have := jBt_n (k := k) (N := N + 1) (by omega)
  by_cases h : N + 1 ≤ 1000
  · have h1 := this h
    rw [nI_pred] at h1
    exact h1
  · refine jBt_ff (nI_pos (by omega)) ?_
    rw [nI_ltI (by omega) (by omega)]
    omega
/-- any two Bools by their facts -/
theorem jb_ne {b : Bool} (h : ¬ b = true) : b = false := by cases b; rfl; exact absurd rfl h
abbrev jWl (l : Launch) (y : MethodName) (wsy : List Cond) (rm : Room) (g : jG) (As : List Value) (wc w1 : va_W) (v : Int64) : Prop := ∀ sz, Met l y wsy rm (jPc g As wc sz) (va_Ql (fun r (_ : Unit) => r = v) (fun _ t => va_P g.1 vwCl w1 t.heap) (va_A wc sz)) 0 0 (va_A wc sz)
abbrev jWd (l : Launch) (y : MethodName) (wsy : List Cond) (rm : Room) (g : jG) (As : List Value) (wc w1 : va_W) (v : UInt64) : Prop := ∀ sz, Met l y wsy rm (jPc g As wc sz) (va_Qd (fun r (_ : Unit) => r = v) (fun _ t => va_P g.1 vwCl w1 t.heap) (va_A wc sz)) 0 0 (va_A wc sz)
abbrev jXi {S : Type} (l : Launch) (y : MethodName) (wsy : List Cond) (rm : Room) (g : jG) (As : List Value) (wc : va_W) (wf : S → va_W) (v : Int32) : Prop := ∀ sz, Met l y wsy rm (jPc g As wc sz) (va_Qi (fun r (_ : S) => r = v) (fun u t => va_P g.1 vwCl (wf u) t.heap) (va_A wc sz)) 0 0 (va_A wc sz)
abbrev jXd {S : Type} (l : Launch) (y : MethodName) (wsy : List Cond) (rm : Room) (g : jG) (As : List Value) (wc : va_W) (wf : S → va_W) (v : UInt64) : Prop := ∀ sz, Met l y wsy rm (jPc g As wc sz) (va_Qd (fun r (_ : S) => r = v) (fun u t => va_P g.1 vwCl (wf u) t.heap) (va_A wc sz)) 0 0 (va_A wc sz)
abbrev jMi (l : Launch) (y : MethodName) (wsy : List Cond) (rm : Room) (mc ms : Nat) (g : jG) (As : List Value) (wc w1 : va_W) (v : Int32) : Prop := ∀ sz, Met l y wsy rm (jPc g As wc sz) (va_Qi (fun r (_ : Unit) => r = v) (fun _ t => va_P g.1 vwCl w1 t.heap) (va_A wc sz)) mc ms (va_A wc sz)
abbrev jMv (l : Launch) (y : MethodName) (wsy : List Cond) (rm : Room) (mc ms : Nat) (g : jG) (As : List Value) (wc w1 : va_W) : Prop := ∀ sz, Met l y wsy rm (jPc g As wc sz) (va_Qv (fun (_ : Unit) => True) (fun _ t => va_P g.1 vwCl w1 t.heap) (va_A wc sz)) mc ms (va_A wc sz)
section JROWS4
variable {p : Program} {l : Launch} {e : Env} {R : Room} {s : State} {m : MethodId} {args : Array Value} {below : List Frame} {meth : Method} {c : Code} {Q : State → Prop} {A : Nat → Prop} {g : jG} {I : Heap → List Loc → Prop} {nL cells slots pc : Nat} {L : List (Nat × Value)} {st : List Value} {ws : va_W} {cc : ByteArray} {Ts : List Cond} {own : String}
theorem j_newaI {n : Int32} {N : Nat} (C : jC p s m args meth c cc Ts own nL A g) (hd : decode cc pc = .ok (.newarray .int, 2)) (hw : Cond.arrayClass .int ∈ Ts) (hn : n = nI N) (hN : N ≤ 1000) (hf : cells + 1 ≤ R.cells ∧ slots + N ≤ R.slots) (k : ∀ q : Nat, jJ p l e R s m args below meth c Q A g (va_S A s.heap) nL (cells + 1) (slots + N) (pc + 2) L (.ref q :: st) (ws ++ [(q, jaI g N (fun _ => 0))])) : jJ p l e R s m args below meth c Q A g (va_S A s.heap) nL cells slots pc L (.int n :: st) ws := fun H locs ls h1 h2 h3 h4 => by
  subst hn
  refine va_newa (atype := .int) C.1 C.2.1 (C.2.2.2.2.1 _ hw) (ty := .int) rfl C.2.2.2.2.2.2.1.1 h2 h3 h4 C.2.2.2.2.2.2.2 (a0 := (N, .inl (fun _ => 0))) (fun cA => rfl) (nI_pos (by omega)) (nI_clamp (by omega)) (by show N * 4 ≤ _; omega) hf.1 hf.2 hd (fun q cA H1 hK1 k1 k2 k3 => ?_)
  have e1 := (hK1.2 (jT g).length _ (by rw [List.getElem?_append_right (Nat.le_refl _), Nat.sub_self]; rfl)).2
  have e2 := (C.2.2.2.2.2.2.1.1.2 0 _ rfl).2
  have e3 : some cA = some g.2.1 := e1.symm.trans e2
  cases e3
  exact k q H1 locs ls h1 k1 k2 k3
theorem j_newaL {n : Int32} {N : Nat} (C : jC p s m args meth c cc Ts own nL A g) (hd : decode cc pc = .ok (.newarray .long, 2)) (hw : Cond.arrayClass .long ∈ Ts) (hn : n = nI N) (hN : N ≤ 1000) (hf : cells + 1 ≤ R.cells ∧ slots + N ≤ R.slots) (k : ∀ q : Nat, jJ p l e R s m args below meth c Q A g (va_S A s.heap) nL (cells + 1) (slots + N) (pc + 2) L (.ref q :: st) (ws ++ [(q, jaL g N (fun _ => 0))])) : jJ p l e R s m args below meth c Q A g (va_S A s.heap) nL cells slots pc L (.int n :: st) ws := fun H locs ls h1 h2 h3 h4 => by
  subst hn
  refine va_newa (atype := .long) C.1 C.2.1 (C.2.2.2.2.1 _ hw) (ty := .long) rfl C.2.2.2.2.2.2.1.1 h2 h3 h4 C.2.2.2.2.2.2.2 (a0 := (N, .inr (.inl (fun _ => 0)))) (fun cA => rfl) (nI_pos (by omega)) (nI_clamp (by omega)) (by show N * 8 ≤ _; omega) hf.1 hf.2 hd (fun q cA H1 hK1 k1 k2 k3 => ?_)
  have e1 := (hK1.2 (jT g).length _ (by rw [List.getElem?_append_right (Nat.le_refl _), Nat.sub_self]; rfl)).2
  have e2 := (C.2.2.2.2.2.2.1.1.2 1 _ rfl).2
  have e3 : some cA = some g.2.2.1 := e1.symm.trans e2
  cases e3
  exact k q H1 locs ls h1 k1 k2 k3
theorem j_lretW {S : Type} {post : Int64 → S → Prop} {wf : S → va_W} {v : Int64} (C : jC p s m args meth c cc Ts own nL A g) (hr : meth.sig.returnType = some .long) (hd : decode cc pc = .ok (.lreturn, 1)) (u : S) (hv : post v u) (hw : wf u = ws) : jJ p l e R s m args below meth c (MQ below (va_Ql post (fun u t => va_P g.1 vwCl (wf u) t.heap) A) args s cells slots A) A g (va_S A s.heap) nL cells slots pc L [.long v] ws := fun H locs ls h1 h2 h3 h4 => by
  subst hw
  exact W.lret C.1 C.2.1 hr (fun t ht hW => ⟨⟨v, u, rfl, hv, by show va_P g.1 vwCl (wf u) t.heap; rw [ht]; exact h2⟩, h4.F ht⟩) h4.2.2 hd (hlocks := C.2.2.2.2.2.1)
theorem j_dretW {S : Type} {post : UInt64 → S → Prop} {wf : S → va_W} {v : UInt64} (C : jC p s m args meth c cc Ts own nL A g) (hr : meth.sig.returnType = some .double) (hd : decode cc pc = .ok (.dreturn, 1)) (u : S) (hv : post v u) (hw : wf u = ws) : jJ p l e R s m args below meth c (MQ below (va_Qd post (fun u t => va_P g.1 vwCl (wf u) t.heap) A) args s cells slots A) A g (va_S A s.heap) nL cells slots pc L [.double v] ws := fun H locs ls h1 h2 h3 h4 => by
  subst hw
  exact W.dret C.1 C.2.1 hr (fun t ht hW => ⟨⟨v, u, rfl, hv, by show va_P g.1 vwCl (wf u) t.heap; rw [ht]; exact h2⟩, h4.F ht⟩) h4.2.2 hd (hlocks := C.2.2.2.2.2.1)
theorem j_callWl {S : Type} {post : Int64 → S → Prop} {wf : S → va_W} {wc : va_W} {st0 rest : List Value} {a9 : Array Value} (ks : List Nat) (ws' : S → va_W) (C : jC p s m args meth c cc Ts own nL A g) (hr : jRun p l e R s m args below meth c A g nL cells slots 0 0 pc L st0 rest ws (fun z => va_Ql post (fun u t => va_P g.1 vwCl (wf u) t.heap) (va_A wc z) a9) (fun z => va_A wc z))
    (hk : ks.map (fun i => ws[i]?) = wc.map some) (hfst : ∀ u, (wf u).map (·.1) = wc.map (·.1)) (hs : ∀ u, jset ws ks (wf u) = ws' u) (k : ∀ r u, post r u → jJ p l e R s m args below meth c Q A g (va_S A s.heap) nL cells slots (pc + 3) L (.long r :: rest) (ws' u)) : jJ p l e R s m args below meth c Q A g (va_S A s.heap) nL cells slots pc L st0 ws := fun H locs ls h1 h2 h3 h4 => by
  have hFc := va_free h3 h4 C.2.2.2.2.2.2.2 ks hk
  refine va_calll (hr H locs ls h1 h2 h3) h4 (fun q _ h => hFc q h) hFc (fun r u t H1 locs1 ht hvm hw hB hz hk1 hS => ?_)
  rw [ht] at hB
  obtain ⟨j1, j2⟩ := jset_join h2 h3 hk (hfst u) hk1 hB
  rw [hs u] at j1 j2
  exact k r u hw H1 locs1 ls h1 j1 j2 hS
theorem j_callWd {S : Type} {post : UInt64 → S → Prop} {wf : S → va_W} {wc : va_W} {st0 rest : List Value} {a9 : Array Value} (ks : List Nat) (ws' : S → va_W) (C : jC p s m args meth c cc Ts own nL A g) (hr : jRun p l e R s m args below meth c A g nL cells slots 0 0 pc L st0 rest ws (fun z => va_Qd post (fun u t => va_P g.1 vwCl (wf u) t.heap) (va_A wc z) a9) (fun z => va_A wc z))
    (hk : ks.map (fun i => ws[i]?) = wc.map some) (hfst : ∀ u, (wf u).map (·.1) = wc.map (·.1)) (hs : ∀ u, jset ws ks (wf u) = ws' u) (k : ∀ r u, post r u → jJ p l e R s m args below meth c Q A g (va_S A s.heap) nL cells slots (pc + 3) L (.double r :: rest) (ws' u)) : jJ p l e R s m args below meth c Q A g (va_S A s.heap) nL cells slots pc L st0 ws := fun H locs ls h1 h2 h3 h4 => by
  have hFc := va_free h3 h4 C.2.2.2.2.2.2.2 ks hk
  refine va_calld (hr H locs ls h1 h2 h3) h4 (fun q _ h => hFc q h) hFc (fun r u t H1 locs1 ht hvm hw hB hz hk1 hS => ?_)
  rw [ht] at hB
  obtain ⟨j1, j2⟩ := jset_join h2 h3 hk (hfst u) hk1 hB
  rw [hs u] at j1 j2
  exact k r u hw H1 locs1 ls h1 j1 j2 hS
theorem j_max {x y : Int32} {index : Nat} (C : jC p s m args meth c cc Ts own nL A g) (hd : decode cc pc = .ok (.invokestatic index, 3)) (h1 : Cond.methodLink own index Lib.Math.max.name ∈ Ts) (h2 : Cond.static Lib.Math.max.name ∈ Ts) (h3 : Cond.initialized "java/lang/Math" ∈ Ts) (h4 : Cond.code Lib.Math.max.name Lib.Math.max.code 2 (some .int) ∈ Ts) (hf : 1 ≤ R.frames) (hl : (st.map fun v => v.category).sum + 13 ≤ R.locals) (hc : cells ≤ R.cells) (hs : slots ≤ R.slots)
    (k : jJ p l e R s m args below meth c Q A g I nL cells slots (pc + 3) L (.int (if x < y then y else x) :: st) ws) : jJ p l e R s m args below meth c Q A g I nL cells slots pc L (.int y :: .int x :: st) ws := fun H locs ls q1 q2 q3 q4 => by
  intro T hT X
  obtain ⟨vm', X', step⟩ := va_mathMaxV X C.1 C.2.2.2.1 (C.2.2.2.2.1 _ h1) (C.2.2.2.2.1 _ h2) (C.2.2.2.2.1 _ h3) (C.2.2.2.2.1 _ h4) (g := F0 m pc ls (.int y :: .int x :: st)) rfl (q1.1.trans C.2.2.1.symm) rfl (by rw [C.2.1]; exact hd) hf (by show 2 * 0 + _ + 13 ≤ _; omega) hc hs
  obtain ⟨t, a1, b1⟩ := k H locs ls q1 q2 q3 q4 (T.setVm vm') hT X'
  exact ⟨t, step t a1, b1⟩
theorem j_wsub {ws' : va_W} (ks : List Nat) (hk : ks.map (fun i => ws[i]?) = ws'.map some) (hnd : va_nd ks = true) (k : jJ p l e R s m args below meth c Q A g I nL cells slots pc L st ws') : jJ p l e R s m args below meth c Q A g I nL cells slots pc L st ws := fun H locs ls h1 h2 h3 h4 => k H locs ls h1 (j_cut hk hnd h2 h3).1 (h3.sub ks hnd hk) h4
/-- .. a call of one that writes and may make cells -/
theorem j_callMi {mc ms : Nat} {S : Type} {post : Int32 → S → Prop} {wf : S → va_W} {wc : va_W} {st0 rest : List Value} {a9 : Array Value} (ks : List Nat) (ws' : S → va_W) (C : jC p s m args meth c cc Ts own nL A g) (hr : jRun p l e R s m args below meth c A g nL cells slots mc ms pc L st0 rest ws (fun z => va_Qi post (fun u t => va_P g.1 vwCl (wf u) t.heap) (va_A wc z) a9) (fun z => va_A wc z))
    (hk : ks.map (fun i => ws[i]?) = wc.map some) (hfst : ∀ u, (wf u).map (·.1) = wc.map (·.1)) (hs : ∀ u, jset ws ks (wf u) = ws' u) (k : ∀ r u, post r u → jJ p l e R s m args below meth c Q A g (va_S A s.heap) nL (cells + mc) (slots + ms) (pc + 3) L (.int r :: rest) (ws' u)) : jJ p l e R s m args below meth c Q A g (va_S A s.heap) nL cells slots pc L st0 ws := fun H locs ls h1 h2 h3 h4 => by
  have hFc := va_free h3 h4 C.2.2.2.2.2.2.2 ks hk
  refine va_calli (hr H locs ls h1 h2 h3) h4 (fun q _ h => hFc q h) hFc (fun r u t H1 locs1 ht hvm hw hB hz hk1 hS => ?_)
  rw [ht] at hB
  obtain ⟨j1, j2⟩ := jset_join h2 h3 hk (hfst u) hk1 hB
  rw [hs u] at j1 j2
  exact k r u hw H1 locs1 ls h1 j1 j2 hS
end JROWS4
theorem jsaid {n : Nat} {f : Nat → Int32} {a b c d : Int32} {dp y0 y1 y2 y3 : Nat} (h0 : dp = y0 + 1) (h1 : y1 = y0 + 1) (h2 : y2 = y0 + 2) (h3 : y3 = y0 + 3) : va_cpy (upd (upd (upd (upd (fun _ => (0 : Int32)) 0 a) 1 b) 2 c) 3 d) (jrw n f) 0 dp 4 = jrw n (upd (upd (upd (upd f y0 a) y1 b) y2 c) y3 d) := by
  subst h0; subst h1; subst h2; subst h3
  funext i
  unfold va_cpy
  cases i with
  | zero => rw [if_neg (by omega)]; rfl
  | succ i =>
    show (if y0 + 1 ≤ i + 1 ∧ i + 1 < y0 + 1 + 4 then upd (upd (upd (upd (fun _ => (0 : Int32)) 0 a) 1 b) 2 c) 3 d (0 + (i + 1 - (y0 + 1))) else f i) = (upd (upd (upd (upd f y0 a) (y0 + 1) b) (y0 + 2) c) (y0 + 3) d) i
    by_cases e0 : i = y0
    · subst e0; rw [if_pos (by omega), show 0 + (i + 1 - (i + 1)) = 0 by omega]; simp [upd]
    by_cases e1 : i = y0 + 1
    · subst e1; rw [if_pos (by omega), show 0 + (y0 + 1 + 1 - (y0 + 1)) = 1 by omega]; simp [upd]
    by_cases e2 : i = y0 + 2
    · subst e2; rw [if_pos (by omega), show 0 + (y0 + 2 + 1 - (y0 + 1)) = 2 by omega]; simp [upd]
    by_cases e3 : i = y0 + 3
    · subst e3; rw [if_pos (by omega), show 0 + (y0 + 3 + 1 - (y0 + 1)) = 3 by omega]; simp [upd]
    rw [if_neg (by omega)]
    simp [upd, e0, e1, e2, e3]
/-- what ran() tells of a run -/
def jRan (v : Nat → Int64) (lk : Int32) : Nat → Int64 := fun i => if i < 4 then v i else lk.toInt64
theorem jRan_u {v r : Nat → Int64} {lk : Int32} {i : Nat} (h : i < 5) : vp_updL (va_cpy v r 0 0 4) 4 lk.toInt64 i = jRan v lk i := by
  unfold jRan
  by_cases e : i = 4
  · subst e; rw [if_neg (by decide)]; simp [vp_updL]
  · rw [if_pos (by omega)]
    simp only [vp_updL, if_neg e, va_cpy]
    rw [if_pos (by omega)]
    congr 1
    omega
theorem jI_m2 (n : Nat) : nI n - 1 - 1 = nI n - 2 := by
  rw [Int32.sub_eq_add_neg, Int32.sub_eq_add_neg, Int32.add_assoc, Int32.sub_eq_add_neg]; rfl
theorem jBt_nat2 {x : Int32} {N : Nat} (hN : N < 2 ^ 30) : jBt x 0 (nI N - 2) = true ↔ ∃ k, k + 1 < N ∧ x = nI k := by
  cases N with
  | zero =>
    constructor
    · intro h
      obtain ⟨h1, h2⟩ := jBt_iff.mp h
      exfalso
      have e : nI 0 - 2 = (-2 : Int32) := by decide
      rw [e] at h2
      rw [Int32.lt_iff_toInt_lt] at h1 h2
      have e1 : (0 : Int32).toInt = 0 := by decide
      have e2 : (-2 : Int32).toInt = -2 := by decide
      omega
    · rintro ⟨k, hk, -⟩; omega
  | succ M =>
    rw [← jI_m2, nI_pred, jBt_nat (by omega)]
    constructor
    · rintro ⟨k, hk, rfl⟩; exact ⟨k, by omega, rfl⟩
    · rintro ⟨k, hk, rfl⟩; exact ⟨k, by omega, rfl⟩
theorem jBt_n2 {k N : Nat} (hk : k + 1 < N) (hN : N ≤ 1000) : jBt (nI k) 0 (nI N - 2) = true := (jBt_nat2 (by omega)).mpr ⟨k, hk, rfl⟩
theorem jBt_1 {k N : Nat} (h1 : 1 ≤ k) (hk : k < N) (hN : N ≤ 1000) : jBt (nI k) 1 (nI N - 1) = true := by
  have h := jBt_iff.mp (jBt_n hk hN)
  refine jBt_ff ?_ h.2
  rw [show (1 : Int32) = nI 1 from rfl, nI_ltI (by omega) (by omega)]
  omega
theorem jBt_2 {k N : Nat} (h1 : 1 ≤ k) (hk : k ≤ N) (hN : N ≤ 1000) : jBt (nI k) 1 (nI N) = true := by
  have h := jBt_iff.mp (jBt_m hk hN)
  refine jBt_ff ?_ h.2
  rw [show (1 : Int32) = nI 1 from rfl, nI_ltI (by omega) (by omega)]
  omega
theorem jcp_all {α : Type} {f g : Nat → α} {n i : Nat} (h : i < n) : va_cpy f g 0 0 n i = f i := by
  unfold va_cpy
  rw [if_pos (by omega), Nat.zero_add, Nat.sub_zero]
