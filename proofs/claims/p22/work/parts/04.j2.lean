def jb (b : Bool) : Int32 := cond b 1 0
theorem jb_0 {b : Bool} (h : jb b = 0) : b = false := by cases b; rfl; exact absurd h (by decide)
theorem jb_1 {b : Bool} (h : ¬ jb b = 0) : b = true := by cases b; exact absurd rfl h; rfl
theorem jb_n (b : Bool) : narrow .boolean (.int (jb b)) = .int (jb b) := by cases b <;> rfl
section JROWS2
variable {p : Program} {l : Launch} {e : Env} {R : Room} {s : State} {m : MethodId} {args : Array Value} {below : List Frame} {meth : Method} {c : Code} {Q : State → Prop} {A : Nat → Prop} {g : jG} {I : Heap → List Loc → Prop} {nL cells slots pc : Nat} {L : List (Nat × Value)} {st : List Value} {ws : va_W} {cc : ByteArray} {Ts : List Cond} {own : String}
/-- a loop, by a measure that falls -/
theorem j_loop {σ : Type} (Lf : σ → List (Nat × Value)) (wf : σ → va_W) (Inv : σ → Prop) (μ : σ → Nat)
    (step : ∀ x, Inv x → (∀ y, Inv y → μ y < μ x → jJ p l e R s m args below meth c Q A g I nL cells slots pc (Lf y) [] (wf y)) → jJ p l e R s m args below meth c Q A g I nL cells slots pc (Lf x) [] (wf x)) (x : σ) (hx : Inv x) (hL : L = Lf x) (hw : ws = wf x) : jJ p l e R s m args below meth c Q A g I nL cells slots pc L [] ws := by
  subst hL; subst hw
  have key : ∀ (N : Nat) (x : σ), μ x < N → Inv x → jJ p l e R s m args below meth c Q A g I nL cells slots pc (Lf x) [] (wf x) := by
    intro N
    induction N with
    | zero => intro x h; exact absurd h (Nat.not_lt_zero _)
    | succ N ih => intro x h hI; exact step x hI (fun y hy hlt => ih y (by omega) hy)
  exact key (μ x + 1) x (Nat.lt_succ_self _) hx
theorem j_pick {L' : List (Nat × Value)} (ks : List Nat) (hs : lv_pick L ks = L') (k : jJ p l e R s m args below meth c Q A g I nL cells slots pc L' st ws) : jJ p l e R s m args below meth c Q A g I nL cells slots pc L st ws := fun H locs ls h1 h2 h3 h4 => k H locs ls (lv_sub h1 ks hs) h2 h3 h4
theorem j_ialdN {a n x : Nat} {f : Nat → Int32} {i : Int32} (q : Nat) (C : jC p s m args meth c cc Ts own nL A g) (hd : decode cc pc = .ok (.iaload, 1)) (hq : ws[q]? = some (a, jaI g n f)) (hi : i = nI x) (hx : x < n) (hn : n < 2 ^ 31) (k : jJ p l e R s m args below meth c Q A g I nL cells slots (pc + 1) L (.int (f x) :: st) ws) : jJ p l e R s m args below meth c Q A g I nL cells slots pc L (.int i :: .ref a :: st) ws := by
  subst hi
  refine j_iald q C hd hq (vp_in_nI hx hn) ?_
  rw [nI_clamp (by omega)]
  exact k
theorem j_laldN {a n x : Nat} {f : Nat → Int64} {i : Int32} (q : Nat) (C : jC p s m args meth c cc Ts own nL A g) (hd : decode cc pc = .ok (.laload, 1)) (hq : ws[q]? = some (a, jaL g n f)) (hi : i = nI x) (hx : x < n) (hn : n < 2 ^ 31) (k : jJ p l e R s m args below meth c Q A g I nL cells slots (pc + 1) L (.long (f x) :: st) ws) : jJ p l e R s m args below meth c Q A g I nL cells slots pc L (.int i :: .ref a :: st) ws := by
  subst hi
  refine j_lald q C hd hq (vp_in_nI hx hn) ?_
  rw [nI_clamp (by omega)]
  exact k
theorem j_iastN {a n x : Nat} {f : Nat → Int32} {i v : Int32} {ws' : va_W} (q : Nat) (C : jC p s m args meth c cc Ts own nL A g) (hd : decode cc pc = .ok (.iastore, 1)) (hq : ws[q]? = some (a, jaI g n f)) (hi : i = nI x) (hx : x < n) (hn : n < 2 ^ 31) (hs : ws.set q (a, jaI g n (upd f x v)) = ws') (k : jJ p l e R s m args below meth c Q A g (va_S A s.heap) nL cells slots (pc + 1) L st ws') : jJ p l e R s m args below meth c Q A g (va_S A s.heap) nL cells slots pc L (.int v :: .int i :: .ref a :: st) ws := by
  subst hi
  refine j_iast q C hd hq (vp_in_nI hx hn) ?_ k
  rw [nI_clamp (by omega)]
  exact hs
theorem j_lastN {a n x : Nat} {f : Nat → Int64} {i : Int32} {v : Int64} {ws' : va_W} (q : Nat) (C : jC p s m args meth c cc Ts own nL A g) (hd : decode cc pc = .ok (.lastore, 1)) (hq : ws[q]? = some (a, jaL g n f)) (hi : i = nI x) (hx : x < n) (hn : n < 2 ^ 31) (hs : ws.set q (a, jaL g n (vp_updL f x v)) = ws') (k : jJ p l e R s m args below meth c Q A g (va_S A s.heap) nL cells slots (pc + 1) L st ws') : jJ p l e R s m args below meth c Q A g (va_S A s.heap) nL cells slots pc L (.long v :: .int i :: .ref a :: st) ws := by
  subst hi
  refine j_last q C hd hq (vp_in_nI hx hn) ?_ k
  rw [nI_clamp (by omega)]
  exact hs
theorem j_getN {a ci N ix : Nat} {host Cn : String} {T : u_T} {fs : List Value} {v : Value} (q k0 : Nat) (C : jC p s m args meth c cc Ts own nL A g) (hd : decode cc pc = .ok (.getfield ix, 3)) (hin : ∀ w ∈ u_ws Cn T N, w ∈ Ts) (hq : ws[q]? = some (a, .inr (ci, fs))) (hc : vwCl[ci]? = some (Cn, T, N)) (hk : k0 < N) (hw : va_Nw (.fieldLinkNest own ix (T k0).1 (T k0).2.1 (T k0).2.2.1 host) s) (hv : fs[k0]? = some v) (k : jJ p l e R s m args below meth c Q A g I nL cells slots (pc + 3) L (v :: st) ws) : jJ p l e R s m args below meth c Q A g I nL cells slots pc L (.ref a :: st) ws := fun H locs ls h1 h2 h3 h4 => va_getN C.1 C.2.1 C.2.2.2.2.1 hin C.2.2.2.1 C.2.2.2.2.2.2.1.1 h2 q hq hc k0 hk (va_Nw.use rfl hw) (fun _ h9 => h9) hv hd (k H locs ls h1 h2 h3 h4)
end JROWS2
