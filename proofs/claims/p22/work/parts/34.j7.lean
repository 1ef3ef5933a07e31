/-! the two constructors that need the tables' word of arrays over classes and arrays -/
/-- an array whose elements are arrays of ty, by the tables -/
def va_AOA (ty : FieldType) (U : State) : Prop := (Cond.arrayOver (.array ty)).before #[] U = true
theorem va_AOA.use {ty : FieldType} {A : Array Value} {U : State} (h : va_AOA ty U) : (Cond.arrayOver (.array ty)).before A U = true := h
def jPi (g : jG) (As : List Value) (ws : va_W) (sz : Nat) : Array Value → State → Prop := fun a U => jPc g As ws sz a U ∧ va_AO "LoopJoiner$Program" U ∧ va_AOA .int U
theorem jPi.blind {g : jG} {As : List Value} {ws : va_W} {sz : Nat} : FrameBlind (jPi g As ws sz) := fun a U f mk ⟨h1, h2, h3⟩ => ⟨jPc.blind a U f mk h1, va_AO.moved (u := U) (U := U.calling f mk a) (Vm.Alike.refl U.vm) h2, (show (Cond.arrayOver (.array .int)).before #[] (U.calling f mk a) = true from h3)⟩
abbrev jIv {S : Type} (l : Launch) (y : MethodName) (wsy : List Cond) (rm : Room) (mc ms : Nat) (g : jG) (As : List Value) (wc : va_W) (wf : S → va_W) : Prop := ∀ sz, Met l y wsy rm (jPi g As wc sz) (va_Qv (fun (_ : S) => True) (fun u t => va_P g.1 vwCl (wf u) t.heap ∧ va_D (va_A wc sz) (wf u)) (va_A wc sz)) mc ms (va_A wc sz)
theorem j_enterI {l : Launch} {y : MethodName} {wsy wsr : List Cond} {rm : Room} {g : jG} {As : List Value} {wc : va_W} {Qc : Nat → Array Value → State → Outcome → State → Prop} {mc ms : Nat} {cc : ByteArray} {maxL : Nat} {ret : Option FieldType} {own : String} {L : List (Nat × Value)} (hy : plainName y.cls = true) (hw : wsy = Cond.code y cc maxL ret :: wsr) (hown : y.cls = own) (hle : (lg_sl As).length ≤ maxL) (hL : lv_args 0 As = L)
    (body : ∀ (p : Program) (e : Env) (s : State) (m : MethodId) (args : Array Value) (below : List Frame) (meth : Method) (c : Code), jC p s m args meth c cc wsy own maxL (va_A wc s.heap.size) g → meth.sig.returnType = ret → meth.name = y.name → va_AO "LoopJoiner$Program" s → va_AOA .int s →
      jJ p l e (headSpec wsy rm).room s m args below meth c (MQ below (Qc s.heap.size) args s mc ms (va_A wc s.heap.size)) (va_A wc s.heap.size) g (va_S (va_A wc s.heap.size) s.heap) maxL 0 0 0 L [] wc) : ∀ sz, Met l y wsy rm (jPi g As wc sz) (Qc sz) mc ms (va_A wc sz) := by
  intro sz
  refine Met.ofW (cc := cc) (maxL := maxL) (ret := ret) hy hw ?_
  intro p e s m args below meth c s₁ B hml hv
  obtain ⟨⟨rfl, hsz, hP, hE, hD0⟩, ha1, ha2⟩ := hv
  have hts := atoms_spec (ws := wsy) B.pre
  have ho : s.vm.findClass own = some m.cls := by rw [← hown]; exact findClass_of_methodNamed B.named
  subst hsz
  have hl := lv_entry As (n := maxL) hle
  rw [lg_entry_eq]
  generalize (lg_sl As ++ List.replicate (maxL - (lg_sl As).length) Slot.unset).toArray = ls at hl ⊢
  rw [hL] at hl
  exact body p e s m _ below meth c ⟨B.exec, B.bytes, hml, ho, hts, B.notSynchronized, hE, fun _ h => Or.inr h⟩ B.returns (name_of_methodNamed B.named B.method).1 ha1 ha2 s.heap [] ls hl hP hD0.self va_S.rf
section JROWS7
variable {p : Program} {l : Launch} {e : Env} {R : Room} {s : State} {m : MethodId} {args : Array Value} {below : List Frame} {meth : Method} {c : Code} {Q : State → Prop} {A : Nat → Prop} {g : jG} {I : Heap → List Loc → Prop} {nL cells slots pc : Nat} {L : List (Nat × Value)} {st : List Value} {ws : va_W} {cc : ByteArray} {Ts : List Cond} {own : String}
theorem j_anewP {n : Int32} {N index : Nat} (C : jC p s m args meth c cc Ts own nL A g) (hd : decode cc pc = .ok (.anewarray index, 3)) (hw : Cond.classLink own index "LoopJoiner$Program" ∈ Ts) (ha : va_AO "LoopJoiner$Program" s) (hn : n = nI N) (hN : N ≤ 1000) (hf : cells + 1 ≤ R.cells ∧ slots + N ≤ R.slots) (k : ∀ q : Nat, jJ p l e R s m args below meth c Q A g (va_S A s.heap) nL (cells + 1) (slots + N) (pc + 3) L (.ref q :: st) (ws ++ [(q, jaP g N (fun _ => none))])) : jJ p l e R s m args below meth c Q A g (va_S A s.heap) nL cells slots pc L (.int n :: st) ws := fun H locs ls h1 h2 h3 h4 => by
  subst hn
  refine va_newq C.1 C.2.1 C.2.2.2.1 (C.2.2.2.2.1 _ hw) ha C.2.2.2.2.2.2.1.1 h2 h3 h4 C.2.2.2.2.2.2.2 (nI_pos (by omega)) (nI_clamp (by omega)) (by omega) hf.1 hf.2 hd (fun q cA H1 hK1 k1 k2 k3 => ?_)
  obtain ⟨-, -, -, -, -, e1⟩ := (hK1.2 (jT g).length _ (by rw [List.getElem?_append_right (Nat.le_refl _), Nat.sub_self]; rfl)).2
  obtain ⟨-, -, -, -, -, e2⟩ := (C.2.2.2.2.2.2.1.1.2 3 _ rfl).2
  have e3 : some cA = some g.2.2.2.2.1 := e1.symm.trans e2
  cases e3
  exact k q H1 locs ls h1 k1 k2 k3
end JROWS7
section JROWS8
variable {p : Program} {l : Launch} {e : Env} {R : Room} {s : State} {m : MethodId} {args : Array Value} {below : List Frame} {meth : Method} {c : Code} {Q : State → Prop} {A : Nat → Prop} {g : jG} {I : Heap → List Loc → Prop} {nL cells slots pc : Nat} {L : List (Nat × Value)} {st : List Value} {ws : va_W} {cc : ByteArray} {Ts : List Cond} {own : String}
theorem j_arrR {a n : Nat} {f f' : Nat → Option Nat} {ws' : va_W} (q : Nat) (hq : ws[q]? = some (a, jaR g n f)) (h : ∀ i, i < n → f i = f' i) (hs : ws.set q (a, jaR g n f') = ws') (k : jJ p l e R s m args below meth c Q A g I nL cells slots pc L st ws') : jJ p l e R s m args below meth c Q A g I nL cells slots pc L st ws := by
  have hl := (List.getElem?_eq_some_iff.mp hq).1
  refine j_cell (ws' := ws') (fun H hP => ?_) ?_ k
  · subst hs
    intro i x hx
    rw [List.getElem?_set] at hx
    by_cases hi : q = i
    · rw [if_pos hi, if_pos (hi ▸ hl)] at hx
      cases hx
      have h1 := hP q _ hq
      show H[a]? = some (vp_cell _ _)
      rw [show H[a]? = some (vp_cell g.2.2.2.2.2 (n, .inr (.inr (.inr (.inr f))))) from h1, vp_cell_q, vp_cell_q]
      refine congrArg some ?_
      unfold arrV
      congr 1
      apply Array.ext
      · simp
      · intro j h1 h2
        simp only [Array.getElem_ofFn]
        rw [h j (by simpa using h1)]
    · rw [if_neg hi] at hx
      exact hP i x hx
  · subst hs
    apply List.ext_getElem?
    intro i
    rw [List.getElem?_map, List.getElem?_map, List.getElem?_set]
    by_cases hi : q = i
    · subst hi
      rw [if_pos rfl, if_pos hl, hq]
      rfl
    · rw [if_neg hi]
end JROWS8
