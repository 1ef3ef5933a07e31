/-! LAW 1: contracts over the whole world, in whatever order it lies -/
abbrev jOi (v : Int32) : Outcome := .returned (some (.int v))
abbrev jOl (v : Int64) : Outcome := .returned (some (.long v))
abbrev jOd (v : UInt64) : Outcome := .returned (some (.double v))
def jQo (oc : Outcome) (Good : va_W → Prop) (g : jG) (A : Nat → Prop) : Array Value → State → Outcome → State → Prop := fun _ st o t => (o = oc ∧ ∃ w, Good w ∧ va_P g.1 vwCl w t.heap ∧ va_D A w) ∧ va_F A st t
def jO (l : Launch) (y : MethodName) (wsy : List Cond) (rm : Room) (g : jG) (As : List Value) (W : va_W) (oc : Outcome) (Good : va_W → Prop) : Prop := ∀ sz, Met l y wsy rm (jPc g As W sz) (jQo oc Good g (va_A W sz)) rm.cells rm.slots (va_A W sz)
theorem jA_sub {W wc : va_W} {sz : Nat} {ks : List Nat} (hk : ks.map (fun i => W[i]?) = wc.map some) : ∀ q, va_A wc sz q → va_A W sz q := by
  rintro q (⟨i, e, h⟩ | h)
  · have h1 : (ks.map (fun i => W[i]?))[i]? = some (some (q, e)) := by rw [hk, List.getElem?_map, h]; rfl
    rw [List.getElem?_map] at h1
    cases hi : ks[i]? with
    | none => rw [hi] at h1; cases h1
    | some j => rw [hi] at h1; exact Or.inl ⟨j, e, Option.some.inj h1⟩
  · exact Or.inr h
theorem jA_mem {W : va_W} {sz q : Nat} : va_A W sz q ↔ (q ∈ W.map (·.1)) ∨ sz ≤ q := by
  constructor
  · rintro (⟨i, e, h⟩ | h)
    · exact Or.inl (List.mem_map.mpr ⟨_, List.mem_of_getElem? h, rfl⟩)
    · exact Or.inr h
  · rintro (h | h)
    · obtain ⟨z, h1, h2⟩ := List.mem_map.mp h
      obtain ⟨i, hi⟩ := List.getElem?_of_mem h1
      exact Or.inl ⟨i, z.2, by rw [hi, ← h2]⟩
    · exact Or.inr h
theorem jA_perm {W W' : va_W} {sz : Nat} (h : W.Perm W') : va_A W sz = va_A W' sz := by
  funext q
  exact propext (by rw [jA_mem, jA_mem, (h.map (·.1)).mem_iff])
theorem jP_perm {D : va_G} {cl : List vw_C} {W W' : va_W} {H : Heap} (h : W.Perm W') (hP : va_P D cl W H) : va_P D cl W' H := jP_iff.mpr fun q hq => jP_iff.mp hP q (h.mem_iff.mpr hq)
theorem jD_perm {A : Nat → Prop} {W W' : va_W} (h : W.Perm W') (hD : va_D A W) : va_D A W' := jD_iff.mpr ⟨((h.map (·.1)).nodup_iff).mp (jD_iff.mp hD).1, fun q hq => (jD_iff.mp hD).2 q (h.mem_iff.mpr hq)⟩
theorem jD_fst {A : Nat → Prop} {w w1 : va_W} (h : w1.map (·.1) = w.map (·.1)) (hD : va_D A w) : va_D A w1 := by
  have h5 := jD_iff.mp hD
  refine jD_iff.mpr ⟨by rw [h]; exact h5.1, fun q hq => ?_⟩
  have : q.1 ∈ w1.map (·.1) := List.mem_map.mpr ⟨q, hq, rfl⟩
  rw [h] at this
  obtain ⟨z, z1, z2⟩ := List.mem_map.mp this
  rw [← z2]; exact h5.2 z z1
theorem jO_perm {l : Launch} {y : MethodName} {wsy : List Cond} {rm : Room} {g : jG} {As : List Value} {W W' : va_W} {oc : Outcome} {Good : va_W → Prop} (h : W'.Perm W) (k : jO l y wsy rm g As W oc Good) : jO l y wsy rm g As W' oc Good := by
  intro sz p e ha hc hk s m args below hf happ hP _
  obtain ⟨h1, h2, h3, h4, h5⟩ := hP
  rw [jA_perm h]
  exact k sz p e ha hc hk s m args below hf happ ⟨h1, h2, jP_perm h h3, h4, jD_perm h h5⟩ trivial
theorem jO_imp {l : Launch} {y : MethodName} {wsy : List Cond} {rm : Room} {g : jG} {As : List Value} {W : va_W} {oc : Outcome} {Good Good' : va_W → Prop} (h : ∀ w, Good w → Good' w) (k : jO l y wsy rm g As W oc Good) : jO l y wsy rm g As W oc Good' := by
  intro sz p e ha hc hk s m args below hf happ hP _
  obtain ⟨n, o, q1, q2, q3, ⟨⟨ho, w, hw, h1, h2⟩, hF⟩, L⟩ := k sz p e ha hc hk s m args below hf happ hP trivial
  exact ⟨n, o, q1, q2, q3, ⟨⟨ho, w, h w hw, h1, h2⟩, hF⟩, L⟩
theorem jF_wide {A B : Nat → Prop} {st t : State} (h : ∀ q, A q → B q) (hF : va_F A st t) : va_F B st t := ⟨hF.1, fun q h1 h2 => hF.2 q h1 (fun z => h2 (h q z))⟩
theorem jO_raw {S : Type} {w1 ex : S → va_W} {l : Launch} {y : MethodName} {wsy : List Cond} {rm : Room} {mc ms : Nat} {g : jG} {As : List Value} {wc W : va_W} {oc : Outcome} {Qc : Nat → Array Value → State → Outcome → State → Prop} {fr : Nat → Nat → Prop} (ks : List Nat) (hM : ∀ sz, Met l y wsy rm (jPc g As wc sz) (Qc sz) mc ms (fr sz)) (hmc : rm.cells = mc) (hms : rm.slots = ms) (hfr : ∀ sz q, fr sz q → va_A wc sz q)
    (hQ : ∀ sz a st o t, va_D (va_A wc sz) wc → va_P g.1 vwCl wc st.heap → Qc sz a st o t → o = oc ∧ (∃ u, va_P g.1 vwCl (w1 u ++ ex u) t.heap ∧ va_D (va_A wc sz) (w1 u ++ ex u)) ∧ va_F (va_A wc sz) st t)
    (hk : ks.map (fun i => W[i]?) = wc.map some) (hnd : va_nd ks = true) (hfst : ∀ u, (w1 u).map (·.1) = wc.map (·.1)) : jO l y wsy rm g As W oc (fun w => ∃ u, w = jset W ks (w1 u) ++ ex u) := by
  subst hmc; subst hms
  intro sz p e ha hc hk' s m args below hf happ hP _
  obtain ⟨h1, h2, h3, h4, h5⟩ := hP
  obtain ⟨c2, c3⟩ := j_cut (g := g) hk hnd h3 h5
  obtain ⟨n, o, q1, q2, q3, hq, L, hF, hL⟩ := hM sz p e ha hc hk' s m args below hf happ ⟨h1, h2, c2, h4, c3⟩ trivial
  obtain ⟨ho, ⟨u, hu1, hu2⟩, hF2⟩ := hQ sz _ _ _ _ c3.self c2 hq
  have hsub := jA_sub (sz := sz) hk
  subst h2
  obtain ⟨j1, j2⟩ := jset_joinN h3 h5.self hk (hfst u) hsub hF2.2 hu1 hu2
  exact ⟨n, o, q1, q2, q3, ⟨⟨ho, _, ⟨u, rfl⟩, j1, j2⟩, jF_wide hsub hF2⟩, L, hF, fun q hq => hsub _ (hfr _ _ (hL q hq))⟩
section JFR
variable {S : Type} {l : Launch} {y : MethodName} {wsy : List Cond} {rm : Room} {mc ms : Nat} {g : jG} {As : List Value} {wc W : va_W} {wf : S → va_W} {v : Int32} {z : Int64} {d : UInt64}
theorem jO_i (ks : List Nat) (hM : ∀ sz, Met l y wsy rm (jPc g As wc sz) (va_Qi (fun r (_ : S) => r = v) (fun u t => va_P g.1 vwCl (wf u) t.heap) (va_A wc sz)) mc ms (va_A wc sz)) (hk : ks.map (fun i => W[i]?) = wc.map some) (hmc : rm.cells = mc) (hms : rm.slots = ms) (hnd : va_nd ks = true) (hfst : ∀ u, (wf u).map (·.1) = wc.map (·.1)) : jO l y wsy rm g As W (jOi v) (fun w => ∃ u, w = jset W ks (wf u)) :=
  jO_imp (fun w ⟨u, h⟩ => ⟨u, by rw [h, List.append_nil]⟩) (jO_raw (w1 := wf) (ex := fun _ => []) ks hM hmc hms (fun _ _ h => h) (fun sz a st o t h0 _ ⟨⟨r, u, e1, e2, e3⟩, hF⟩ => ⟨by rw [e1, e2], ⟨u, by rw [List.append_nil]; exact e3, by rw [List.append_nil]; exact jD_fst (hfst u) h0⟩, hF⟩) hk hnd hfst)
theorem jO_l (ks : List Nat) (hM : ∀ sz, Met l y wsy rm (jPc g As wc sz) (va_Ql (fun r (_ : S) => r = z) (fun u t => va_P g.1 vwCl (wf u) t.heap) (va_A wc sz)) mc ms (va_A wc sz)) (hk : ks.map (fun i => W[i]?) = wc.map some) (hmc : rm.cells = mc) (hms : rm.slots = ms) (hnd : va_nd ks = true) (hfst : ∀ u, (wf u).map (·.1) = wc.map (·.1)) : jO l y wsy rm g As W (jOl z) (fun w => ∃ u, w = jset W ks (wf u)) :=
  jO_imp (fun w ⟨u, h⟩ => ⟨u, by rw [h, List.append_nil]⟩) (jO_raw (w1 := wf) (ex := fun _ => []) ks hM hmc hms (fun _ _ h => h) (fun sz a st o t h0 _ ⟨⟨r, u, e1, e2, e3⟩, hF⟩ => ⟨by rw [e1, e2], ⟨u, by rw [List.append_nil]; exact e3, by rw [List.append_nil]; exact jD_fst (hfst u) h0⟩, hF⟩) hk hnd hfst)
theorem jO_d (ks : List Nat) (hM : ∀ sz, Met l y wsy rm (jPc g As wc sz) (va_Qd (fun r (_ : S) => r = d) (fun u t => va_P g.1 vwCl (wf u) t.heap) (va_A wc sz)) mc ms (va_A wc sz)) (hk : ks.map (fun i => W[i]?) = wc.map some) (hmc : rm.cells = mc) (hms : rm.slots = ms) (hnd : va_nd ks = true) (hfst : ∀ u, (wf u).map (·.1) = wc.map (·.1)) : jO l y wsy rm g As W (jOd d) (fun w => ∃ u, w = jset W ks (wf u)) :=
  jO_imp (fun w ⟨u, h⟩ => ⟨u, by rw [h, List.append_nil]⟩) (jO_raw (w1 := wf) (ex := fun _ => []) ks hM hmc hms (fun _ _ h => h) (fun sz a st o t h0 _ ⟨⟨r, u, e1, e2, e3⟩, hF⟩ => ⟨by rw [e1, e2], ⟨u, by rw [List.append_nil]; exact e3, by rw [List.append_nil]; exact jD_fst (hfst u) h0⟩, hF⟩) hk hnd hfst)
theorem jO_n {w1 ex : S → va_W} (ks : List Nat) (hM : ∀ sz, Met l y wsy rm (jPc g As wc sz) (va_Qi (fun r (_ : S) => r = v) (fun u t => va_P g.1 vwCl (w1 u ++ ex u) t.heap ∧ va_D (va_A wc sz) (w1 u ++ ex u)) (va_A wc sz)) mc ms (va_A wc sz)) (hk : ks.map (fun i => W[i]?) = wc.map some) (hmc : rm.cells = mc) (hms : rm.slots = ms) (hnd : va_nd ks = true) (hfst : ∀ u, (w1 u).map (·.1) = wc.map (·.1)) : jO l y wsy rm g As W (jOi v) (fun w => ∃ u, w = jset W ks (w1 u) ++ ex u) :=
  jO_raw (w1 := w1) (ex := ex) ks hM hmc hms (fun _ _ h => h) (fun sz a st o t h0 _ ⟨⟨r, u, e1, e2, e3⟩, hF⟩ => ⟨by rw [e1, e2], ⟨u, e3⟩, hF⟩) hk hnd hfst
theorem jF_same {A : Nat → Prop} {st t : State} (h : t.heap = st.heap) : va_F A st t := ⟨by rw [h]; exact Nat.le_refl _, fun q _ _ => by rw [h]⟩
theorem jset_nil (W : va_W) : jset W [] [] = W := rfl
/-- a reader's contract: the world is as it was -/
theorem jO_ri (ks : List Nat) (hM : ∀ sz, Met l y wsy rm (jPc g As wc sz) (vp_Si (fun r => r = v)) 0 0 (fun _ => False)) (hk : ks.map (fun i => W[i]?) = wc.map some) (hmc : rm.cells = 0) (hms : rm.slots = 0) (hnd : va_nd ks = true) : jO l y wsy rm g As W (jOi v) (fun w => w = W) := by
  intro sz p e ha hc hk' s m args below hf happ hP _
  rw [hmc, hms]
  obtain ⟨h1, h2, h3, h4, h5⟩ := hP
  obtain ⟨c2, c3⟩ := j_cut (g := g) hk hnd h3 h5
  obtain ⟨n, o, q1, q2, q3, ⟨r, e1, e2, e3⟩, L, hF, hL⟩ := hM sz p e ha hc hk' s m args below hf happ ⟨h1, h2, c2, h4, c3⟩ trivial
  exact ⟨n, o, q1, q2, q3, ⟨⟨by rw [e1, e2], W, rfl, by rw [e3]; exact h3, h5.self⟩, jF_same e3⟩, L, hF, fun q hq => (hL q hq).elim⟩
theorem jO_rl (ks : List Nat) (hM : ∀ sz, Met l y wsy rm (jPc g As wc sz) (vp_Sl (fun r => r = z)) 0 0 (fun _ => False)) (hk : ks.map (fun i => W[i]?) = wc.map some) (hmc : rm.cells = 0) (hms : rm.slots = 0) (hnd : va_nd ks = true) : jO l y wsy rm g As W (jOl z) (fun w => w = W) := by
  intro sz p e ha hc hk' s m args below hf happ hP _
  rw [hmc, hms]
  obtain ⟨h1, h2, h3, h4, h5⟩ := hP
  obtain ⟨c2, c3⟩ := j_cut (g := g) hk hnd h3 h5
  obtain ⟨n, o, q1, q2, q3, ⟨r, e1, e2, e3⟩, L, hF, hL⟩ := hM sz p e ha hc hk' s m args below hf happ ⟨h1, h2, c2, h4, c3⟩ trivial
  exact ⟨n, o, q1, q2, q3, ⟨⟨by rw [e1, e2], W, rfl, by rw [e3]; exact h3, h5.self⟩, jF_same e3⟩, L, hF, fun q hq => (hL q hq).elim⟩
end JFR
/-! contracts of the law's own methods: beside the world, the script at b and the tables' word of arrays of arrays -/
def jSc (s : State) (b L : Nat) (xs : Nat → Int32) (A : Nat → Prop) : Prop := va_AOA .int s ∧ va_X b L xs s s.heap ∧ ¬ A b ∧ b < s.heap.size
def jPs (g : jG) (As : List Value) (ws : va_W) (sz b L : Nat) (xs : Nat → Int32) : Array Value → State → Prop := fun a U => jPc g As ws sz a U ∧ va_AOA .int U ∧ va_X b L xs U U.heap ∧ ¬ va_A ws sz b ∧ b < U.heap.size
theorem jPs.blind {g : jG} {As : List Value} {ws : va_W} {sz b L : Nat} {xs : Nat → Int32} : FrameBlind (jPs g As ws sz b L xs) := fun a U f mk ⟨h1, h2, h3, h4, h5⟩ => ⟨jPc.blind a U f mk h1, (show (Cond.arrayOver (.array .int)).before #[] (U.calling f mk a) = true from h2), va_X.moved (u := U) (U := U.calling f mk a) (Vm.Alike.refl U.vm) h3, h4, h5⟩
def jQs (Good : Outcome → va_W → Prop) (g : jG) (A : Nat → Prop) : Array Value → State → Outcome → State → Prop := fun _ st o t => (∃ w, Good o w ∧ va_P g.1 vwCl w t.heap ∧ va_D A w) ∧ va_F A st t
def jOs (l : Launch) (y : MethodName) (wsy : List Cond) (rm : Room) (g : jG) (b L : Nat) (xs : Nat → Int32) (As : List Value) (W : va_W) (Good : Outcome → va_W → Prop) : Prop := ∀ sz, Met l y wsy rm (jPs g As W sz b L xs) (jQs Good g (va_A W sz)) rm.cells rm.slots (va_A W sz)
theorem jAOA_warm {s U : State} (hW : s.WarmedH U.vm) (h : va_AOA .int s) : va_AOA .int U := by
  have h1 : (Cond.arrayOver (.array .int)).before #[] (s.setVm U.vm) = true := (Cond.arrayOver_setVmC hW.alike _).trans h
  exact h1
theorem j_enterS {l : Launch} {y : MethodName} {wsy wsr : List Cond} {rm : Room} {g : jG} {b Ln : Nat} {xs : Nat → Int32} {As : List Value} {wc : va_W} {Qc : Nat → Array Value → State → Outcome → State → Prop} {mc ms : Nat} {cc : ByteArray} {maxL : Nat} {ret : Option FieldType} {own : String} {L : List (Nat × Value)} (hy : plainName y.cls = true) (hw : wsy = Cond.code y cc maxL ret :: wsr) (hown : y.cls = own) (hle : (lg_sl As).length ≤ maxL) (hL : lv_args 0 As = L)
    (body : ∀ (p : Program) (e : Env) (s : State) (m : MethodId) (args : Array Value) (below : List Frame) (meth : Method) (c : Code), jC p s m args meth c cc wsy own maxL (va_A wc s.heap.size) g → meth.sig.returnType = ret → jSc s b Ln xs (va_A wc s.heap.size) →
      jJ p l e (headSpec wsy rm).room s m args below meth c (MQ below (Qc s.heap.size) args s mc ms (va_A wc s.heap.size)) (va_A wc s.heap.size) g (va_S (va_A wc s.heap.size) s.heap) maxL 0 0 0 L [] wc) : ∀ sz, Met l y wsy rm (jPs g As wc sz b Ln xs) (Qc sz) mc ms (va_A wc sz) := by
  intro sz
  refine Met.ofW (cc := cc) (maxL := maxL) (ret := ret) hy hw ?_
  intro p e s m args below meth c s₁ B hml hv
  obtain ⟨⟨rfl, hsz, hP, hE, hD0⟩, k1, k2, k3, k4⟩ := hv
  have hts := atoms_spec (ws := wsy) B.pre
  have ho : s.vm.findClass own = some m.cls := by rw [← hown]; exact findClass_of_methodNamed B.named
  subst hsz
  have hl := lv_entry As (n := maxL) hle
  rw [lg_entry_eq]
  generalize (lg_sl As ++ List.replicate (maxL - (lg_sl As).length) Slot.unset).toArray = ls at hl ⊢
  rw [hL] at hl
  exact body p e s m _ below meth c ⟨B.exec, B.bytes, hml, ho, hts, B.notSynchronized, hE, fun _ h => Or.inr h⟩ B.returns ⟨k1, k2, k3, k4⟩ s.heap [] ls hl hP hD0.self va_S.rf
