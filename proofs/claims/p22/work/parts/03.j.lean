/-! THE SESSION'S OWN JUDGEMENT: a method's frame at pc, its locals and stack as lists, its world as a list; heap and slots are quantified inside. -/
abbrev jG : Type := va_G × ClassId × ClassId × ClassId × ClassId × ClassId
def jT (g : jG) : List (ClassId × FieldType) := [(g.2.1, .int), (g.2.2.1, .long), (g.2.2.1, .long), (g.2.2.2.2.1, .object "LoopJoiner$Program"), (g.2.2.2.2.2, .array .int)]
/-- what the tables say, the same in every state of the run -/
def jE (g : jG) (U : State) : Prop := va_K g.1 vwCl (jT g) U ∧ va_Nw (.methodLinkNest "LoopJoiner" 28 ⟨"LoopJoiner$Runner", "<init>", "()V"⟩ "LoopJoiner") U ∧ va_Nw (.methodLinkNest "LoopJoiner" 41 ⟨"LoopJoiner$Cases", "<init>", "()V"⟩ "LoopJoiner") U ∧ va_Nw (.methodLinkNest "LoopJoiner" 49 ⟨"LoopJoiner$Program", "<init>", "()V"⟩ "LoopJoiner") U ∧ va_Nw (.methodLinkNest "LoopJoiner$Runner" 60 ⟨"LoopJoiner", "isVariable", "(I)Z"⟩ "LoopJoiner") U ∧ va_Nw (.methodLinkNest "LoopJoiner$Runner" 60 ⟨"LoopJoiner", "isVariable", "(I)Z"⟩ "LoopJoiner") U ∧ va_Nw (.methodLinkNest "LoopJoiner$Reasons" 68 ⟨"LoopJoiner", "isVariable", "(I)Z"⟩ "LoopJoiner") U ∧ va_Nw (.fieldLinkNest "LoopJoiner" 174 "LoopJoiner$Cases" "digits" "[J" "LoopJoiner") U ∧ va_Nw (.fieldLinkNest "LoopJoiner" 177 "LoopJoiner$Cases" "length" "I" "LoopJoiner") U
theorem jE.calling {g : jG} {U : State} {f : JFrame} {mk : MethodId} {a : Array Value} (h : jE g U) : jE g (U.calling f mk a) :=
  ⟨va_K.moved (u := U) (U := U.calling f mk a) (Vm.Alike.refl U.vm) h.1, h.2.1.same rfl rfl, h.2.2.1.same rfl rfl, h.2.2.2.1.same rfl rfl, h.2.2.2.2.1.same rfl rfl, h.2.2.2.2.2.1.same rfl rfl, h.2.2.2.2.2.2.1.same rfl rfl, h.2.2.2.2.2.2.2.1.same rfl rfl, h.2.2.2.2.2.2.2.2.same rfl rfl⟩
theorem jE.warm {g : jG} {s U : State} (hW : s.WarmedH U.vm) (h : jE g s) : jE g U :=
  ⟨va_K.moved hW.alike h.1, va_Nw.warmM hW h.2.1, va_Nw.warmM hW h.2.2.1, va_Nw.warmM hW h.2.2.2.1, va_Nw.warmM hW h.2.2.2.2.1, va_Nw.warmM hW h.2.2.2.2.2.1, va_Nw.warmM hW h.2.2.2.2.2.2.1, va_Nw.warmF hW h.2.2.2.2.2.2.2.1, va_Nw.warmF hW h.2.2.2.2.2.2.2.2⟩
abbrev jaI (g : jG) (n : Nat) (f : Nat → Int32) : va_E := .inl (g.2.1, n, .inl f)
abbrev jaL (g : jG) (n : Nat) (f : Nat → Int64) : va_E := .inl (g.2.2.1, n, .inr (.inl f))
abbrev jaD (g : jG) (n : Nat) (f : Nat → UInt64) : va_E := .inl (g.2.2.2.1, n, .inr (.inr (.inr (.inl f))))
abbrev jaP (g : jG) (n : Nat) (f : Nat → Option Nat) : va_E := .inl (g.2.2.2.2.1, n, .inr (.inr (.inr (.inr f))))
abbrev jaR (g : jG) (n : Nat) (f : Nat → Option Nat) : va_E := .inl (g.2.2.2.2.2, n, .inr (.inr (.inr (.inr f))))
/-- every contract's start: the arguments, the world, its addresses apart -/
def jPc (g : jG) (As : List Value) (ws : va_W) (sz : Nat) : Array Value → State → Prop := va_Pc As (fun U => U.heap.size = sz ∧ va_P g.1 vwCl ws U.heap ∧ jE g U ∧ va_D (fun _ => True) ws)
theorem jPc.blind {g : jG} {As : List Value} {ws : va_W} {sz : Nat} : FrameBlind (jPc g As ws sz) := fun a U f mk ⟨h1, h2, h3, h4, h5⟩ => ⟨h1, h2, h3, h4.calling, h5⟩
/-- a local is set in its place; a new one comes last -/
def jput : List (Nat × Value) → Nat → Value → List (Nat × Value)
  | [], i, v => [(i, v)]
  | q :: r, i, v => match q.1 == i with
    | true => (i, v) :: r.filter (fun q => !(q.1 == i))
    | false => q :: jput r i v
theorem jput_mem {i : Nat} {v : Value} : ∀ {L : List (Nat × Value)} {q : Nat × Value}, q ∈ jput L i v → q = (i, v) ∨ (q ∈ L ∧ q.1 ≠ i)
  | [], q, h => Or.inl (List.mem_singleton.mp h)
  | x :: r, q, h => by
    unfold jput at h
    split at h
    · rename_i hb
      rcases List.mem_cons.mp h with h | h
      · exact Or.inl h
      · obtain ⟨h1, h2⟩ := List.mem_filter.mp h
        refine Or.inr ⟨List.mem_cons_of_mem _ h1, fun e => ?_⟩
        rw [e] at h2
        simp at h2
    · rename_i hb
      rcases List.mem_cons.mp h with h | h
      · subst h
        refine Or.inr ⟨List.mem_cons_self, fun e => ?_⟩
        rw [e] at hb
        simp at hb
      · rcases jput_mem h with h | ⟨h1, h2⟩
        · exact Or.inl h
        · exact Or.inr ⟨List.mem_cons_of_mem _ h1, h2⟩
def jcl1 (i : Nat) (q : Nat × Value) : Bool := q.1 == i || !(q.1 + 1 == i && q.2.category == 2)
def jcl2 (i : Nat) (q : Nat × Value) : Bool := q.1 == i || (!(q.1 == i + 1) && !(q.1 + 1 == i && q.2.category == 2))
theorem jput_1 {ls : Array Slot} {nL i : Nat} {v : Value} {L L' : List (Nat × Value)} (hc : L.all (jcl1 i) = true) (hL : jput L i v = L') (h : lv_has ls nL ((i, v) :: L.filter (fun q => !(q.1 == i) && !(q.1 + 1 == i && q.2.category == 2)))) : lv_has ls nL L' := by
  subst hL
  refine ⟨h.1, h.2.1, fun q hq => h.2.2 q ?_⟩
  rcases jput_mem hq with h1 | ⟨h1, h2⟩
  · rw [h1]; exact List.mem_cons_self
  · refine List.mem_cons_of_mem _ (List.mem_filter.mpr ⟨h1, ?_⟩)
    have h3 := List.all_eq_true.mp hc q h1
    simp [jcl1] at h3
    simp [h2]
    rcases h3 with h3 | h3
    · exact absurd h3 h2
    · exact h3
theorem jput_2 {ls : Array Slot} {nL i : Nat} {v : Value} {L L' : List (Nat × Value)} (hc : L.all (jcl2 i) = true) (hL : jput L i v = L') (h : lv_has ls nL ((i, v) :: L.filter (fun q => !(q.1 == i) && (!(q.1 == i + 1) && !(q.1 + 1 == i && q.2.category == 2))))) : lv_has ls nL L' := by
  subst hL
  refine ⟨h.1, h.2.1, fun q hq => h.2.2 q ?_⟩
  rcases jput_mem hq with h1 | ⟨h1, h2⟩
  · rw [h1]; exact List.mem_cons_self
  · refine List.mem_cons_of_mem _ (List.mem_filter.mpr ⟨h1, ?_⟩)
    have h3 := List.all_eq_true.mp hc q h1
    simp [jcl2] at h3
    simp [h2]
    rcases h3 with h3 | h3
    · exact absurd h3 h2
    · exact h3
theorem jP_iff {D : va_G} {cl : List vw_C} {ws : va_W} {H : Heap} : va_P D cl ws H ↔ ∀ q ∈ ws, va_at D cl q H :=
  ⟨fun h q hq => by obtain ⟨k, hk⟩ := List.getElem?_of_mem hq; exact h k q hk, fun h k q hk => h q (List.mem_of_getElem? hk)⟩
theorem jD_iff {A : Nat → Prop} {ws : va_W} : va_D A ws ↔ (ws.map (·.1)).Nodup ∧ ∀ q ∈ ws, A q.1 := by
  constructor
  · intro h
    refine ⟨List.pairwise_iff_getElem.mpr fun i j hi hj hij e => ?_, fun q hq => ?_⟩
    · have hi' : i < ws.length := by simpa using hi
      have hj' : j < ws.length := by simpa using hj
      simp only [List.getElem_map] at e
      have := h.1 i j _ _ (List.getElem?_eq_getElem hi') (List.getElem?_eq_getElem hj') e
      omega
    · obtain ⟨k, hk⟩ := List.getElem?_of_mem hq
      exact h.2 k q hk
  · intro h
    have h0 := List.pairwise_iff_getElem.mp h.1
    have key : ∀ (i j : Nat) (p q : Nat × va_E), ws[i]? = some p → ws[j]? = some q → p.1 = q.1 → ¬ i < j := by
      intro i j p q hp hq e hij
      obtain ⟨hi, ei⟩ := List.getElem?_eq_some_iff.mp hp
      obtain ⟨hj, ej⟩ := List.getElem?_eq_some_iff.mp hq
      refine h0 i j (by simpa using hi) (by simpa using hj) hij ?_
      simp only [List.getElem_map]
      rw [ei, ej]
      exact e
    refine ⟨fun i j p q hp hq e => ?_, fun k q hk => h.2 q (List.mem_of_getElem? hk)⟩
    have k1 := key i j p q hp hq e
    have k2 := key j i q p hq hp e.symm
    omega
/-- the world's cells ks give way to what w1 says of the same addresses -/
def jset : va_W → List Nat → va_W → va_W
  | ws, k :: ks, q :: w1 => jset (ws.set k q) ks w1
  | ws, _, _ => ws
theorem jset_fst : ∀ {ks : List Nat} {wc w1 ws : va_W}, ks.map (fun i => ws[i]?) = wc.map some → w1.map (·.1) = wc.map (·.1) → (jset ws ks w1).map (·.1) = ws.map (·.1)
  | [], wc, w1, ws, h, h1 => by cases w1 <;> rfl
  | k :: ks, [], w1, ws, h, h1 => by simp at h
  | k :: ks, x :: wc, [], ws, h, h1 => by simp at h1
  | k :: ks, x :: wc, y :: w1, ws, h, h1 => by
    simp only [List.map_cons, List.cons.injEq] at h h1
    obtain ⟨h2, h3⟩ := h
    obtain ⟨h4, h5⟩ := h1
    have hs : (ws.set k y).map (·.1) = ws.map (·.1) := by
      apply List.ext_getElem?
      intro i
      rw [List.getElem?_map, List.getElem?_map, List.getElem?_set]
      by_cases hi : k = i
      · subst hi
        have hl := (List.getElem?_eq_some_iff.mp h2).1
        rw [if_pos rfl, if_pos hl, h2]
        simp [h4]
      · rw [if_neg hi]
    show (jset (ws.set k y) ks w1).map (·.1) = ws.map (·.1)
    rw [← hs]
    -- the places that are left hold the same addresses
    have key : ∃ wc' : va_W, ks.map (fun i => (ws.set k y)[i]?) = wc'.map some ∧ wc'.map (·.1) = wc.map (·.1) := by
      clear h5
      induction ks generalizing wc with
      | nil =>
        cases wc with
        | nil => exact ⟨[], rfl, rfl⟩
        | cons a b => simp at h3
      | cons a ks ih =>
        cases wc with
        | nil => simp at h3
        | cons b wc =>
          simp only [List.map_cons, List.cons.injEq] at h3
          obtain ⟨wc', i1, i2⟩ := ih _ h3.2
          have ha : ∃ b', (ws.set k y)[a]? = some b' ∧ b'.1 = b.1 := by
            have e1 : ((ws.set k y).map (·.1))[a]? = (ws.map (·.1))[a]? := by rw [hs]
            rw [List.getElem?_map, List.getElem?_map, h3.1] at e1
            cases hx : (ws.set k y)[a]? with
            | none => rw [hx] at e1; simp at e1
            | some b' => rw [hx] at e1; exact ⟨b', rfl, by simpa using e1⟩
          obtain ⟨b', b1, b2⟩ := ha
          exact ⟨b' :: wc', by simp [b1, i1], by simp [b2, i2]⟩
    obtain ⟨wc', k1, k2⟩ := key
    exact jset_fst k1 (h5.trans k2.symm)
theorem jset_mem : ∀ {ks : List Nat} {w1 ws : va_W} {q : Nat × va_E}, w1.length = ks.length → q ∈ jset ws ks w1 → q ∈ w1 ∨ ∃ i, ws[i]? = some q ∧ i ∉ ks
  | [], w1, ws, q, hl, h => by
    have : w1 = [] := by simpa using hl
    subst this
    obtain ⟨i, hi⟩ := List.getElem?_of_mem h
    exact Or.inr ⟨i, hi, List.not_mem_nil⟩
  | k :: ks, [], ws, q, hl, h => by simp at hl
  | k :: ks, y :: w1, ws, q, hl, h => by
    have hl' : w1.length = ks.length := by simpa using hl
    rcases jset_mem hl' (show q ∈ jset (ws.set k y) ks w1 from h) with h1 | ⟨i, h1, h2⟩
    · exact Or.inl (List.mem_cons_of_mem _ h1)
    · rw [List.getElem?_set] at h1
      by_cases hi : k = i
      · subst hi
        rw [if_pos rfl] at h1
        split at h1
        · exact Or.inl (by rw [← Option.some.inj h1]; exact List.mem_cons_self)
        · cases h1
      · rw [if_neg hi] at h1
        refine Or.inr ⟨i, h1, fun hm => ?_⟩
        rcases List.mem_cons.mp hm with e | e
        · exact hi e.symm
        · exact h2 e
/-- behind a call that made nothing: the callee's cells as it left them, the others as they were -/
theorem jset_join {A0 : Nat → Prop} {D : va_G} {cl : List vw_C} {ws wc w1 : va_W} {H H1 : Heap} {ks : List Nat} (hP : va_P D cl ws H) (hD : va_D A0 ws) (hC : ks.map (fun i => ws[i]?) = wc.map some) (hw : w1.map (·.1) = wc.map (·.1))
    (hk : ∀ q : Nat, q < H.size → ¬ va_A wc H.size q → H1[q]? = H[q]?) (hP1 : va_P D cl w1 H1) : va_P D cl (jset ws ks w1) H1 ∧ va_D A0 (jset ws ks w1) := by
  have hlen : w1.length = ks.length := by
    have h1 := congrArg List.length hw
    have h2 := congrArg List.length hC
    simp at h1 h2
    omega
  constructor
  · rw [jP_iff]
    intro q hq
    rcases jset_mem hlen hq with h | ⟨i, h1, h2⟩
    · exact jP_iff.mp hP1 q h
    · refine (hP i q h1).kept (hk q.1 ((hP i q h1).lt) ?_)
      rintro (⟨k2, e, h⟩ | h)
      · have h3 : (ks.map (fun i => ws[i]?))[k2]? = some (some (q.1, e)) := by rw [hC, List.getElem?_map, h]; rfl
        rw [List.getElem?_map] at h3
        cases hj : ks[k2]? with
        | none => rw [hj] at h3; cases h3
        | some j =>
          rw [hj] at h3
          have h4 := Option.some.inj h3
          have hij := hD.1 i j q (q.1, e) h1 h4 rfl
          subst hij
          exact h2 (List.mem_of_getElem? hj)
      · have := (hP i q h1).lt
        omega
  · have hf := jset_fst (ws := ws) hC hw
    rw [jD_iff] at hD ⊢
    refine ⟨by rw [hf]; exact hD.1, fun q hq => ?_⟩
    have : q.1 ∈ (jset ws ks w1).map (·.1) := List.mem_map.mpr ⟨q, hq, rfl⟩
    rw [hf] at this
    obtain ⟨z, h1, h2⟩ := List.mem_map.mp this
    rw [← h2]
    exact hD.2 z h1
abbrev jC (p : Program) (s : State) (m : MethodId) (args : Array Value) (meth : Method) (c : Code) (cc : ByteArray) (Ts : List Cond) (own : String) (nL : Nat) (A : Nat → Prop) (g : jG) : Prop := p.tables.exec = Jvm.exec ∧ c.code = cc ∧ c.maxLocals = nL ∧ s.vm.findClass own = some m.cls ∧ (∀ w ∈ Ts, w.before args s = true) ∧ meth.locks = false ∧ jE g s ∧ (∀ q : Nat, s.heap.size ≤ q → A q)
/-- from every heap that holds the world, the frame at pc with these locals and this stack comes to Q -/
def jJ (p : Program) (l : Launch) (e : Env) (R : Room) (s : State) (m : MethodId) (args : Array Value) (below : List Frame) (meth : Method) (c : Code) (Q : State → Prop) (A : Nat → Prop) (g : jG) (I : Heap → List Loc → Prop) (nL cells slots pc : Nat) (L : List (Nat × Value)) (st : List Value) (ws : va_W) : Prop :=
  ∀ (H : Heap) (locs : List Loc) (ls : Array Slot), lv_has ls nL L → va_P g.1 vwCl ws H → va_D A ws → I H locs → W p l e R s m args below meth c H locs cells slots Q (F0 m pc ls st)
/-- nothing is written, nothing is made -/
abbrev jRO (s : State) : Heap → List Loc → Prop := fun H locs => H = s.heap ∧ locs = []
section JROWS
variable {p : Program} {l : Launch} {e : Env} {R : Room} {s : State} {m : MethodId} {args : Array Value} {below : List Frame} {meth : Method} {c : Code} {Q : State → Prop} {A : Nat → Prop} {g : jG} {I : Heap → List Loc → Prop} {nL cells slots pc : Nat} {L : List (Nat × Value)} {st : List Value} {ws : va_W} {cc : ByteArray} {Ts : List Cond} {own : String}
theorem j_iconst {n : Int} {v : Int32} (C : jC p s m args meth c cc Ts own nL A g) (hd : decode cc pc = .ok (.iconst n, 1)) (hv : Int32.ofInt n = v) (k : jJ p l e R s m args below meth c Q A g I nL cells slots (pc + 1) L (.int v :: st) ws) : jJ p l e R s m args below meth c Q A g I nL cells slots pc L st ws := fun H locs ls h1 h2 h3 h4 => lv_iconst C.1 C.2.1 hd hv (k H locs ls h1 h2 h3 h4)
theorem j_bipush {n : Int} {v : Int32} (C : jC p s m args meth c cc Ts own nL A g) (hd : decode cc pc = .ok (.bipush n, 2)) (hv : (Int8.ofInt n).toInt32 = v) (k : jJ p l e R s m args below meth c Q A g I nL cells slots (pc + 2) L (.int v :: st) ws) : jJ p l e R s m args below meth c Q A g I nL cells slots pc L st ws := fun H locs ls h1 h2 h3 h4 => lv_bipush C.1 C.2.1 hd hv (k H locs ls h1 h2 h3 h4)
theorem j_sipush {n : Int} {v : Int32} (C : jC p s m args meth c cc Ts own nL A g) (hd : decode cc pc = .ok (.sipush n, 3)) (hv : (Int16.ofInt n).toInt32 = v) (k : jJ p l e R s m args below meth c Q A g I nL cells slots (pc + 3) L (.int v :: st) ws) : jJ p l e R s m args below meth c Q A g I nL cells slots pc L st ws := fun H locs ls h1 h2 h3 h4 => lv_sipush C.1 C.2.1 hd hv (k H locs ls h1 h2 h3 h4)
theorem j_lconst {n : Fin 2} {v : Int64} (C : jC p s m args meth c cc Ts own nL A g) (hd : decode cc pc = .ok (.lconst n, 1)) (hv : Int64.ofNat (n : Nat) = v) (k : jJ p l e R s m args below meth c Q A g I nL cells slots (pc + 1) L (.long v :: st) ws) : jJ p l e R s m args below meth c Q A g I nL cells slots pc L st ws := fun H locs ls h1 h2 h3 h4 => lv_lconst C.1 C.2.1 hd hv (k H locs ls h1 h2 h3 h4)
theorem j_ldc2 {ix : Nat} {v : Int64} (C : jC p s m args meth c cc Ts own nL A g) (hd : decode cc pc = .ok (.ldc2_w ix, 3)) (hw : Cond.constantLong own ix v ∈ Ts) (k : jJ p l e R s m args below meth c Q A g I nL cells slots (pc + 3) L (.long v :: st) ws) : jJ p l e R s m args below meth c Q A g I nL cells slots pc L st ws := fun H locs ls h1 h2 h3 h4 => lv_ldc2 C.1 C.2.1 C.2.2.2.1 (C.2.2.2.2.1 _ hw) hd (k H locs ls h1 h2 h3 h4)
theorem j_dconst0  (C : jC p s m args meth c cc Ts own nL A g) (hd : decode cc pc = .ok (.dconst 0, 1)) (k : jJ p l e R s m args below meth c Q A g I nL cells slots (pc + 1) L (.double FP.dconst0 :: st) ws) : jJ p l e R s m args below meth c Q A g I nL cells slots pc L st ws := fun H locs ls h1 h2 h3 h4 => lv_dconst0 C.1 C.2.1 hd (k H locs ls h1 h2 h3 h4)
theorem j_null  (C : jC p s m args meth c cc Ts own nL A g) (hd : decode cc pc = .ok (.aconst_null, 1)) (k : jJ p l e R s m args below meth c Q A g I nL cells slots (pc + 1) L (.null :: st) ws) : jJ p l e R s m args below meth c Q A g I nL cells slots pc L st ws := fun H locs ls h1 h2 h3 h4 => lv_null C.1 C.2.1 hd (k H locs ls h1 h2 h3 h4)
theorem j_iload_n {n : Fin 4} {i : Nat} {x : Int32} (q : Nat) (C : jC p s m args meth c cc Ts own nL A g) (hd : decode cc pc = .ok (.iload_n n, 1)) (hn : (n : Nat) = i) (hq : L[q]? = some (i, .int x)) (k : jJ p l e R s m args below meth c Q A g I nL cells slots (pc + 1) L (.int x :: st) ws) : jJ p l e R s m args below meth c Q A g I nL cells slots pc L st ws := fun H locs ls h1 h2 h3 h4 => lv_iload_n C.1 C.2.1 hd hn (lv_at h1 q hq) (k H locs ls h1 h2 h3 h4)
theorem j_iload {i : Nat} {x : Int32} (q : Nat) (C : jC p s m args meth c cc Ts own nL A g) (hd : decode cc pc = .ok (.iload i, 2)) (hq : L[q]? = some (i, .int x)) (k : jJ p l e R s m args below meth c Q A g I nL cells slots (pc + 2) L (.int x :: st) ws) : jJ p l e R s m args below meth c Q A g I nL cells slots pc L st ws := fun H locs ls h1 h2 h3 h4 => lv_iload C.1 C.2.1 hd (lv_at h1 q hq) (k H locs ls h1 h2 h3 h4)
theorem j_istore_n {n : Fin 4} {i : Nat} {x : Int32} {L' : List (Nat × Value)} (C : jC p s m args meth c cc Ts own nL A g) (hd : decode cc pc = .ok (.istore_n n, 1)) (hn : (n : Nat) = i) (hi : i < nL) (hc : L.all (jcl1 i) = true) (hL : jput L i (.int x) = L') (k : jJ p l e R s m args below meth c Q A g I nL cells slots (pc + 1) L' st ws) : jJ p l e R s m args below meth c Q A g I nL cells slots pc L (.int x :: st) ws := fun H locs ls h1 h2 h3 h4 => lv_istore_n C.1 C.2.1 hd hn h1 hi rfl (fun ls' h => k H locs ls' (jput_1 hc hL h) h2 h3 h4)
theorem j_istore {i : Nat} {x : Int32} {L' : List (Nat × Value)} (C : jC p s m args meth c cc Ts own nL A g) (hd : decode cc pc = .ok (.istore i, 2)) (hi : i < nL) (hc : L.all (jcl1 i) = true) (hL : jput L i (.int x) = L') (k : jJ p l e R s m args below meth c Q A g I nL cells slots (pc + 2) L' st ws) : jJ p l e R s m args below meth c Q A g I nL cells slots pc L (.int x :: st) ws := fun H locs ls h1 h2 h3 h4 => lv_istore C.1 C.2.1 hd h1 hi rfl (fun ls' h => k H locs ls' (jput_1 hc hL h) h2 h3 h4)
theorem j_lload_n {n : Fin 4} {i : Nat} {x : Int64} (q : Nat) (C : jC p s m args meth c cc Ts own nL A g) (hd : decode cc pc = .ok (.lload_n n, 1)) (hn : (n : Nat) = i) (hq : L[q]? = some (i, .long x)) (k : jJ p l e R s m args below meth c Q A g I nL cells slots (pc + 1) L (.long x :: st) ws) : jJ p l e R s m args below meth c Q A g I nL cells slots pc L st ws := fun H locs ls h1 h2 h3 h4 => lv_lload_n C.1 C.2.1 hd hn (lv_at h1 q hq) (k H locs ls h1 h2 h3 h4)
theorem j_lload {i : Nat} {x : Int64} (q : Nat) (C : jC p s m args meth c cc Ts own nL A g) (hd : decode cc pc = .ok (.lload i, 2)) (hq : L[q]? = some (i, .long x)) (k : jJ p l e R s m args below meth c Q A g I nL cells slots (pc + 2) L (.long x :: st) ws) : jJ p l e R s m args below meth c Q A g I nL cells slots pc L st ws := fun H locs ls h1 h2 h3 h4 => lv_lload C.1 C.2.1 hd (lv_at h1 q hq) (k H locs ls h1 h2 h3 h4)
theorem j_lstore_n {n : Fin 4} {i : Nat} {x : Int64} {L' : List (Nat × Value)} (C : jC p s m args meth c cc Ts own nL A g) (hd : decode cc pc = .ok (.lstore_n n, 1)) (hn : (n : Nat) = i) (hi : i + 1 < nL) (hc : L.all (jcl2 i) = true) (hL : jput L i (.long x) = L') (k : jJ p l e R s m args below meth c Q A g I nL cells slots (pc + 1) L' st ws) : jJ p l e R s m args below meth c Q A g I nL cells slots pc L (.long x :: st) ws := fun H locs ls h1 h2 h3 h4 => lv_lstore_n C.1 C.2.1 hd hn h1 hi rfl (fun ls' h => k H locs ls' (jput_2 hc hL h) h2 h3 h4)
theorem j_lstore {i : Nat} {x : Int64} {L' : List (Nat × Value)} (C : jC p s m args meth c cc Ts own nL A g) (hd : decode cc pc = .ok (.lstore i, 2)) (hi : i + 1 < nL) (hc : L.all (jcl2 i) = true) (hL : jput L i (.long x) = L') (k : jJ p l e R s m args below meth c Q A g I nL cells slots (pc + 2) L' st ws) : jJ p l e R s m args below meth c Q A g I nL cells slots pc L (.long x :: st) ws := fun H locs ls h1 h2 h3 h4 => lv_lstore C.1 C.2.1 hd h1 hi rfl (fun ls' h => k H locs ls' (jput_2 hc hL h) h2 h3 h4)
theorem j_aload_n {n : Fin 4} {i : Nat} {x : Nat} (q : Nat) (C : jC p s m args meth c cc Ts own nL A g) (hd : decode cc pc = .ok (.aload_n n, 1)) (hn : (n : Nat) = i) (hq : L[q]? = some (i, .ref x)) (k : jJ p l e R s m args below meth c Q A g I nL cells slots (pc + 1) L (.ref x :: st) ws) : jJ p l e R s m args below meth c Q A g I nL cells slots pc L st ws := fun H locs ls h1 h2 h3 h4 => lv_aload_n C.1 C.2.1 hd hn (lv_at h1 q hq) (k H locs ls h1 h2 h3 h4)
theorem j_aload {i : Nat} {x : Nat} (q : Nat) (C : jC p s m args meth c cc Ts own nL A g) (hd : decode cc pc = .ok (.aload i, 2)) (hq : L[q]? = some (i, .ref x)) (k : jJ p l e R s m args below meth c Q A g I nL cells slots (pc + 2) L (.ref x :: st) ws) : jJ p l e R s m args below meth c Q A g I nL cells slots pc L st ws := fun H locs ls h1 h2 h3 h4 => lv_aload C.1 C.2.1 hd (lv_at h1 q hq) (k H locs ls h1 h2 h3 h4)
theorem j_astore_n {n : Fin 4} {i : Nat} {x : Nat} {L' : List (Nat × Value)} (C : jC p s m args meth c cc Ts own nL A g) (hd : decode cc pc = .ok (.astore_n n, 1)) (hn : (n : Nat) = i) (hi : i < nL) (hc : L.all (jcl1 i) = true) (hL : jput L i (.ref x) = L') (k : jJ p l e R s m args below meth c Q A g I nL cells slots (pc + 1) L' st ws) : jJ p l e R s m args below meth c Q A g I nL cells slots pc L (.ref x :: st) ws := fun H locs ls h1 h2 h3 h4 => lv_astore_n C.1 C.2.1 hd hn h1 hi rfl (fun ls' h => k H locs ls' (jput_1 hc hL h) h2 h3 h4)
theorem j_astore {i : Nat} {x : Nat} {L' : List (Nat × Value)} (C : jC p s m args meth c cc Ts own nL A g) (hd : decode cc pc = .ok (.astore i, 2)) (hi : i < nL) (hc : L.all (jcl1 i) = true) (hL : jput L i (.ref x) = L') (k : jJ p l e R s m args below meth c Q A g I nL cells slots (pc + 2) L' st ws) : jJ p l e R s m args below meth c Q A g I nL cells slots pc L (.ref x :: st) ws := fun H locs ls h1 h2 h3 h4 => lv_astore C.1 C.2.1 hd h1 hi rfl (fun ls' h => k H locs ls' (jput_1 hc hL h) h2 h3 h4)
theorem j_dload_n {n : Fin 4} {i : Nat} {x : UInt64} (q : Nat) (C : jC p s m args meth c cc Ts own nL A g) (hd : decode cc pc = .ok (.dload_n n, 1)) (hn : (n : Nat) = i) (hq : L[q]? = some (i, .double x)) (k : jJ p l e R s m args below meth c Q A g I nL cells slots (pc + 1) L (.double x :: st) ws) : jJ p l e R s m args below meth c Q A g I nL cells slots pc L st ws := fun H locs ls h1 h2 h3 h4 => lv_dload_n C.1 C.2.1 hd hn (lv_at h1 q hq) (k H locs ls h1 h2 h3 h4)
theorem j_dload {i : Nat} {x : UInt64} (q : Nat) (C : jC p s m args meth c cc Ts own nL A g) (hd : decode cc pc = .ok (.dload i, 2)) (hq : L[q]? = some (i, .double x)) (k : jJ p l e R s m args below meth c Q A g I nL cells slots (pc + 2) L (.double x :: st) ws) : jJ p l e R s m args below meth c Q A g I nL cells slots pc L st ws := fun H locs ls h1 h2 h3 h4 => lv_dload C.1 C.2.1 hd (lv_at h1 q hq) (k H locs ls h1 h2 h3 h4)
theorem j_dstore_n {n : Fin 4} {i : Nat} {x : UInt64} {L' : List (Nat × Value)} (C : jC p s m args meth c cc Ts own nL A g) (hd : decode cc pc = .ok (.dstore_n n, 1)) (hn : (n : Nat) = i) (hi : i + 1 < nL) (hc : L.all (jcl2 i) = true) (hL : jput L i (.double x) = L') (k : jJ p l e R s m args below meth c Q A g I nL cells slots (pc + 1) L' st ws) : jJ p l e R s m args below meth c Q A g I nL cells slots pc L (.double x :: st) ws := fun H locs ls h1 h2 h3 h4 => lv_dstore_n C.1 C.2.1 hd hn h1 hi rfl (fun ls' h => k H locs ls' (jput_2 hc hL h) h2 h3 h4)
theorem j_dstore {i : Nat} {x : UInt64} {L' : List (Nat × Value)} (C : jC p s m args meth c cc Ts own nL A g) (hd : decode cc pc = .ok (.dstore i, 2)) (hi : i + 1 < nL) (hc : L.all (jcl2 i) = true) (hL : jput L i (.double x) = L') (k : jJ p l e R s m args below meth c Q A g I nL cells slots (pc + 2) L' st ws) : jJ p l e R s m args below meth c Q A g I nL cells slots pc L (.double x :: st) ws := fun H locs ls h1 h2 h3 h4 => lv_dstore C.1 C.2.1 hd h1 hi rfl (fun ls' h => k H locs ls' (jput_2 hc hL h) h2 h3 h4)
theorem j_iinc {i : Nat} {n : Int} {x v : Int32} {L' : List (Nat × Value)} (q : Nat) (C : jC p s m args meth c cc Ts own nL A g) (hd : decode cc pc = .ok (.iinc i n, 3)) (hq : L[q]? = some (i, .int x)) (hv : x + Int32.ofInt n = v) (hi : i < nL) (hc : L.all (jcl1 i) = true) (hL : jput L i (.int v) = L') (k : jJ p l e R s m args below meth c Q A g I nL cells slots (pc + 3) L' st ws) : jJ p l e R s m args below meth c Q A g I nL cells slots pc L st ws := fun H locs ls h1 h2 h3 h4 => lv_iinc C.1 C.2.1 hd h1 hq hv hi rfl (fun ls' h => k H locs ls' (jput_1 hc hL h) h2 h3 h4)
theorem j_iadd {x y v : Int32} (C : jC p s m args meth c cc Ts own nL A g) (hd : decode cc pc = .ok (.iadd, 1)) (hv : x + y = v) (k : jJ p l e R s m args below meth c Q A g I nL cells slots (pc + 1) L (.int v :: st) ws) : jJ p l e R s m args below meth c Q A g I nL cells slots pc L (.int y :: .int x :: st) ws := fun H locs ls h1 h2 h3 h4 => lv_iadd C.1 C.2.1 hd (by rw [hv]; exact (k H locs ls h1 h2 h3 h4))
theorem j_isub {x y v : Int32} (C : jC p s m args meth c cc Ts own nL A g) (hd : decode cc pc = .ok (.isub, 1)) (hv : x - y = v) (k : jJ p l e R s m args below meth c Q A g I nL cells slots (pc + 1) L (.int v :: st) ws) : jJ p l e R s m args below meth c Q A g I nL cells slots pc L (.int y :: .int x :: st) ws := fun H locs ls h1 h2 h3 h4 => lv_isub C.1 C.2.1 hd (by rw [hv]; exact (k H locs ls h1 h2 h3 h4))
theorem j_imul {x y v : Int32} (C : jC p s m args meth c cc Ts own nL A g) (hd : decode cc pc = .ok (.imul, 1)) (hv : x * y = v) (k : jJ p l e R s m args below meth c Q A g I nL cells slots (pc + 1) L (.int v :: st) ws) : jJ p l e R s m args below meth c Q A g I nL cells slots pc L (.int y :: .int x :: st) ws := fun H locs ls h1 h2 h3 h4 => lv_imul C.1 C.2.1 hd (by rw [hv]; exact (k H locs ls h1 h2 h3 h4))
theorem j_iand {x y v : Int32} (C : jC p s m args meth c cc Ts own nL A g) (hd : decode cc pc = .ok (.iand, 1)) (hv : x &&& y = v) (k : jJ p l e R s m args below meth c Q A g I nL cells slots (pc + 1) L (.int v :: st) ws) : jJ p l e R s m args below meth c Q A g I nL cells slots pc L (.int y :: .int x :: st) ws := fun H locs ls h1 h2 h3 h4 => lv_iand C.1 C.2.1 hd (by rw [hv]; exact (k H locs ls h1 h2 h3 h4))
theorem j_ior {x y v : Int32} (C : jC p s m args meth c cc Ts own nL A g) (hd : decode cc pc = .ok (.ior, 1)) (hv : x ||| y = v) (k : jJ p l e R s m args below meth c Q A g I nL cells slots (pc + 1) L (.int v :: st) ws) : jJ p l e R s m args below meth c Q A g I nL cells slots pc L (.int y :: .int x :: st) ws := fun H locs ls h1 h2 h3 h4 => lv_ior C.1 C.2.1 hd (by rw [hv]; exact (k H locs ls h1 h2 h3 h4))
theorem j_ishl {x y v : Int32} (C : jC p s m args meth c cc Ts own nL A g) (hd : decode cc pc = .ok (.ishl, 1)) (hv : x <<< (y &&& 31) = v) (k : jJ p l e R s m args below meth c Q A g I nL cells slots (pc + 1) L (.int v :: st) ws) : jJ p l e R s m args below meth c Q A g I nL cells slots pc L (.int y :: .int x :: st) ws := fun H locs ls h1 h2 h3 h4 => lv_ishl C.1 C.2.1 hd (by rw [hv]; exact (k H locs ls h1 h2 h3 h4))
theorem j_ishr {x y v : Int32} (C : jC p s m args meth c cc Ts own nL A g) (hd : decode cc pc = .ok (.ishr, 1)) (hv : x >>> (y &&& 31) = v) (k : jJ p l e R s m args below meth c Q A g I nL cells slots (pc + 1) L (.int v :: st) ws) : jJ p l e R s m args below meth c Q A g I nL cells slots pc L (.int y :: .int x :: st) ws := fun H locs ls h1 h2 h3 h4 => lv_ishr C.1 C.2.1 hd (by rw [hv]; exact (k H locs ls h1 h2 h3 h4))
theorem j_idiv {x y v : Int32} (C : jC p s m args meth c cc Ts own nL A g) (hd : decode cc pc = .ok (.idiv, 1)) (hne : ¬ y = 0) (hv : x / y = v) (k : jJ p l e R s m args below meth c Q A g I nL cells slots (pc + 1) L (.int v :: st) ws) : jJ p l e R s m args below meth c Q A g I nL cells slots pc L (.int y :: .int x :: st) ws := fun H locs ls h1 h2 h3 h4 => lv_idiv C.1 C.2.1 hd hne (by rw [hv]; exact (k H locs ls h1 h2 h3 h4))
theorem j_irem {x y v : Int32} (C : jC p s m args meth c cc Ts own nL A g) (hd : decode cc pc = .ok (.irem, 1)) (hne : ¬ y = 0) (hv : x - x / y * y = v) (k : jJ p l e R s m args below meth c Q A g I nL cells slots (pc + 1) L (.int v :: st) ws) : jJ p l e R s m args below meth c Q A g I nL cells slots pc L (.int y :: .int x :: st) ws := fun H locs ls h1 h2 h3 h4 => lv_irem C.1 C.2.1 hd hne (by rw [hv]; exact (k H locs ls h1 h2 h3 h4))
theorem j_ladd {x y v : Int64} (C : jC p s m args meth c cc Ts own nL A g) (hd : decode cc pc = .ok (.ladd, 1)) (hv : x + y = v) (k : jJ p l e R s m args below meth c Q A g I nL cells slots (pc + 1) L (.long v :: st) ws) : jJ p l e R s m args below meth c Q A g I nL cells slots pc L (.long y :: .long x :: st) ws := fun H locs ls h1 h2 h3 h4 => lv_ladd C.1 C.2.1 hd (by rw [hv]; exact (k H locs ls h1 h2 h3 h4))
theorem j_lmul {x y v : Int64} (C : jC p s m args meth c cc Ts own nL A g) (hd : decode cc pc = .ok (.lmul, 1)) (hv : x * y = v) (k : jJ p l e R s m args below meth c Q A g I nL cells slots (pc + 1) L (.long v :: st) ws) : jJ p l e R s m args below meth c Q A g I nL cells slots pc L (.long y :: .long x :: st) ws := fun H locs ls h1 h2 h3 h4 => lv_lmul C.1 C.2.1 hd (by rw [hv]; exact (k H locs ls h1 h2 h3 h4))
theorem j_land {x y v : Int64} (C : jC p s m args meth c cc Ts own nL A g) (hd : decode cc pc = .ok (.land, 1)) (hv : x &&& y = v) (k : jJ p l e R s m args below meth c Q A g I nL cells slots (pc + 1) L (.long v :: st) ws) : jJ p l e R s m args below meth c Q A g I nL cells slots pc L (.long y :: .long x :: st) ws := fun H locs ls h1 h2 h3 h4 => lv_land C.1 C.2.1 hd (by rw [hv]; exact (k H locs ls h1 h2 h3 h4))
theorem j_lor {x y v : Int64} (C : jC p s m args meth c cc Ts own nL A g) (hd : decode cc pc = .ok (.lor, 1)) (hv : x ||| y = v) (k : jJ p l e R s m args below meth c Q A g I nL cells slots (pc + 1) L (.long v :: st) ws) : jJ p l e R s m args below meth c Q A g I nL cells slots pc L (.long y :: .long x :: st) ws := fun H locs ls h1 h2 h3 h4 => lv_lor C.1 C.2.1 hd (by rw [hv]; exact (k H locs ls h1 h2 h3 h4))
theorem j_lshl {x v : Int64} {y : Int32} (C : jC p s m args meth c cc Ts own nL A g) (hd : decode cc pc = .ok (.lshl, 1)) (hv : x <<< (y.toInt64 &&& 63) = v) (k : jJ p l e R s m args below meth c Q A g I nL cells slots (pc + 1) L (.long v :: st) ws) : jJ p l e R s m args below meth c Q A g I nL cells slots pc L (.int y :: .long x :: st) ws := fun H locs ls h1 h2 h3 h4 => lv_lshl C.1 C.2.1 hd hv (k H locs ls h1 h2 h3 h4)
theorem j_i2l {x : Int32} {v : Int64} (C : jC p s m args meth c cc Ts own nL A g) (hd : decode cc pc = .ok (.i2l, 1)) (hv : x.toInt64 = v) (k : jJ p l e R s m args below meth c Q A g I nL cells slots (pc + 1) L (.long v :: st) ws) : jJ p l e R s m args below meth c Q A g I nL cells slots pc L (.int x :: st) ws := fun H locs ls h1 h2 h3 h4 => lv_i2l C.1 C.2.1 hd hv (k H locs ls h1 h2 h3 h4)
theorem j_i2d {x : Int32} (C : jC p s m args meth c cc Ts own nL A g) (hd : decode cc pc = .ok (.i2d, 1)) (k : jJ p l e R s m args below meth c Q A g I nL cells slots (pc + 1) L (.double (FP.i2d x) :: st) ws) : jJ p l e R s m args below meth c Q A g I nL cells slots pc L (.int x :: st) ws := fun H locs ls h1 h2 h3 h4 => lv_i2d C.1 C.2.1 hd (k H locs ls h1 h2 h3 h4)
theorem j_ddiv {x y : UInt64} (C : jC p s m args meth c cc Ts own nL A g) (hd : decode cc pc = .ok (.ddiv, 1)) (hne : vf_n64 (FP.ddiv x y)) (k : jJ p l e R s m args below meth c Q A g I nL cells slots (pc + 1) L (.double (FP.ddiv x y) :: st) ws) : jJ p l e R s m args below meth c Q A g I nL cells slots pc L (.double y :: .double x :: st) ws := fun H locs ls h1 h2 h3 h4 => lv_ddiv C.1 C.2.1 hd hne (k H locs ls h1 h2 h3 h4)
theorem j_dcmp {x y : UInt64} {op : CmpOp} (C : jC p s m args meth c cc Ts own nL A g) (hd : decode cc pc = .ok (.dcmp op, 1)) (k : jJ p l e R s m args below meth c Q A g I nL cells slots (pc + 1) L (.int (Op.cmpValue (FP.dcmp x y) op) :: st) ws) : jJ p l e R s m args below meth c Q A g I nL cells slots pc L (.double y :: .double x :: st) ws := fun H locs ls h1 h2 h3 h4 => lv_dcmp C.1 C.2.1 hd (k H locs ls h1 h2 h3 h4)
theorem j_dup {a : Value} (C : jC p s m args meth c cc Ts own nL A g) (hd : decode cc pc = .ok (.dup, 1)) (ha : a.category = 1) (k : jJ p l e R s m args below meth c Q A g I nL cells slots (pc + 1) L (a :: a :: st) ws) : jJ p l e R s m args below meth c Q A g I nL cells slots pc L (a :: st) ws := fun H locs ls h1 h2 h3 h4 => lv_dup C.1 C.2.1 hd ha (k H locs ls h1 h2 h3 h4)
theorem j_dup2 {a b : Value} (C : jC p s m args meth c cc Ts own nL A g) (hd : decode cc pc = .ok (.dup2, 1)) (ha : a.category = 1) (hb : b.category = 1) (k : jJ p l e R s m args below meth c Q A g I nL cells slots (pc + 1) L (a :: b :: a :: b :: st) ws) : jJ p l e R s m args below meth c Q A g I nL cells slots pc L (a :: b :: st) ws := fun H locs ls h1 h2 h3 h4 => lv_dup2_11 C.1 C.2.1 hd ha hb (k H locs ls h1 h2 h3 h4)
theorem j_pop {a : Value} (C : jC p s m args meth c cc Ts own nL A g) (hd : decode cc pc = .ok (.pop, 1)) (ha : a.category = 1) (k : jJ p l e R s m args below meth c Q A g I nL cells slots (pc + 1) L st ws) : jJ p l e R s m args below meth c Q A g I nL cells slots pc L (a :: st) ws := fun H locs ls h1 h2 h3 h4 => lv_pop C.1 C.2.1 hd ha (k H locs ls h1 h2 h3 h4)
theorem j_goto {off : Int} {tgt : Nat} (C : jC p s m args meth c cc Ts own nL A g) (hd : decode cc pc = .ok (.goto off, 3)) (ht : (pc : Int) + off = (tgt : Int)) (k : jJ p l e R s m args below meth c Q A g I nL cells slots tgt L st ws) : jJ p l e R s m args below meth c Q A g I nL cells slots pc L st ws := fun H locs ls h1 h2 h3 h4 => lv_goto C.1 C.2.1 hd ht (k H locs ls h1 h2 h3 h4)
theorem j_ifnonnull {x : Nat} {off : Int} {tgt : Nat} (C : jC p s m args meth c cc Ts own nL A g) (hd : decode cc pc = .ok (.ifnonnull off, 3)) (ht : (pc : Int) + off = (tgt : Int)) (k : jJ p l e R s m args below meth c Q A g I nL cells slots tgt L st ws) : jJ p l e R s m args below meth c Q A g I nL cells slots pc L (.ref x :: st) ws := fun H locs ls h1 h2 h3 h4 => lv_ifnonnull C.1 C.2.1 hd ht (k H locs ls h1 h2 h3 h4)
theorem j_ifnonnullN {off : Int} (C : jC p s m args meth c cc Ts own nL A g) (hd : decode cc pc = .ok (.ifnonnull off, 3)) (k : jJ p l e R s m args below meth c Q A g I nL cells slots (pc + 3) L st ws) : jJ p l e R s m args below meth c Q A g I nL cells slots pc L (.null :: st) ws := fun H locs ls h1 h2 h3 h4 => lv_ifnonnullN C.1 C.2.1 hd (k H locs ls h1 h2 h3 h4)
theorem j_ifnull {x : Nat} {off : Int} (C : jC p s m args meth c cc Ts own nL A g) (hd : decode cc pc = .ok (.ifnull off, 3)) (k : jJ p l e R s m args below meth c Q A g I nL cells slots (pc + 3) L st ws) : jJ p l e R s m args below meth c Q A g I nL cells slots pc L (.ref x :: st) ws := fun H locs ls h1 h2 h3 h4 => lv_ifnull C.1 C.2.1 hd (k H locs ls h1 h2 h3 h4)
theorem j_ifnullN {off : Int} {tgt : Nat} (C : jC p s m args meth c cc Ts own nL A g) (hd : decode cc pc = .ok (.ifnull off, 3)) (ht : (pc : Int) + off = (tgt : Int)) (k : jJ p l e R s m args below meth c Q A g I nL cells slots tgt L st ws) : jJ p l e R s m args below meth c Q A g I nL cells slots pc L (.null :: st) ws := fun H locs ls h1 h2 h3 h4 => lv_ifnullN C.1 C.2.1 hd ht (k H locs ls h1 h2 h3 h4)
theorem j_tabOut {dflt lo hi : Int} {offs : Array Int} {len : Nat} {x : Int32} {tgt : Nat} (C : jC p s m args meth c cc Ts own nL A g) (hd : decode cc pc = .ok (.tableswitch dflt lo hi offs, len)) (h : x.toInt < lo ∨ hi < x.toInt) (ht : (pc : Int) + dflt = (tgt : Int)) (k : jJ p l e R s m args below meth c Q A g I nL cells slots tgt L st ws) : jJ p l e R s m args below meth c Q A g I nL cells slots pc L (.int x :: st) ws := fun H locs ls h1 h2 h3 h4 => lv_tableOut C.1 C.2.1 hd h ht (k H locs ls h1 h2 h3 h4)
theorem j_tabIn {dflt lo hi : Int} {offs : Array Int} {len : Nat} {x : Int32} {off : Int} {tgt : Nat} (C : jC p s m args meth c cc Ts own nL A g) (hd : decode cc pc = .ok (.tableswitch dflt lo hi offs, len)) (hl : ¬ x.toInt < lo) (hh : ¬ hi < x.toInt) (ho : offs[(x.toInt - lo).toNat]? = some off) (ht : (pc : Int) + off = (tgt : Int)) (k : jJ p l e R s m args below meth c Q A g I nL cells slots tgt L st ws) : jJ p l e R s m args below meth c Q A g I nL cells slots pc L (.int x :: st) ws := fun H locs ls h1 h2 h3 h4 => lv_tableIn C.1 C.2.1 hd hl hh ho ht (k H locs ls h1 h2 h3 h4)
theorem j_if_eq {x : Int32} {off : Int} {tgt : Nat} (C : jC p s m args meth c cc Ts own nL A g) (hd : decode cc pc = .ok (.ifCond .eq off, 3)) (ht : (pc : Int) + off = (tgt : Int)) (kt : x = 0 → jJ p l e R s m args below meth c Q A g I nL cells slots tgt L st ws) (kf : ¬ x = 0 → jJ p l e R s m args below meth c Q A g I nL cells slots (pc + 3) L st ws) : jJ p l e R s m args below meth c Q A g I nL cells slots pc L (.int x :: st) ws := fun H locs ls h1 h2 h3 h4 => lv_if_eq C.1 C.2.1 hd ht (fun q => kt q H locs ls h1 h2 h3 h4) (fun q => kf q H locs ls h1 h2 h3 h4)
theorem j_if_ne {x : Int32} {off : Int} {tgt : Nat} (C : jC p s m args meth c cc Ts own nL A g) (hd : decode cc pc = .ok (.ifCond .ne off, 3)) (ht : (pc : Int) + off = (tgt : Int)) (kt : ¬ x = 0 → jJ p l e R s m args below meth c Q A g I nL cells slots tgt L st ws) (kf : x = 0 → jJ p l e R s m args below meth c Q A g I nL cells slots (pc + 3) L st ws) : jJ p l e R s m args below meth c Q A g I nL cells slots pc L (.int x :: st) ws := fun H locs ls h1 h2 h3 h4 => lv_if_ne C.1 C.2.1 hd ht (fun q => kt q H locs ls h1 h2 h3 h4) (fun q => kf q H locs ls h1 h2 h3 h4)
theorem j_if_lt {x : Int32} {off : Int} {tgt : Nat} (C : jC p s m args meth c cc Ts own nL A g) (hd : decode cc pc = .ok (.ifCond .lt off, 3)) (ht : (pc : Int) + off = (tgt : Int)) (kt : x < 0 → jJ p l e R s m args below meth c Q A g I nL cells slots tgt L st ws) (kf : ¬ x < 0 → jJ p l e R s m args below meth c Q A g I nL cells slots (pc + 3) L st ws) : jJ p l e R s m args below meth c Q A g I nL cells slots pc L (.int x :: st) ws := fun H locs ls h1 h2 h3 h4 => lv_if_lt C.1 C.2.1 hd ht (fun q => kt q H locs ls h1 h2 h3 h4) (fun q => kf q H locs ls h1 h2 h3 h4)
theorem j_if_ge {x : Int32} {off : Int} {tgt : Nat} (C : jC p s m args meth c cc Ts own nL A g) (hd : decode cc pc = .ok (.ifCond .ge off, 3)) (ht : (pc : Int) + off = (tgt : Int)) (kt : 0 ≤ x → jJ p l e R s m args below meth c Q A g I nL cells slots tgt L st ws) (kf : ¬ 0 ≤ x → jJ p l e R s m args below meth c Q A g I nL cells slots (pc + 3) L st ws) : jJ p l e R s m args below meth c Q A g I nL cells slots pc L (.int x :: st) ws := fun H locs ls h1 h2 h3 h4 => lv_if_ge C.1 C.2.1 hd ht (fun q => kt q H locs ls h1 h2 h3 h4) (fun q => kf q H locs ls h1 h2 h3 h4)
theorem j_if_gt {x : Int32} {off : Int} {tgt : Nat} (C : jC p s m args meth c cc Ts own nL A g) (hd : decode cc pc = .ok (.ifCond .gt off, 3)) (ht : (pc : Int) + off = (tgt : Int)) (kt : 0 < x → jJ p l e R s m args below meth c Q A g I nL cells slots tgt L st ws) (kf : ¬ 0 < x → jJ p l e R s m args below meth c Q A g I nL cells slots (pc + 3) L st ws) : jJ p l e R s m args below meth c Q A g I nL cells slots pc L (.int x :: st) ws := fun H locs ls h1 h2 h3 h4 => lv_if_gt C.1 C.2.1 hd ht (fun q => kt q H locs ls h1 h2 h3 h4) (fun q => kf q H locs ls h1 h2 h3 h4)
theorem j_if_le {x : Int32} {off : Int} {tgt : Nat} (C : jC p s m args meth c cc Ts own nL A g) (hd : decode cc pc = .ok (.ifCond .le off, 3)) (ht : (pc : Int) + off = (tgt : Int)) (kt : x ≤ 0 → jJ p l e R s m args below meth c Q A g I nL cells slots tgt L st ws) (kf : ¬ x ≤ 0 → jJ p l e R s m args below meth c Q A g I nL cells slots (pc + 3) L st ws) : jJ p l e R s m args below meth c Q A g I nL cells slots pc L (.int x :: st) ws := fun H locs ls h1 h2 h3 h4 => lv_if_le C.1 C.2.1 hd ht (fun q => kt q H locs ls h1 h2 h3 h4) (fun q => kf q H locs ls h1 h2 h3 h4)
theorem j_icmp_eq {x y : Int32} {off : Int} {tgt : Nat} (C : jC p s m args meth c cc Ts own nL A g) (hd : decode cc pc = .ok (.if_icmp .eq off, 3)) (ht : (pc : Int) + off = (tgt : Int)) (kt : x = y → jJ p l e R s m args below meth c Q A g I nL cells slots tgt L st ws) (kf : ¬ x = y → jJ p l e R s m args below meth c Q A g I nL cells slots (pc + 3) L st ws) : jJ p l e R s m args below meth c Q A g I nL cells slots pc L (.int y :: .int x :: st) ws := fun H locs ls h1 h2 h3 h4 => lv_icmp_eq C.1 C.2.1 hd ht (fun q => kt q H locs ls h1 h2 h3 h4) (fun q => kf q H locs ls h1 h2 h3 h4)
theorem j_icmp_ne {x y : Int32} {off : Int} {tgt : Nat} (C : jC p s m args meth c cc Ts own nL A g) (hd : decode cc pc = .ok (.if_icmp .ne off, 3)) (ht : (pc : Int) + off = (tgt : Int)) (kt : ¬ x = y → jJ p l e R s m args below meth c Q A g I nL cells slots tgt L st ws) (kf : x = y → jJ p l e R s m args below meth c Q A g I nL cells slots (pc + 3) L st ws) : jJ p l e R s m args below meth c Q A g I nL cells slots pc L (.int y :: .int x :: st) ws := fun H locs ls h1 h2 h3 h4 => lv_icmp_ne C.1 C.2.1 hd ht (fun q => kt q H locs ls h1 h2 h3 h4) (fun q => kf q H locs ls h1 h2 h3 h4)
theorem j_icmp_lt {x y : Int32} {off : Int} {tgt : Nat} (C : jC p s m args meth c cc Ts own nL A g) (hd : decode cc pc = .ok (.if_icmp .lt off, 3)) (ht : (pc : Int) + off = (tgt : Int)) (kt : x < y → jJ p l e R s m args below meth c Q A g I nL cells slots tgt L st ws) (kf : ¬ x < y → jJ p l e R s m args below meth c Q A g I nL cells slots (pc + 3) L st ws) : jJ p l e R s m args below meth c Q A g I nL cells slots pc L (.int y :: .int x :: st) ws := fun H locs ls h1 h2 h3 h4 => lv_icmp_lt C.1 C.2.1 hd ht (fun q => kt q H locs ls h1 h2 h3 h4) (fun q => kf q H locs ls h1 h2 h3 h4)
theorem j_icmp_ge {x y : Int32} {off : Int} {tgt : Nat} (C : jC p s m args meth c cc Ts own nL A g) (hd : decode cc pc = .ok (.if_icmp .ge off, 3)) (ht : (pc : Int) + off = (tgt : Int)) (kt : y ≤ x → jJ p l e R s m args below meth c Q A g I nL cells slots tgt L st ws) (kf : ¬ y ≤ x → jJ p l e R s m args below meth c Q A g I nL cells slots (pc + 3) L st ws) : jJ p l e R s m args below meth c Q A g I nL cells slots pc L (.int y :: .int x :: st) ws := fun H locs ls h1 h2 h3 h4 => lv_icmp_ge C.1 C.2.1 hd ht (fun q => kt q H locs ls h1 h2 h3 h4) (fun q => kf q H locs ls h1 h2 h3 h4)
theorem j_icmp_gt {x y : Int32} {off : Int} {tgt : Nat} (C : jC p s m args meth c cc Ts own nL A g) (hd : decode cc pc = .ok (.if_icmp .gt off, 3)) (ht : (pc : Int) + off = (tgt : Int)) (kt : y < x → jJ p l e R s m args below meth c Q A g I nL cells slots tgt L st ws) (kf : ¬ y < x → jJ p l e R s m args below meth c Q A g I nL cells slots (pc + 3) L st ws) : jJ p l e R s m args below meth c Q A g I nL cells slots pc L (.int y :: .int x :: st) ws := fun H locs ls h1 h2 h3 h4 => lv_icmp_gt C.1 C.2.1 hd ht (fun q => kt q H locs ls h1 h2 h3 h4) (fun q => kf q H locs ls h1 h2 h3 h4)
theorem j_icmp_le {x y : Int32} {off : Int} {tgt : Nat} (C : jC p s m args meth c cc Ts own nL A g) (hd : decode cc pc = .ok (.if_icmp .le off, 3)) (ht : (pc : Int) + off = (tgt : Int)) (kt : x ≤ y → jJ p l e R s m args below meth c Q A g I nL cells slots tgt L st ws) (kf : ¬ x ≤ y → jJ p l e R s m args below meth c Q A g I nL cells slots (pc + 3) L st ws) : jJ p l e R s m args below meth c Q A g I nL cells slots pc L (.int y :: .int x :: st) ws := fun H locs ls h1 h2 h3 h4 => lv_icmp_le C.1 C.2.1 hd ht (fun q => kt q H locs ls h1 h2 h3 h4) (fun q => kf q H locs ls h1 h2 h3 h4)
theorem j_lcmp_eq {x y : Int64} {off : Int} {tgt : Nat} (C : jC p s m args meth c cc Ts own nL A g) (hd0 : decode cc pc = .ok (.lcmp, 1)) (hd : decode cc (pc + 1) = .ok (.ifCond .eq off, 3)) (ht : ((pc + 1 : Nat) : Int) + off = (tgt : Int)) (kt : x = y → jJ p l e R s m args below meth c Q A g I nL cells slots tgt L st ws) (kf : ¬ x = y → jJ p l e R s m args below meth c Q A g I nL cells slots (pc + 4) L st ws) : jJ p l e R s m args below meth c Q A g I nL cells slots pc L (.long y :: .long x :: st) ws := fun H locs ls h1 h2 h3 h4 => W.lcmp C.1 C.2.1 hd0 (lv_if_eq C.1 C.2.1 hd ht (fun q => kt ((lg_cmp_eq x y).mp q) H locs ls h1 h2 h3 h4) (fun q => kf (fun z => q ((lg_cmp_eq x y).mpr z)) H locs ls h1 h2 h3 h4))
theorem j_lcmp_ne {x y : Int64} {off : Int} {tgt : Nat} (C : jC p s m args meth c cc Ts own nL A g) (hd0 : decode cc pc = .ok (.lcmp, 1)) (hd : decode cc (pc + 1) = .ok (.ifCond .ne off, 3)) (ht : ((pc + 1 : Nat) : Int) + off = (tgt : Int)) (kt : ¬ x = y → jJ p l e R s m args below meth c Q A g I nL cells slots tgt L st ws) (kf : x = y → jJ p l e R s m args below meth c Q A g I nL cells slots (pc + 4) L st ws) : jJ p l e R s m args below meth c Q A g I nL cells slots pc L (.long y :: .long x :: st) ws := fun H locs ls h1 h2 h3 h4 => W.lcmp C.1 C.2.1 hd0 (lv_if_ne C.1 C.2.1 hd ht (fun q => kt (fun z => q ((lg_cmp_eq x y).mpr z)) H locs ls h1 h2 h3 h4) (fun q => kf ((lg_cmp_eq x y).mp q) H locs ls h1 h2 h3 h4))
theorem j_lcmp_lt {x y : Int64} {off : Int} {tgt : Nat} (C : jC p s m args meth c cc Ts own nL A g) (hd0 : decode cc pc = .ok (.lcmp, 1)) (hd : decode cc (pc + 1) = .ok (.ifCond .lt off, 3)) (ht : ((pc + 1 : Nat) : Int) + off = (tgt : Int)) (kt : x < y → jJ p l e R s m args below meth c Q A g I nL cells slots tgt L st ws) (kf : ¬ x < y → jJ p l e R s m args below meth c Q A g I nL cells slots (pc + 4) L st ws) : jJ p l e R s m args below meth c Q A g I nL cells slots pc L (.long y :: .long x :: st) ws := fun H locs ls h1 h2 h3 h4 => W.lcmp C.1 C.2.1 hd0 (lv_if_lt C.1 C.2.1 hd ht (fun q => kt ((lg_cmp_lt x y).mp q) H locs ls h1 h2 h3 h4) (fun q => kf (fun z => q ((lg_cmp_lt x y).mpr z)) H locs ls h1 h2 h3 h4))
theorem j_lcmp_ge {x y : Int64} {off : Int} {tgt : Nat} (C : jC p s m args meth c cc Ts own nL A g) (hd0 : decode cc pc = .ok (.lcmp, 1)) (hd : decode cc (pc + 1) = .ok (.ifCond .ge off, 3)) (ht : ((pc + 1 : Nat) : Int) + off = (tgt : Int)) (kt : y ≤ x → jJ p l e R s m args below meth c Q A g I nL cells slots tgt L st ws) (kf : ¬ y ≤ x → jJ p l e R s m args below meth c Q A g I nL cells slots (pc + 4) L st ws) : jJ p l e R s m args below meth c Q A g I nL cells slots pc L (.long y :: .long x :: st) ws := fun H locs ls h1 h2 h3 h4 => W.lcmp C.1 C.2.1 hd0 (lv_if_ge C.1 C.2.1 hd ht (fun q => kt ((lg_cmp_ge x y).mp q) H locs ls h1 h2 h3 h4) (fun q => kf (fun z => q ((lg_cmp_ge x y).mpr z)) H locs ls h1 h2 h3 h4))
theorem j_lcmp_gt {x y : Int64} {off : Int} {tgt : Nat} (C : jC p s m args meth c cc Ts own nL A g) (hd0 : decode cc pc = .ok (.lcmp, 1)) (hd : decode cc (pc + 1) = .ok (.ifCond .gt off, 3)) (ht : ((pc + 1 : Nat) : Int) + off = (tgt : Int)) (kt : y < x → jJ p l e R s m args below meth c Q A g I nL cells slots tgt L st ws) (kf : ¬ y < x → jJ p l e R s m args below meth c Q A g I nL cells slots (pc + 4) L st ws) : jJ p l e R s m args below meth c Q A g I nL cells slots pc L (.long y :: .long x :: st) ws := fun H locs ls h1 h2 h3 h4 => W.lcmp C.1 C.2.1 hd0 (lv_if_gt C.1 C.2.1 hd ht (fun q => kt ((lg_cmp_gt x y).mp q) H locs ls h1 h2 h3 h4) (fun q => kf (fun z => q ((lg_cmp_gt x y).mpr z)) H locs ls h1 h2 h3 h4))
theorem j_lcmp_le {x y : Int64} {off : Int} {tgt : Nat} (C : jC p s m args meth c cc Ts own nL A g) (hd0 : decode cc pc = .ok (.lcmp, 1)) (hd : decode cc (pc + 1) = .ok (.ifCond .le off, 3)) (ht : ((pc + 1 : Nat) : Int) + off = (tgt : Int)) (kt : x ≤ y → jJ p l e R s m args below meth c Q A g I nL cells slots tgt L st ws) (kf : ¬ x ≤ y → jJ p l e R s m args below meth c Q A g I nL cells slots (pc + 4) L st ws) : jJ p l e R s m args below meth c Q A g I nL cells slots pc L (.long y :: .long x :: st) ws := fun H locs ls h1 h2 h3 h4 => W.lcmp C.1 C.2.1 hd0 (lv_if_le C.1 C.2.1 hd ht (fun q => kt ((lg_cmp_le x y).mp q) H locs ls h1 h2 h3 h4) (fun q => kf (fun z => q ((lg_cmp_le x y).mpr z)) H locs ls h1 h2 h3 h4))
theorem j_iald {a n : Nat} {f : Nat → Int32} {i : Int32} (q : Nat) (C : jC p s m args meth c cc Ts own nL A g) (hd : decode cc pc = .ok (.iaload, 1)) (hq : ws[q]? = some (a, jaI g n f)) (hin : vp_in i n) (k : jJ p l e R s m args below meth c Q A g I nL cells slots (pc + 1) L (.int (f i.toNatClampNeg) :: st) ws) : jJ p l e R s m args below meth c Q A g I nL cells slots pc L (.int i :: .ref a :: st) ws := fun H locs ls h1 h2 h3 h4 => va_iald C.1 C.2.1 C.2.2.2.2.2.2.1.1 h2 q 0 hq rfl hin hd (k H locs ls h1 h2 h3 h4)
theorem j_lald {a n : Nat} {f : Nat → Int64} {i : Int32} (q : Nat) (C : jC p s m args meth c cc Ts own nL A g) (hd : decode cc pc = .ok (.laload, 1)) (hq : ws[q]? = some (a, jaL g n f)) (hin : vp_in i n) (k : jJ p l e R s m args below meth c Q A g I nL cells slots (pc + 1) L (.long (f i.toNatClampNeg) :: st) ws) : jJ p l e R s m args below meth c Q A g I nL cells slots pc L (.int i :: .ref a :: st) ws := fun H locs ls h1 h2 h3 h4 => va_lald C.1 C.2.1 C.2.2.2.2.2.2.1.1 h2 q 1 hq rfl hin hd (k H locs ls h1 h2 h3 h4)
theorem j_aldP {a n : Nat} {f : Nat → Option Nat} {i : Int32} (q : Nat) (C : jC p s m args meth c cc Ts own nL A g) (hd : decode cc pc = .ok (.aaload, 1)) (hq : ws[q]? = some (a, jaP g n f)) (hin : vp_in i n) (k : jJ p l e R s m args below meth c Q A g I nL cells slots (pc + 1) L (va_rf (f i.toNatClampNeg) :: st) ws) : jJ p l e R s m args below meth c Q A g I nL cells slots pc L (.int i :: .ref a :: st) ws := fun H locs ls h1 h2 h3 h4 => va_aldq C.1 C.2.1 C.2.2.2.2.2.2.1.1 h2 q 3 hq rfl hin hd (k H locs ls h1 h2 h3 h4)
theorem j_alenI {a n : Nat} {f : Nat → Int32} {v : Int32} (q : Nat) (C : jC p s m args meth c cc Ts own nL A g) (hd : decode cc pc = .ok (.arraylength, 1)) (hq : ws[q]? = some (a, jaI g n f)) (hv : Int32.ofNat n = v) (k : jJ p l e R s m args below meth c Q A g I nL cells slots (pc + 1) L (.int v :: st) ws) : jJ p l e R s m args below meth c Q A g I nL cells slots pc L (.ref a :: st) ws := fun H locs ls h1 h2 h3 h4 => va_alen C.1 C.2.1 C.2.2.2.2.2.2.1.1 h2 q 0 hq rfl hv hd (k H locs ls h1 h2 h3 h4)
theorem j_alenL {a n : Nat} {f : Nat → Int64} {v : Int32} (q : Nat) (C : jC p s m args meth c cc Ts own nL A g) (hd : decode cc pc = .ok (.arraylength, 1)) (hq : ws[q]? = some (a, jaL g n f)) (hv : Int32.ofNat n = v) (k : jJ p l e R s m args below meth c Q A g I nL cells slots (pc + 1) L (.int v :: st) ws) : jJ p l e R s m args below meth c Q A g I nL cells slots pc L (.ref a :: st) ws := fun H locs ls h1 h2 h3 h4 => va_alen C.1 C.2.1 C.2.2.2.2.2.2.1.1 h2 q 1 hq rfl hv hd (k H locs ls h1 h2 h3 h4)
theorem j_alenP {a n : Nat} {f : Nat → Option Nat} {v : Int32} (q : Nat) (C : jC p s m args meth c cc Ts own nL A g) (hd : decode cc pc = .ok (.arraylength, 1)) (hq : ws[q]? = some (a, jaP g n f)) (hv : Int32.ofNat n = v) (k : jJ p l e R s m args below meth c Q A g I nL cells slots (pc + 1) L (.int v :: st) ws) : jJ p l e R s m args below meth c Q A g I nL cells slots pc L (.ref a :: st) ws := fun H locs ls h1 h2 h3 h4 => va_alen C.1 C.2.1 C.2.2.2.2.2.2.1.1 h2 q 3 hq rfl hv hd (k H locs ls h1 h2 h3 h4)
theorem j_get {a ci N ix : Nat} {Cn : String} {T : u_T} {fs : List Value} {v : Value} (q k0 : Nat) (C : jC p s m args meth c cc Ts own nL A g) (hd : decode cc pc = .ok (.getfield ix, 3)) (hin : ∀ w ∈ u_ws Cn T N, w ∈ Ts) (hq : ws[q]? = some (a, .inr (ci, fs))) (hc : vwCl[ci]? = some (Cn, T, N)) (hk : k0 < N) (hw : Cond.fieldLink own ix (T k0).1 (T k0).2.1 (T k0).2.2.1 ∈ Ts) (hv : fs[k0]? = some v) (k : jJ p l e R s m args below meth c Q A g I nL cells slots (pc + 3) L (v :: st) ws) : jJ p l e R s m args below meth c Q A g I nL cells slots pc L (.ref a :: st) ws := fun H locs ls h1 h2 h3 h4 => va_get C.1 C.2.1 C.2.2.2.2.1 hin C.2.2.2.1 C.2.2.2.2.2.2.1.1 h2 q hq hc k0 hk (C.2.2.2.2.1 _ hw) (fun _ h9 => h9) hv hd (k H locs ls h1 h2 h3 h4)
theorem j_iast {a n : Nat} {f : Nat → Int32} {i : Int32} {x : Int32} (q : Nat) {ws' : va_W} (C : jC p s m args meth c cc Ts own nL A g) (hd : decode cc pc = .ok (.iastore, 1)) (hq : ws[q]? = some (a, jaI g n f)) (hin : vp_in i n) (hs : ws.set q (a, jaI g n (upd f i.toNatClampNeg x)) = ws') (k : jJ p l e R s m args below meth c Q A g (va_S A s.heap) nL cells slots (pc + 1) L st ws') : jJ p l e R s m args below meth c Q A g (va_S A s.heap) nL cells slots pc L (.int x :: .int i :: .ref a :: st) ws := fun H locs ls h1 h2 h3 h4 => va_iast C.1 C.2.1 C.2.2.2.2.2.2.1.1 h2 h3 h4 q 0 hq rfl hin hd (fun H1 locs1 g2 g3 g4 => k H1 locs1 ls h1 (hs ▸ g2) (hs ▸ g3) g4)
theorem j_last {a n : Nat} {f : Nat → Int64} {i : Int32} {x : Int64} (q : Nat) {ws' : va_W} (C : jC p s m args meth c cc Ts own nL A g) (hd : decode cc pc = .ok (.lastore, 1)) (hq : ws[q]? = some (a, jaL g n f)) (hin : vp_in i n) (hs : ws.set q (a, jaL g n (vp_updL f i.toNatClampNeg x)) = ws') (k : jJ p l e R s m args below meth c Q A g (va_S A s.heap) nL cells slots (pc + 1) L st ws') : jJ p l e R s m args below meth c Q A g (va_S A s.heap) nL cells slots pc L (.long x :: .int i :: .ref a :: st) ws := fun H locs ls h1 h2 h3 h4 => va_last C.1 C.2.1 C.2.2.2.2.2.2.1.1 h2 h3 h4 q 1 hq rfl hin hd (fun H1 locs1 g2 g3 g4 => k H1 locs1 ls h1 (hs ▸ g2) (hs ▸ g3) g4)
theorem j_put {a ci N ix : Nat} {Cn : String} {T : u_T} {fs : List Value} {v : Value} {ty : FieldType} (ty0 : Nat → FieldType) (q k0 : Nat) {ws' : va_W} (C : jC p s m args meth c cc Ts own nL A g) (hd : decode cc pc = .ok (.putfield ix, 3)) (hin : ∀ w ∈ u_ws Cn T N, w ∈ Ts) (hty : ∀ k, k < N → parseFieldDescriptor (T k).2.2.1 = some (ty0 k)) (hnm : ∀ a, a < N → ∀ b, b < N → a ≠ b → (T a).2.1 ≠ (T b).2.1) (hq : ws[q]? = some (a, .inr (ci, fs))) (hc : vwCl[ci]? = some (Cn, T, N)) (hk : k0 < N) (hw : Cond.fieldLink own ix (T k0).1 (T k0).2.1 (T k0).2.2.1 ∈ Ts) (hfin : (T k0).2.2.2 = false) (hdn : parseFieldDescriptor (T k0).2.2.1 = some ty) (hn : narrow ty v = v) (hfit : fits ty v = true) (hl : k0 < fs.length) (hs : ws.set q (a, .inr (ci, fs.set k0 v)) = ws') (k : jJ p l e R s m args below meth c Q A g (va_S A s.heap) nL cells slots (pc + 3) L st ws') : jJ p l e R s m args below meth c Q A g (va_S A s.heap) nL cells slots pc L (v :: .ref a :: st) ws := fun H locs ls h1 h2 h3 h4 => va_put C.1 C.2.1 C.2.2.2.2.1 hin ty0 hty hnm C.2.2.2.1 C.2.2.2.2.2.2.1.1 h2 h3 h4 q hq hc k0 hk (C.2.2.2.2.1 _ hw) (fun _ h9 => h9) hfin hdn hn hfit hl hd (fun H1 locs1 g2 g3 g4 => k H1 locs1 ls h1 (hs ▸ g2) (hs ▸ g3) g4)
theorem j_sub {L' : List (Nat × Value)} (hs : ∀ q ∈ L', q ∈ L) (k : jJ p l e R s m args below meth c Q A g I nL cells slots pc L' st ws) : jJ p l e R s m args below meth c Q A g I nL cells slots pc L st ws := fun H locs ls h1 h2 h3 h4 => k H locs ls ⟨h1.1, h1.2.1, fun q hq => h1.2.2 q (hs q hq)⟩ h2 h3 h4
theorem j_eq {pc' : Nat} {L' : List (Nat × Value)} {st' : List Value} {ws' : va_W} (k : jJ p l e R s m args below meth c Q A g I nL cells slots pc' L' st' ws') (h0 : pc = pc') (h1 : L = L') (h2 : st = st') (h3 : ws = ws') : jJ p l e R s m args below meth c Q A g I nL cells slots pc L st ws := by
  subst h0; subst h1; subst h2; subst h3; exact k
/-- the same world in another order -/
theorem j_perm {ws' : va_W} (hp : ws'.Perm ws) (k : jJ p l e R s m args below meth c Q A g I nL cells slots pc L st ws') : jJ p l e R s m args below meth c Q A g I nL cells slots pc L st ws := fun H locs ls h1 h2 h3 h4 => k H locs ls h1 (jP_iff.mpr fun q hq => jP_iff.mp h2 q (hp.mem_iff.mp hq)) (jD_iff.mpr ⟨((hp.map (·.1)).nodup_iff).mpr (jD_iff.mp h3).1, fun q hq => (jD_iff.mp h3).2 q (hp.mem_iff.mp hq)⟩) h4
/-- an array is what it holds below its length -/
theorem j_cell {ws' : va_W} (h : ∀ H, va_P g.1 vwCl ws H → va_P g.1 vwCl ws' H) (hf : ws'.map (·.1) = ws.map (·.1)) (k : jJ p l e R s m args below meth c Q A g I nL cells slots pc L st ws') : jJ p l e R s m args below meth c Q A g I nL cells slots pc L st ws := fun H locs ls h1 h2 h3 h4 => k H locs ls h1 (h H h2) (jD_iff.mpr (by
  have h5 := jD_iff.mp h3
  refine ⟨by rw [hf]; exact h5.1, fun q hq => ?_⟩
  have : q.1 ∈ ws'.map (·.1) := List.mem_map.mpr ⟨q, hq, rfl⟩
  rw [hf] at this
  obtain ⟨z, z1, z2⟩ := List.mem_map.mp this
  rw [← z2]; exact h5.2 z z1)) h4
theorem j_widen {k n : Nat} (h1 : cells ≤ k) (h2 : slots ≤ n) (kk : jJ p l e R s m args below meth c Q A g I nL k n pc L st ws) : jJ p l e R s m args below meth c Q A g I nL cells slots pc L st ws := fun H locs ls g1 g2 g3 g4 => W.widen h1 h2 (kk H locs ls g1 g2 g3 g4)
-- ends of a method that only reads
theorem j_iretR {v v0 : Int32} (C : jC p s m args meth c cc Ts own nL A g) (hr : meth.sig.returnType = some .int) (hd : decode cc pc = .ok (.ireturn, 1)) (hv : v = v0) : jJ p l e R s m args below meth c (MQ below (vp_Si (fun r => r = v0)) args s 0 0 (fun _ => False)) A g (jRO s) nL 0 0 pc L [.int v] ws := fun H locs ls h1 h2 h3 h4 => by
  obtain ⟨rfl, rfl⟩ := h4
  exact W.iret C.1 C.2.1 hr (fun t ht hW => ⟨v, rfl, hv, ht⟩) (fun q hq => absurd hq List.not_mem_nil) hd (hlocks := C.2.2.2.2.2.1)
theorem j_zretR {v v0 : Int32} (C : jC p s m args meth c cc Ts own nL A g) (hr : meth.sig.returnType = some .boolean) (hd : decode cc pc = .ok (.ireturn, 1)) (hn : narrow .boolean (.int v) = .int v) (hv : v = v0) : jJ p l e R s m args below meth c (MQ below (vp_Si (fun r => r = v0)) args s 0 0 (fun _ => False)) A g (jRO s) nL 0 0 pc L [.int v] ws := fun H locs ls h1 h2 h3 h4 => by
  obtain ⟨rfl, rfl⟩ := h4
  exact W.zret C.1 C.2.1 hr hn (fun t ht hW => ⟨v, rfl, hv, ht⟩) (fun q hq => absurd hq List.not_mem_nil) hd (hlocks := C.2.2.2.2.2.1)
theorem j_lretR {v v0 : Int64} (C : jC p s m args meth c cc Ts own nL A g) (hr : meth.sig.returnType = some .long) (hd : decode cc pc = .ok (.lreturn, 1)) (hv : v = v0) : jJ p l e R s m args below meth c (MQ below (vp_Sl (fun r => r = v0)) args s 0 0 (fun _ => False)) A g (jRO s) nL 0 0 pc L [.long v] ws := fun H locs ls h1 h2 h3 h4 => by
  obtain ⟨rfl, rfl⟩ := h4
  exact W.lret C.1 C.2.1 hr (fun t ht hW => ⟨v, rfl, hv, ht⟩) (fun q hq => absurd hq List.not_mem_nil) hd (hlocks := C.2.2.2.2.2.1)
-- ends of a method that writes
theorem j_iretW {S : Type} {post : Int32 → S → Prop} {wf : S → va_W} {v : Int32} (C : jC p s m args meth c cc Ts own nL A g) (hr : meth.sig.returnType = some .int) (hd : decode cc pc = .ok (.ireturn, 1)) (u : S) (hv : post v u) (hw : wf u = ws) : jJ p l e R s m args below meth c (MQ below (va_Qi post (fun u t => va_P g.1 vwCl (wf u) t.heap) A) args s cells slots A) A g (va_S A s.heap) nL cells slots pc L [.int v] ws := fun H locs ls h1 h2 h3 h4 => by
  subst hw
  exact W.iret C.1 C.2.1 hr (fun t ht hW => ⟨⟨v, u, rfl, hv, by show va_P g.1 vwCl (wf u) t.heap; rw [ht]; exact h2⟩, h4.F ht⟩) h4.2.2 hd (hlocks := C.2.2.2.2.2.1)
theorem j_zretW {S : Type} {post : Int32 → S → Prop} {wf : S → va_W} {v : Int32} (C : jC p s m args meth c cc Ts own nL A g) (hr : meth.sig.returnType = some .boolean) (hd : decode cc pc = .ok (.ireturn, 1)) (hn : narrow .boolean (.int v) = .int v) (u : S) (hv : post v u) (hw : wf u = ws) : jJ p l e R s m args below meth c (MQ below (va_Qi post (fun u t => va_P g.1 vwCl (wf u) t.heap) A) args s cells slots A) A g (va_S A s.heap) nL cells slots pc L [.int v] ws := fun H locs ls h1 h2 h3 h4 => by
  subst hw
  exact W.zret C.1 C.2.1 hr hn (fun t ht hW => ⟨⟨v, u, rfl, hv, by show va_P g.1 vwCl (wf u) t.heap; rw [ht]; exact h2⟩, h4.F ht⟩) h4.2.2 hd (hlocks := C.2.2.2.2.2.1)
theorem j_vretW {S : Type} {post : S → Prop} {wf : S → va_W} (C : jC p s m args meth c cc Ts own nL A g) (hr : meth.sig.returnType = none) (hd : decode cc pc = .ok (.return_, 1)) (u : S) (hv : post u) (hw : wf u = ws) : jJ p l e R s m args below meth c (MQ below (va_Qv post (fun u t => va_P g.1 vwCl (wf u) t.heap) A) args s cells slots A) A g (va_S A s.heap) nL cells slots pc L [] ws := fun H locs ls h1 h2 h3 h4 => by
  subst hw
  exact W.vret C.1 C.2.1 hr (fun t ht hW => ⟨⟨u, rfl, hv, by show va_P g.1 vwCl (wf u) t.heap; rw [ht]; exact h2⟩, h4.F ht⟩) h4.2.2 hd (hlocks := C.2.2.2.2.2.1)
/-- a call, said of every heap that holds the world -/
abbrev jRun (p : Program) (l : Launch) (e : Env) (R : Room) (s : State) (m : MethodId) (args : Array Value) (below : List Frame) (meth : Method) (c : Code) (A : Nat → Prop) (g : jG) (nL cells slots mc ms pc : Nat) (L : List (Nat × Value)) (st0 rest : List Value) (ws : va_W) (Qa : Nat → State → Outcome → State → Prop) (fr : Nat → Nat → Prop) : Prop :=
  ∀ (H : Heap) (locs : List Loc) (ls : Array Slot), lv_has ls nL L → va_P g.1 vwCl ws H → va_D A ws → va_Run p l e R s m args below meth c H locs cells slots mc ms (F0 m pc ls st0) rest (Qa H.size) (fr H.size)
theorem j_cut {ws wc : va_W} {H : Heap} {A : Nat → Prop} {ks : List Nat} (hk : ks.map (fun i => ws[i]?) = wc.map some) (hnd : va_nd ks = true) (hP : va_P g.1 vwCl ws H) (hD : va_D A ws) : va_P g.1 vwCl wc H ∧ va_D (fun _ => True) wc := by
  refine ⟨fun k q hq => ?_, (hD.sub ks hnd hk).weaken (fun _ _ _ _ => trivial)⟩
  have h1 : (ks.map (fun i => ws[i]?))[k]? = some (some q) := by rw [hk, List.getElem?_map, hq]; rfl
  rw [List.getElem?_map] at h1
  cases hi : ks[k]? with
  | none => rw [hi] at h1; cases h1
  | some i => rw [hi] at h1; exact hP i q (Option.some.inj h1)
section JCALL
variable {y : MethodName} {wsy wsr : List Cond} {rm : Room} {Qc : Nat → Array Value → State → Outcome → State → Prop} {fr : Nat → Nat → Prop} {mc ms n index : Nat} {bytes : ByteArray} {maxL : Nat} {ret : Option FieldType} {As st0 rest : List Value} {wc : va_W} {Cn : String} {b ci N : Nat} {T : u_T} {fs : List Value}
theorem j_runV (ks : List Nat) (C : jC p s m args meth c cc Ts own nL A g) (hM : ∀ sz, Met l y wsy rm (jPc g (.ref b :: As) wc sz) (Qc sz) mc ms (fr sz)) (hG : GoodIn Ts (wsV own index Cn y wsy)) (hw : wsy = Cond.code y bytes maxL ret :: wsr) (hrc : rm.cells = mc) (hrs : rm.slots = ms)
    (hds : y.cls = Cn ∧ y.cls ≠ "java/lang/invoke/MethodHandle" ∧ y.cls ≠ "java/lang/invoke/VarHandle" ∧ (parseMethodDescriptor y.desc).map (fun d => d.parameters.length) = some As.length) (hR : rm.frames + 1 ≤ R.frames ∧ 8 + (maxL + 11) + rm.locals ≤ R.locals)
    (hk : ks.map (fun i => ws[i]?) = wc.map some) (hnd : va_nd ks = true) (hrv : ws[ci]? = some (b, .inr (n, fs))) (hcl : vwCl[n]? = some (Cn, T, N)) (hd : decode cc pc = .ok (.invokevirtual index, 3)) (hst : st0 = As.reverse ++ .ref b :: rest) (hrm : (rest.map fun v => v.category).sum ≤ 8) (hf : cells + mc ≤ R.cells ∧ slots + ms ≤ R.slots) :
    jRun p l e R s m args below meth c A g nL cells slots mc ms pc L st0 rest ws (fun z => Qc z (Value.ref b :: As).toArray) fr := fun H locs ls h1 h2 h3 => by
  obtain ⟨c2, c3⟩ := j_cut (g := g) hk hnd h2 h3
  exact va_runV (As := As) (rest := rest) ⟨C.1, C.2.1, C.2.2.1, C.2.2.2.1, C.2.2.2.2.1⟩ (hM H.size) (cwV As.length C.2.2.2.2.1 hG hw hrc hrs hds hR) ⟨jPc.blind, va_recv C.2.2.2.2.2.2.1.1 h2 hcl hrv, fun U hU hW => ⟨rfl, by rw [hU], by rw [hU]; exact c2, C.2.2.2.2.2.2.1.warm hW, c3⟩⟩ rfl rfl h1.1 hst (lv_room hrm) hd hf
theorem j_runS (ks : List Nat) (C : jC p s m args meth c cc Ts own nL A g) (hM : ∀ sz, Met l y wsy rm (jPc g As wc sz) (Qc sz) mc ms (fr sz)) (hG : GoodIn Ts (wsS own index y wsy)) (hw : wsy = Cond.code y bytes maxL ret :: wsr) (hrc : rm.cells = mc) (hrs : rm.slots = ms)
    (hds : y.cls = own ∧ y.cls ≠ "java/lang/invoke/MethodHandle" ∧ y.cls ≠ "java/lang/invoke/VarHandle" ∧ (parseMethodDescriptor y.desc).map (fun d => d.parameters.length) = some As.length) (hR : rm.frames + 1 ≤ R.frames ∧ 8 + (maxL + 11) + rm.locals ≤ R.locals)
    (hk : ks.map (fun i => ws[i]?) = wc.map some) (hnd : va_nd ks = true) (hd : decode cc pc = .ok (.invokestatic index, 3)) (hst : st0 = As.reverse ++ rest) (hrm : (rest.map fun v => v.category).sum ≤ 8) (hf : cells + mc ≤ R.cells ∧ slots + ms ≤ R.slots) :
    jRun p l e R s m args below meth c A g nL cells slots mc ms pc L st0 rest ws (fun z => Qc z As.toArray) fr := fun H locs ls h1 h2 h3 => by
  obtain ⟨c2, c3⟩ := j_cut (g := g) hk hnd h2 h3
  exact va_runS (As := As) (rest := rest) ⟨C.1, C.2.1, C.2.2.1, C.2.2.2.1, C.2.2.2.2.1⟩ (hM H.size) (cwS As.length C.2.2.2.2.1 hG hw hrc hrs hds hR) ⟨jPc.blind, fun U hU hW => ⟨rfl, by rw [hU], by rw [hU]; exact c2, C.2.2.2.2.2.2.1.warm hW, c3⟩⟩ rfl rfl h1.1 hst (lv_room hrm) hd hf
theorem j_runSN (ks : List Nat) {host : String} (C : jC p s m args meth c cc Ts own nL A g) (hM : ∀ sz, Met l y wsy rm (jPc g As wc sz) (Qc sz) mc ms (fr sz)) (hG : GoodIn Ts wsy) (hw : wsy = Cond.code y bytes maxL ret :: wsr) (hrc : rm.cells = mc) (hrs : rm.slots = ms) (hl : va_Nw (.methodLinkNest own index y host) s) (hini : Cond.initialized y.cls ∈ Ts) (hstt : Cond.static y ∈ Ts)
    (hds : y.cls ≠ "java/lang/invoke/MethodHandle" ∧ y.cls ≠ "java/lang/invoke/VarHandle" ∧ (parseMethodDescriptor y.desc).map (fun d => d.parameters.length) = some As.length) (hR : rm.frames + 1 ≤ R.frames ∧ 8 + (maxL + 11) + rm.locals ≤ R.locals)
    (hk : ks.map (fun i => ws[i]?) = wc.map some) (hnd : va_nd ks = true) (hd : decode cc pc = .ok (.invokestatic index, 3)) (hst : st0 = As.reverse ++ rest) (hrm : (rest.map fun v => v.category).sum ≤ 8) (hf : cells + mc ≤ R.cells ∧ slots + ms ≤ R.slots) :
    jRun p l e R s m args below meth c A g nL cells slots mc ms pc L st0 rest ws (fun z => Qc z As.toArray) fr := fun H locs ls h1 h2 h3 => by
  obtain ⟨c2, c3⟩ := j_cut (g := g) hk hnd h2 h3
  exact va_runSN (As := As) (rest := rest) ⟨C.1, C.2.1, C.2.2.1, C.2.2.2.1, C.2.2.2.2.1⟩ (hM H.size) ⟨va_cnB As.length C.2.2.2.2.1 hG hw hrc hrs hl (C.2.2.2.2.1 _ hini) hds hR, C.2.2.2.2.1 _ hstt, trivial⟩ ⟨jPc.blind, fun U hU hW => ⟨rfl, by rw [hU], by rw [hU]; exact c2, C.2.2.2.2.2.2.1.warm hW, c3⟩⟩ rfl rfl h1.1 hst (lv_room hrm) hd hf
end JCALL
-- behind a call: of a method that only reads
theorem j_callRi {v : Int32} {st0 rest : List Value} {a9 : Array Value} (hr : jRun p l e R s m args below meth c A g nL cells slots 0 0 pc L st0 rest ws (fun _ => vp_Si (fun r => r = v) a9) (fun _ _ => False)) (k : jJ p l e R s m args below meth c Q A g I nL cells slots (pc + 3) L (.int v :: rest) ws) : jJ p l e R s m args below meth c Q A g I nL cells slots pc L st0 ws := fun H locs ls h1 h2 h3 h4 => vp_callSi (hr H locs ls h1 h2 h3).run (fun r hr => by subst hr; exact k H locs ls h1 h2 h3 h4)
theorem j_callRl {v : Int64} {st0 rest : List Value} {a9 : Array Value} (hr : jRun p l e R s m args below meth c A g nL cells slots 0 0 pc L st0 rest ws (fun _ => vp_Sl (fun r => r = v) a9) (fun _ _ => False)) (k : jJ p l e R s m args below meth c Q A g I nL cells slots (pc + 3) L (.long v :: rest) ws) : jJ p l e R s m args below meth c Q A g I nL cells slots pc L st0 ws := fun H locs ls h1 h2 h3 h4 => vp_callSl (hr H locs ls h1 h2 h3).run (fun r hr => by subst hr; exact k H locs ls h1 h2 h3 h4)
-- .. of one that writes, and makes nothing
theorem j_callWi {S : Type} {post : Int32 → S → Prop} {wf : S → va_W} {wc : va_W} {st0 rest : List Value} {a9 : Array Value} (ks : List Nat) (ws' : S → va_W) (C : jC p s m args meth c cc Ts own nL A g) (hr : jRun p l e R s m args below meth c A g nL cells slots 0 0 pc L st0 rest ws (fun z => va_Qi post (fun u t => va_P g.1 vwCl (wf u) t.heap) (va_A wc z) a9) (fun z => va_A wc z))
    (hk : ks.map (fun i => ws[i]?) = wc.map some) (hfst : ∀ u, (wf u).map (·.1) = wc.map (·.1)) (hs : ∀ u, jset ws ks (wf u) = ws' u) (k : ∀ r u, post r u → jJ p l e R s m args below meth c Q A g (va_S A s.heap) nL cells slots (pc + 3) L (.int r :: rest) (ws' u)) : jJ p l e R s m args below meth c Q A g (va_S A s.heap) nL cells slots pc L st0 ws := fun H locs ls h1 h2 h3 h4 => by
  have hFc := va_free h3 h4 C.2.2.2.2.2.2.2 ks hk
  refine va_calli (hr H locs ls h1 h2 h3) h4 (fun q _ h => hFc q h) hFc (fun r u t H1 locs1 ht hvm hw hB hz hk1 hS => ?_)
  rw [ht] at hB
  obtain ⟨j1, j2⟩ := jset_join h2 h3 hk (hfst u) hk1 hB
  rw [hs u] at j1 j2
  exact k r u hw H1 locs1 ls h1 j1 j2 hS
theorem j_callWv {S : Type} {post : S → Prop} {wf : S → va_W} {wc : va_W} {st0 rest : List Value} {a9 : Array Value} (ks : List Nat) (ws' : S → va_W) (C : jC p s m args meth c cc Ts own nL A g) (hr : jRun p l e R s m args below meth c A g nL cells slots 0 0 pc L st0 rest ws (fun z => va_Qv post (fun u t => va_P g.1 vwCl (wf u) t.heap) (va_A wc z) a9) (fun z => va_A wc z))
    (hk : ks.map (fun i => ws[i]?) = wc.map some) (hfst : ∀ u, (wf u).map (·.1) = wc.map (·.1)) (hs : ∀ u, jset ws ks (wf u) = ws' u) (k : ∀ u, post u → jJ p l e R s m args below meth c Q A g (va_S A s.heap) nL cells slots (pc + 3) L rest (ws' u)) : jJ p l e R s m args below meth c Q A g (va_S A s.heap) nL cells slots pc L st0 ws := fun H locs ls h1 h2 h3 h4 => by
  have hFc := va_free h3 h4 C.2.2.2.2.2.2.2 ks hk
  refine va_callv (hr H locs ls h1 h2 h3) h4 (fun q _ h => hFc q h) hFc (fun u t H1 locs1 ht hvm hw hB hz hk1 hS => ?_)
  rw [ht] at hB
  obtain ⟨j1, j2⟩ := jset_join h2 h3 hk (hfst u) hk1 hB
  rw [hs u] at j1 j2
  exact k u hw H1 locs1 ls h1 j1 j2 hS
end JROWS
/-- the contracts' forms -/
abbrev jRi (l : Launch) (y : MethodName) (wsy : List Cond) (rm : Room) (g : jG) (As : List Value) (wc : va_W) (v : Int32) : Prop := ∀ sz, Met l y wsy rm (jPc g As wc sz) (vp_Si (fun r => r = v)) 0 0 (fun _ => False)
abbrev jRl (l : Launch) (y : MethodName) (wsy : List Cond) (rm : Room) (g : jG) (As : List Value) (wc : va_W) (v : Int64) : Prop := ∀ sz, Met l y wsy rm (jPc g As wc sz) (vp_Sl (fun r => r = v)) 0 0 (fun _ => False)
abbrev jWi (l : Launch) (y : MethodName) (wsy : List Cond) (rm : Room) (g : jG) (As : List Value) (wc w1 : va_W) (v : Int32) : Prop := ∀ sz, Met l y wsy rm (jPc g As wc sz) (va_Qi (fun r (_ : Unit) => r = v) (fun _ t => va_P g.1 vwCl w1 t.heap) (va_A wc sz)) 0 0 (va_A wc sz)
abbrev jWv (l : Launch) (y : MethodName) (wsy : List Cond) (rm : Room) (g : jG) (As : List Value) (wc w1 : va_W) : Prop := ∀ sz, Met l y wsy rm (jPc g As wc sz) (va_Qv (fun (_ : Unit) => True) (fun _ t => va_P g.1 vwCl w1 t.heap) (va_A wc sz)) 0 0 (va_A wc sz)
/-- a reader's contract out of the walk of its body -/
theorem j_enterR {l : Launch} {y : MethodName} {wsy wsr : List Cond} {rm : Room} {g : jG} {As : List Value} {wc : va_W} {Qc : Array Value → State → Outcome → State → Prop} {cc : ByteArray} {maxL : Nat} {ret : Option FieldType} {own : String} {L : List (Nat × Value)} (hy : plainName y.cls = true) (hw : wsy = Cond.code y cc maxL ret :: wsr) (hown : y.cls = own) (hle : (lg_sl As).length ≤ maxL) (hL : lv_args 0 As = L)
    (body : ∀ (p : Program) (e : Env) (s : State) (m : MethodId) (args : Array Value) (below : List Frame) (meth : Method) (c : Code), jC p s m args meth c cc wsy own maxL (fun _ => True) g → meth.sig.returnType = ret →
      jJ p l e (headSpec wsy rm).room s m args below meth c (MQ below Qc args s 0 0 (fun _ => False)) (fun _ => True) g (jRO s) maxL 0 0 0 L [] wc) : ∀ sz, Met l y wsy rm (jPc g As wc sz) Qc 0 0 (fun _ => False) := by
  intro sz
  refine Met.ofW (cc := cc) (maxL := maxL) (ret := ret) hy hw ?_
  intro p e s m args below meth c s₁ B hml hv
  obtain ⟨rfl, hsz, hP, hE, hD0⟩ := hv
  have hts := atoms_spec (ws := wsy) B.pre
  have ho : s.vm.findClass own = some m.cls := by rw [← hown]; exact findClass_of_methodNamed B.named
  have hl := lv_entry As (n := maxL) hle
  rw [lg_entry_eq]
  generalize (lg_sl As ++ List.replicate (maxL - (lg_sl As).length) Slot.unset).toArray = ls at hl ⊢
  rw [hL] at hl
  exact body p e s m _ below meth c ⟨B.exec, B.bytes, hml, ho, hts, B.notSynchronized, hE, fun _ _ => trivial⟩ B.returns s.heap [] ls hl hP hD0 ⟨rfl, rfl⟩
/-- a writer's contract out of the walk of its body -/
theorem j_enterW {l : Launch} {y : MethodName} {wsy wsr : List Cond} {rm : Room} {g : jG} {As : List Value} {wc : va_W} {Qc : Nat → Array Value → State → Outcome → State → Prop} {mc ms : Nat} {cc : ByteArray} {maxL : Nat} {ret : Option FieldType} {own : String} {L : List (Nat × Value)} (hy : plainName y.cls = true) (hw : wsy = Cond.code y cc maxL ret :: wsr) (hown : y.cls = own) (hle : (lg_sl As).length ≤ maxL) (hL : lv_args 0 As = L)
    (body : ∀ (p : Program) (e : Env) (s : State) (m : MethodId) (args : Array Value) (below : List Frame) (meth : Method) (c : Code), jC p s m args meth c cc wsy own maxL (va_A wc s.heap.size) g → meth.sig.returnType = ret →
      jJ p l e (headSpec wsy rm).room s m args below meth c (MQ below (Qc s.heap.size) args s mc ms (va_A wc s.heap.size)) (va_A wc s.heap.size) g (va_S (va_A wc s.heap.size) s.heap) maxL 0 0 0 L [] wc) : ∀ sz, Met l y wsy rm (jPc g As wc sz) (Qc sz) mc ms (va_A wc sz) := by
  intro sz
  refine Met.ofW (cc := cc) (maxL := maxL) (ret := ret) hy hw ?_
  intro p e s m args below meth c s₁ B hml hv
  obtain ⟨rfl, hsz, hP, hE, hD0⟩ := hv
  have hts := atoms_spec (ws := wsy) B.pre
  have ho : s.vm.findClass own = some m.cls := by rw [← hown]; exact findClass_of_methodNamed B.named
  subst hsz
  have hl := lv_entry As (n := maxL) hle
  rw [lg_entry_eq]
  generalize (lg_sl As ++ List.replicate (maxL - (lg_sl As).length) Slot.unset).toArray = ls at hl ⊢
  rw [hL] at hl
  exact body p e s m _ below meth c ⟨B.exec, B.bytes, hml, ho, hts, B.notSynchronized, hE, fun _ h => Or.inr h⟩ B.returns s.heap [] ls hl hP hD0.self va_S.rf
