/-! readers that return an address; null in locals; limits (whole 25.j5 without its exceptions) -/
def jSr (v : Nat) : Array Value → State → Outcome → State → Prop := fun _ st o t => o = .returned (some (.ref v)) ∧ t.heap = st.heap
section JROWS5
variable {p : Program} {l : Launch} {e : Env} {R : Room} {s : State} {m : MethodId} {args : Array Value} {below : List Frame} {meth : Method} {c : Code} {Q : State → Prop} {A : Nat → Prop} {g : jG} {I : Heap → List Loc → Prop} {nL cells slots pc : Nat} {L : List (Nat × Value)} {st : List Value} {ws : va_W} {cc : ByteArray} {Ts : List Cond} {own : String}
theorem j_aload_nN {n : Fin 4} {i : Nat} (q : Nat) (C : jC p s m args meth c cc Ts own nL A g) (hd : decode cc pc = .ok (.aload_n n, 1)) (hn : (n : Nat) = i) (hq : L[q]? = some (i, .null)) (k : jJ p l e R s m args below meth c Q A g I nL cells slots (pc + 1) L (.null :: st) ws) : jJ p l e R s m args below meth c Q A g I nL cells slots pc L st ws := fun H locs ls h1 h2 h3 h4 => lv_aload_nN C.1 C.2.1 hd hn (lv_at h1 q hq) (k H locs ls h1 h2 h3 h4)
theorem j_aloadN {i : Nat} (q : Nat) (C : jC p s m args meth c cc Ts own nL A g) (hd : decode cc pc = .ok (.aload i, 2)) (hq : L[q]? = some (i, .null)) (k : jJ p l e R s m args below meth c Q A g I nL cells slots (pc + 2) L (.null :: st) ws) : jJ p l e R s m args below meth c Q A g I nL cells slots pc L st ws := fun H locs ls h1 h2 h3 h4 => lv_aloadN C.1 C.2.1 hd (lv_at h1 q hq) (k H locs ls h1 h2 h3 h4)
theorem j_astore_nN {n : Fin 4} {i : Nat} {L' : List (Nat × Value)} (C : jC p s m args meth c cc Ts own nL A g) (hd : decode cc pc = .ok (.astore_n n, 1)) (hn : (n : Nat) = i) (hi : i < nL) (hc : L.all (jcl1 i) = true) (hL : jput L i .null = L') (k : jJ p l e R s m args below meth c Q A g I nL cells slots (pc + 1) L' st ws) : jJ p l e R s m args below meth c Q A g I nL cells slots pc L (.null :: st) ws := fun H locs ls h1 h2 h3 h4 => lv_astore_nN C.1 C.2.1 hd hn h1 hi rfl (fun ls' h => k H locs ls' (jput_1 hc hL h) h2 h3 h4)
/-- a reader that returns an address -/
theorem j_aretR {rt : FieldType} {v v0 : Nat} (C : jC p s m args meth c cc Ts own nL A g) (hr : meth.sig.returnType = some rt) (hf : (∃ n, rt = .object n) ∨ ∃ t, rt = .array t) (hd : decode cc pc = .ok (.areturn, 1)) (hv : v = v0) : jJ p l e R s m args below meth c (MQ below (jSr v0) args s 0 0 (fun _ => False)) A g (jRO s) nL 0 0 pc L [.ref v] ws := fun H locs ls h1 h2 h3 h4 => by
  obtain ⟨rfl, rfl⟩ := h4
  exact W.aret C.1 C.2.1 hr hf (Or.inr ⟨_, rfl⟩) (fun t ht hW => ⟨by rw [hv], ht⟩) (fun q hq => absurd hq List.not_mem_nil) hd (hlocks := C.2.2.2.2.2.1)
theorem j_callRr {v : Nat} {st0 rest : List Value} {a9 : Array Value} (hr : jRun p l e R s m args below meth c A g nL cells slots 0 0 pc L st0 rest ws (fun _ => jSr v a9) (fun _ _ => False)) (k : jJ p l e R s m args below meth c Q A g I nL cells slots (pc + 3) L (.ref v :: rest) ws) : jJ p l e R s m args below meth c Q A g I nL cells slots pc L st0 ws := fun H locs ls h1 h2 h3 h4 => by
  intro T hT X
  obtain ⟨v9, st₀, t, T', L9, h0, X', hL, e1, ⟨hv, hh⟩, st⟩ := (hr H locs ls h1 h2 h3).run T hT X
  cases hv
  obtain ⟨t2, a1, b1⟩ := k H locs ls h1 h2 h3 h4 T' (by rw [e1, hh, h0]) (Stand.forget X' (fun q h => (hL q h).elim))
  exact ⟨t2, st t2 a1, b1⟩
end JROWS5
abbrev jRr (l : Launch) (y : MethodName) (wsy : List Cond) (rm : Room) (g : jG) (As : List Value) (wc : va_W) (v : Nat) : Prop := ∀ sz, Met l y wsy rm (jPc g As wc sz) (jSr v) 0 0 (fun _ => False)
theorem jBt_cases {x : Int32} {N : Nat} (hx : jBt x 0 (nI N - 1) = false) (h : ¬ (x < 0 ∨ 10 ≤ x)) (hN : N ≤ 10) : ∃ k, k < 10 ∧ N ≤ k ∧ x = nI k := by
  have h1 : ¬ x < 0 := fun z => h (Or.inl z)
  have h2 : ¬ 10 ≤ x := fun z => h (Or.inr z)
  have e := jI_nat h1
  have h4 : x.toNatClampNeg < 2 ^ 31 := by have := Int32.toInt_lt x; have h5 : x.toNatClampNeg = x.toInt.toNat := rfl; omega
  refine ⟨x.toNatClampNeg, ?_, ?_, e⟩
  · rw [e, show (10 : Int32) = nI 10 from rfl, nI_leI (by omega) h4] at h2
    omega
  · by_cases h3 : N ≤ x.toNatClampNeg
    · exact h3
    · rw [e, jBt_n (by omega) (by omega)] at hx
      cases hx
theorem jIsV_b (w : Int32) : jIsV w = jBt w 1000 1003 := by
  unfold jIsV jBt
  have e : decide ((1004 : Int32) ≤ w) = decide ((1003 : Int32) < w) := decide_eq_decide.mpr ?_
  · rw [e]
  rw [Int32.le_iff_toInt_le, Int32.lt_iff_toInt_lt, show (1004 : Int32).toInt = 1004 by decide, show (1003 : Int32).toInt = 1003 by decide]
  omega
theorem jBt_00 (x : Int32) : jBt x 0 0 = decide (x = 0) := by
  unfold jBt
  by_cases h : x = 0
  · subst h; decide
  · rw [decide_eq_false h]
    have h1 : x.toInt ≠ 0 := fun z => h (Int32.toInt_inj.mp (by rw [z]; decide))
    simp only [Int32.lt_iff_toInt_lt, show (0 : Int32).toInt = 0 by decide]
    by_cases h2 : x.toInt < 0
    · simp [h2]
    · simp [show 0 < x.toInt by omega]
theorem jD_4 {v3 : Int32} : (jBt 4 0 5 && jBt v3 0 (if (4 : Int32) = 4 then 0 else if (4 : Int32) = 5 then 100 else 3)) = decide (v3 = 0) := by
  rw [if_pos rfl, jBt_00, show jBt 4 0 5 = true by decide, Bool.true_and]
theorem jD_5 {v3 : Int32} : (jBt 5 0 5 && jBt v3 0 (if (5 : Int32) = 4 then 0 else if (5 : Int32) = 5 then 100 else 3)) = jBt v3 0 100 := by
  rw [if_neg (by decide), if_pos rfl, show jBt 5 0 5 = true by decide, Bool.true_and]
theorem jD_3 {v2 v3 : Int32} (h4 : ¬ v2 = 4) (h5 : ¬ v2 = 5) : (jBt v2 0 5 && jBt v3 0 (if v2 = 4 then 0 else if v2 = 5 then 100 else 3)) = (jBt v2 0 3 && jBt v3 0 3) := by
  rw [if_neg h4, if_neg h5]
  congr 1
  unfold jBt
  congr 2
  refine decide_eq_decide.mpr ?_
  have e4 : v2.toInt ≠ 4 := fun z => h4 (Int32.toInt_inj.mp (by rw [z]; decide))
  have e5 : v2.toInt ≠ 5 := fun z => h5 (Int32.toInt_inj.mp (by rw [z]; decide))
  simp only [Int32.lt_iff_toInt_lt, show (5 : Int32).toInt = 5 by decide, show (3 : Int32).toInt = 3 by decide]
  omega
