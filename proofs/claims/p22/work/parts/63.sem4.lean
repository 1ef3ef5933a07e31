/-! MEANING 4: what the reasons leave -/
theorem jHas_q {f : Nat → Int32} {k : Nat} {d : Int32} : ∀ (m j : Nat), jHas f k d m j = false → ∀ s ∈ qStl f k m j, s.2.2.1 ≠ d
  | 0, _, _, s, hs => by cases hs
  | m + 1, j, h, s, hs => by
    rw [jHas_s] at h
    split at h
    · cases h
    · rename_i h1
      rcases List.mem_cons.mp hs with e | e
      · subst e; exact h1
      · exact jHas_q m (j + 1) h s e
theorem qbit_o {w v o : Nat} (h : w.testBit v = true) : (w ||| 2 ^ o).testBit v = true := by rw [Nat.testBit_or, h, Bool.true_or]
theorem qbit_s {w o : Nat} : (w ||| 2 ^ o).testBit o = true := by rw [Nat.testBit_or, Nat.testBit_two_pow_self, Bool.or_true]
theorem qbit_a {a b v : Nat} (h : a &&& b = 0) (ha : a.testBit v = true) (hb : b.testBit v = true) : False := by
  have h1 := Nat.testBit_and a b v
  rw [h, ha, hb, Nat.zero_testBit] at h1
  cases h1
theorem jWr_q {f : Nat → Int32} {k : Nat} : ∀ (m j : Nat) (w : Fin 16), (∀ i, j ≤ i → i < j + m → jOkS f k i) → ∃ w' : Fin 16, jWr f k m j (nI w.1) = nI w'.1 ∧ (∀ v, w.1.testBit v = true → w'.1.testBit v = true) ∧ ∀ v, qWr (qStl f k m j) v → w'.1.testBit v = true
  | 0, _, w, _ => ⟨w, rfl, fun _ h => h, fun v ⟨s, hs, _⟩ => by cases hs⟩
  | m + 1, j, w, hS => by
    have hr : ∀ i, j + 1 ≤ i → i < j + 1 + m → jOkS f k i := fun i h1 h2 => hS i (by omega) (by omega)
    rw [jWr_s]
    split
    · rename_i h45
      obtain ⟨w', h1, h2, h3⟩ := jWr_q m (j + 1) w hr
      refine ⟨w', h1, h2, fun v ⟨s, hs, n4, n5, hv⟩ => ?_⟩
      rcases List.mem_cons.mp hs with e | e
      · subst e
        exact (h45.elim (fun z => n4 z) (fun z => n5 z)).elim
      · exact h3 v ⟨s, e, n4, n5, hv⟩
    · rename_i h45
      obtain ⟨-, -, d, o, g1, g2, g3, g4, g5, g6⟩ := hS j (Nat.le_refl _) (by omega)
      have ho : o < 4 := by
        refine g4 ?_
        by_cases e4 : d = 4
        · subst e4; exact absurd (Or.inl g2) h45
        · by_cases e5 : d = 5
          · subst e5; exact absurd (Or.inr g2) h45
          · omega
      rw [g3, jmk_w1 w ⟨o, ho⟩]
      obtain ⟨w', h1, h2, h3⟩ := jWr_q m (j + 1) ⟨w.1 ||| 2 ^ o, jmk_b w ⟨o, ho⟩⟩ hr
      refine ⟨w', h1, fun v hv => h2 v (qbit_o hv), fun v ⟨s, hs, n4, n5, hv⟩ => ?_⟩
      rcases List.mem_cons.mp hs with e | e
      · subst e
        have hv2 : v = o := by
          rw [hv]
          show nn (f (k * 28 + 4 + j * 4 + 3)) = o
          rw [g3]
          exact nI_clamp (by omega)
        subst hv2
        exact h2 v qbit_s
      · exact h3 v ⟨s, e, n4, n5, hv⟩
theorem jIsV_q {w : Int32} (h : jIsV w = true) : ∃ v, v < 4 ∧ w = nI (1000 + v) ∧ nn (w - 1000) = v := by
  obtain ⟨v, hv, e⟩ := jIsV_n h
  refine ⟨v, hv, e, ?_⟩
  rw [e]
  show (nI (1000 + v) - nI 1000).toNatClampNeg = v
  rw [pk_sub (by omega), nI_clamp (by omega)]
  omega
theorem jLk_q {f : Nat → Int32} {k : Nat} : ∀ (m j : Nat) (w : Fin 16), ∃ w' : Fin 16, jLk f k m j (nI w.1) = nI w'.1 ∧ (∀ v, w.1.testBit v = true → w'.1.testBit v = true) ∧ ∀ v, qLk (qStl f k m j) v → w'.1.testBit v = true
  | 0, _, w => ⟨w, rfl, fun _ h => h, fun v ⟨s, hs, _⟩ => by cases hs⟩
  | m + 1, j, w => by
    rw [jLk_s]
    split
    · rename_i h0
      obtain ⟨o, ho, e1, e2⟩ := jIsV_q h0.2
      rw [e1, jmk_l1 w ⟨o, ho⟩]
      obtain ⟨w', h1, h2, h3⟩ := jLk_q (f := f) (k := k) m (j + 1) ⟨w.1 ||| 2 ^ o, jmk_b w ⟨o, ho⟩⟩
      refine ⟨w', h1, fun v hv => h2 v (qbit_o hv), fun v ⟨s, hs, n0, nv, hv⟩ => ?_⟩
      rcases List.mem_cons.mp hs with e | e
      · subst e
        have hv2 : v = o := hv.trans e2
        subst hv2
        exact h2 v qbit_s
      · exact h3 v ⟨s, e, n0, nv, hv⟩
    · rename_i h0
      obtain ⟨w', h1, h2, h3⟩ := jLk_q (f := f) (k := k) m (j + 1) w
      refine ⟨w', h1, h2, fun v ⟨s, hs, n0, nv, hv⟩ => ?_⟩
      rcases List.mem_cons.mp hs with e | e
      · subst e
        exact absurd ⟨n0, nv⟩ h0
      · exact h3 v ⟨s, e, n0, nv, hv⟩
/-- what the reasons 3 and 4 ask of two parts -/
def qApt (s1 s2 : List qSt) : Prop := (∀ v, qWr s1 v → ¬ (qWr s2 v ∨ qLk s2 v)) ∧ (∀ v, qWr s2 v → ¬ (qWr s1 v ∨ qLk s1 v)) ∧ ((∀ s ∈ s1, s.2.2.1 ≠ 5) ∨ (∀ s ∈ s2, s.2.2.1 ≠ 5))
theorem jParts_q {f : Nat → Int32} {k e o st so : Nat} (h : jParts f k e o st so = 0) (h1 : ∀ i, i < e → jOkS f k i) (h2 : ∀ i, st ≤ i → i < so → jOkS f o i) : qApt (qStl f k e 0) (qStl f o (so - st) st) := by
  unfold jParts at h
  rw [Nat.sub_zero] at h
  split at h
  · exact absurd h (by decide)
  · rename_i hx
    split at h
    · rename_i hm
      obtain ⟨w1, a1, -, a3⟩ := jWr_q (f := f) (k := k) e 0 0 (fun i _ hi => h1 i (by omega))
      obtain ⟨l1, b1, -, b3⟩ := jLk_q (f := f) (k := k) e 0 0
      obtain ⟨w2, c1, -, c3⟩ := jWr_q (f := f) (k := o) (so - st) st 0 (fun i h3 hi => h2 i h3 (by omega))
      obtain ⟨l2, d1, -, d3⟩ := jLk_q (f := f) (k := o) (so - st) st 0
      have a1' : jWr f k e 0 0 = nI w1.1 := a1
      have b1' : jLk f k e 0 0 = nI l1.1 := b1
      have c1' : jWr f o (so - st) st 0 = nI w2.1 := c1
      have d1' : jLk f o (so - st) st 0 = nI l2.1 := d1
      rw [a1', b1', c1', d1', jap3, jap0 w1 ⟨_, jap2 w2 l2⟩, jap0 w2 l1] at hm
      obtain ⟨m1, m2⟩ := hm
      refine ⟨fun v hv hc => ?_, fun v hv hc => ?_, ?_⟩
      · refine qbit_a m1 (a3 v hv) ?_
        show (w2.1 ||| l2.1).testBit v = true
        rw [Nat.testBit_or]
        rcases hc with z | z
        · rw [c3 v z, Bool.true_or]
        · rw [d3 v z, Bool.or_true]
      · rcases hc with z | z
        · refine qbit_a m1 (a3 v z) ?_
          show (w2.1 ||| l2.1).testBit v = true
          rw [Nat.testBit_or, c3 v hv, Bool.true_or]
        · exact qbit_a m2 (c3 v hv) (b3 v z)
      · cases h5 : jHas f k 5 e 0
        · exact Or.inl (jHas_q e 0 h5)
        · cases h6 : jHas f o 5 (so - st) st
          · exact Or.inr (jHas_q _ _ h6)
          · exact absurd ⟨h5, h6⟩ hx
    · exact absurd h (by decide)
theorem qNb_of {f : Nat → Int32} {k m j : Nat} (h : jHas f k 4 m j = false) (hS : ∀ i, j ≤ i → i < j + m → jOkS f k i) : qNb (qStl f k m j) := fun s hs => by
  refine ⟨jHas_q m j h s hs, fun h5 => ?_⟩
  obtain ⟨i, h1, h2, rfl⟩ := (qStl_mem m j).mp hs
  obtain ⟨-, -, d, o, g1, g2, g3, g4, g5, g6⟩ := hS i h1 h2
  show ¬ f (k * 28 + 4 + i * 4 + 3) = -1
  have e5 : nI d = 5 := g2.symm.trans h5
  have e6 : d = 5 := (nI_eq (by omega) (by decide)).mp e5
  rw [g3]
  exact jcode (g6 e6)
theorem qNb_app {s1 s2 : List qSt} (h1 : qNb s1) (h2 : qNb s2) : qNb (s1 ++ s2) := fun s hs => (List.mem_append.mp hs).elim (fun z => h1 s z) (fun z => h2 s z)
theorem jTwo_q {f : Nat → Int32} {k : Nat} : ∀ (m j : Nat) (cd : Int32), (∀ i, j ≤ i → i < j + m → jOkS f k i) → jTwo f k m j cd = false → ∃ c : Int32, (cd ≠ -1 → c = cd) ∧ ∀ s ∈ qStl f k m j, s.2.2.1 = 5 → s.2.2.2 = c
  | 0, _, cd, _, _ => ⟨cd, fun _ => rfl, fun s hs => by cases hs⟩
  | m + 1, j, cd, hS, h => by
    have hr : ∀ i, j + 1 ≤ i → i < j + 1 + m → jOkS f k i := fun i h1 h2 => hS i (by omega) (by omega)
    rw [jTwo_s] at h
    split at h
    · rename_i h5
      split at h
      · cases h
      · rename_i hn
        obtain ⟨c, c1, c2⟩ := jTwo_q m (j + 1) _ hr h
        obtain ⟨-, -, d, o, g1, g2, g3, g4, g5, g6⟩ := hS j (Nat.le_refl _) (by omega)
        have e6 : d = 5 := (nI_eq (by omega) (by decide)).mp (g2.symm.trans h5)
        have hne : f (k * 28 + 4 + j * 4 + 3) ≠ -1 := by rw [g3]; exact jcode (g6 e6)
        have hc := c1 hne
        refine ⟨c, fun z => ?_, fun s hs h9 => ?_⟩
        · by_cases e9 : cd = f (k * 28 + 4 + j * 4 + 3)
          · rw [hc, ← e9]
          · exact absurd ⟨z, e9⟩ hn
        · rcases List.mem_cons.mp hs with e | e
          · subst e
            exact hc.symm
          · exact c2 s e h9
    · rename_i h5
      obtain ⟨c, c1, c2⟩ := jTwo_q m (j + 1) _ hr h
      refine ⟨c, c1, fun s hs h9 => ?_⟩
      rcases List.mem_cons.mp hs with e | e
      · subst e
        exact absurd h9 h5
      · exact c2 s e h9
/-! the changes: a program and the one that is made of it do the same -/
def qSame (n : Nat) (f : Nat → Int32) (n' : Nat) (f' : Nat → Int32) (len : Nat) : Prop := ∀ row : Nat → Int64, (jRn n f row len).2.2 = (jRn n' f' row len).2.2 ∧ ((jRn n f row len).2.2 = -1 → jRn n f row len = jRn n' f' row len)
theorem qSame_of {n n' len : Nat} {f f' : Nat → Int32} (h : ∀ row : Nat → Int64, qE (qR row len (qLs f n 0)) (qR row len (qLs f' n' 0))) : qSame n f n' f' len := fun row => by
  rw [jRn_q, jRn_q]
  exact h row _
theorem qLo_a {f : Nat → Int32} {k a : Nat} (ha : f (k * 28 + 3) = nI a) (ha6 : a ≤ 6) : qLo f k = (qStl f k a 0, nn (f (k * 28 + 0)), nn (f (k * 28 + 1)), decide (f (k * 28 + 2) = 1)) := by
  unfold qLo
  rw [ha, show nn (nI a) = a from nI_clamp (by omega)]
theorem qSwap {n j a b len : Nat} {f : Nat → Int32} (hok : jOk n f) (hj : j + 1 < n) (ha : f (j * 28 + 3) = nI a) (ha6 : a ≤ 6) (hb : f ((j + 1) * 28 + 3) = nI b) (hb6 : b ≤ 6) (hz : jParts f j a (j + 1) 0 b = 0) : qSame n f n (jSw f (j * 28) (j * 28 + 28)) len := by
  refine qSame_of (fun row => ?_)
  obtain ⟨r, hr⟩ : ∃ r, n = j + 2 + r := ⟨n - (j + 2), by omega⟩
  have hS1 := jOk_st hok (show j < n by omega) ha ha6
  have hS2 := jOk_st hok hj hb hb6
  obtain ⟨p1, p2, p3⟩ := jParts_q hz (fun i hi => hS1 i hi) (fun i _ hi => hS2 i hi)
  rw [Nat.sub_zero] at p1 p2 p3
  have eA : qLo (jSw f (j * 28) (j * 28 + 28)) j = qLo f (j + 1) := qLo_at hb hb6 (fun i hi => by
    unfold jSw
    rw [if_pos (by omega)]
    congr 1
    omega)
  have eB : qLo (jSw f (j * 28) (j * 28 + 28)) (j + 1) = qLo f j := qLo_at ha ha6 (fun i hi => by
    unfold jSw
    rw [if_neg (by omega), if_pos (by omega)]
    congr 1
    omega)
  have ho : ∀ x, x ≠ j → x ≠ j + 1 → x < n → qLo (jSw f (j * 28) (j * 28 + 28)) x = qLo f x := fun x h1 h2 hx => by
    obtain ⟨u', w', a', q1, q2, q3, q4, q5, q6, q7, q8⟩ := hok.2 x hx
    refine qLo_at q7 q3 (fun i hi => ?_)
    unfold jSw
    rw [if_neg (by omega), if_neg (by omega)]
  rw [hr]
  refine qE_part (k := j) (c := 2) (c' := 2) (r := r) (fun i hi => ho i (by omega) (by omega) (by omega)) (fun i hi => ho _ (by omega) (by omega) (by omega)) ?_
  rw [qLs_2, qLs_2, eA, eB, qLo_a ha ha6, qLo_a hb hb6]
  exact qComm (qP_loc row _ _) (qP_loc row _ _) p1 p2 (p3.elim (fun z => Or.inl (qP_nx row _ z _)) (fun z => Or.inr (qP_nx row _ z _)))
theorem qJoinC {n j a b len : Nat} {f : Nat → Int32} (hok : jOk n f) (hj : j + 1 < n) (ha : f (j * 28 + 3) = nI a) (ha6 : a ≤ 6) (hb : f ((j + 1) * 28 + 3) = nI b) (hb6 : b ≤ 6) (hz : jAJ f j a b = 0) : a + b ≤ 6 ∧ qSame n f (n - 1) (jJn n f j a b) len := by
  unfold jAJ at hz
  split at hz
  · exact absurd hz (by decide)
  · rename_i hs
    split at hz
    · exact absurd hz (by decide)
    · rename_i hB
      split at hz
      · rename_i hp; exact absurd hz hp
      · rename_i hp
        have hp0 : jParts f j a (j + 1) 0 b = 0 := Classical.byContradiction hp
        split at hz
        · exact absurd hz (by decide)
        · rename_i hab
          have hab' : a + b ≤ 6 := by omega
          refine ⟨hab', qSame_of (fun row => ?_)⟩
          obtain ⟨r, hr⟩ : ∃ r, n = j + 2 + r := ⟨n - (j + 2), by omega⟩
          have hS1 := jOk_st hok (show j < n by omega) ha ha6
          have hS2 := jOk_st hok hj hb hb6
          obtain ⟨p1, p2, p3⟩ := jParts_q hp0 (fun i hi => hS1 i hi) (fun i _ hi => hS2 i hi)
          rw [Nat.sub_zero] at p1 p2 p3
          have b1 : qNb (qStl f j a 0) := qNb_of (by cases h : jHas f j 4 a 0; rfl; exact absurd (Or.inl h) hB) (fun i _ hi => hS1 i (by omega))
          have b2 : qNb (qStl f (j + 1) b 0) := qNb_of (by cases h : jHas f (j + 1) 4 b 0; rfl; exact absurd (Or.inr h) hB) (fun i _ hi => hS2 i (by omega))
          have hs1 : f (j * 28 + 0) = f ((j + 1) * 28 + 0) ∧ f (j * 28 + 1) = f ((j + 1) * 28 + 1) ∧ f (j * 28 + 2) = f ((j + 1) * 28 + 2) := by
            have h9 : jSame f j = true := by cases h : jSame f j; exact absurd h hs; rfl
            unfold jSame at h9
            simp only [Bool.and_eq_true, decide_eq_true_eq] at h9
            exact h9
          have e3 : jJn n f j a b (j * 28 + 3) = nI (a + b) := by
            unfold jJn jRm upd
            rw [if_neg (by omega), if_pos rfl]
          have el : ∀ i, i < 3 → jJn n f j a b (j * 28 + i) = f (j * 28 + i) := fun i hi => by
            unfold jJn jRm upd va_cpy
            rw [if_neg (by omega), if_neg (by omega), if_neg (by omega)]
          have eS : qStl (jJn n f j a b) j (a + b) 0 = qStl f j a 0 ++ qStl f (j + 1) b 0 := by
            rw [qStl_app]
            congr 1
            · refine qStl_cong a 0 0 (fun i hi => ?_)
              unfold qStp jJn jRm upd va_cpy
              rw [if_neg (by omega), if_neg (by omega), if_neg (by omega), if_neg (by omega), if_neg (by omega), if_neg (by omega), if_neg (by omega), if_neg (by omega), if_neg (by omega), if_neg (by omega), if_neg (by omega), if_neg (by omega)]
            · refine qStl_cong b 0 (0 + a) (fun i hi => ?_)
              unfold qStp jJn jRm upd va_cpy
              rw [if_neg (by omega), if_neg (by omega), if_pos (by omega), if_neg (by omega), if_neg (by omega), if_pos (by omega), if_neg (by omega), if_neg (by omega), if_pos (by omega), if_neg (by omega), if_neg (by omega), if_pos (by omega)]
              rw [show (j + 1) * 28 + 4 + (j * 28 + 4 + (0 + a + i) * 4 + 0 - (j * 28 + 4 + a * 4)) = (j + 1) * 28 + 4 + (0 + i) * 4 + 0 by omega, show (j + 1) * 28 + 4 + (j * 28 + 4 + (0 + a + i) * 4 + 1 - (j * 28 + 4 + a * 4)) = (j + 1) * 28 + 4 + (0 + i) * 4 + 1 by omega, show (j + 1) * 28 + 4 + (j * 28 + 4 + (0 + a + i) * 4 + 2 - (j * 28 + 4 + a * 4)) = (j + 1) * 28 + 4 + (0 + i) * 4 + 2 by omega, show (j + 1) * 28 + 4 + (j * 28 + 4 + (0 + a + i) * 4 + 3 - (j * 28 + 4 + a * 4)) = (j + 1) * 28 + 4 + (0 + i) * 4 + 3 by omega]
          have hn1 : n - 1 = j + 1 + r := by omega
          have hn2 : n = j + 2 + r := hr
          have eN : qLo (jJn n f j a b) j = (qStl f j a 0 ++ qStl f (j + 1) b 0, nn (f (j * 28 + 0)), nn (f (j * 28 + 1)), decide (f (j * 28 + 2) = 1)) := by
            rw [qLo_a e3 hab', eS, el 0 (by omega), el 1 (by omega), el 2 (by omega)]
          have key := qE_part (f := f) (f' := jJn n f j a b) (row := row) (len := len) (k := j) (c := 2) (c' := 1) (r := r) (fun i hi => ?_) (fun i hi => ?_) ?_
          · rw [← hn1, ← hn2] at key
            exact key
          · obtain ⟨u', w', a', q1, q2, q3, q4, q5, q6, q7, q8⟩ := hok.2 i (by omega)
            refine qLo_at q7 q3 (fun x hx => ?_)
            unfold jJn jRm upd va_cpy
            rw [if_neg (by omega), if_neg (by omega), if_neg (by omega)]
          · obtain ⟨u', w', a', q1, q2, q3, q4, q5, q6, q7, q8⟩ := hok.2 (j + 2 + i) (by omega)
            refine qLo_at q7 q3 (fun x hx => ?_)
            unfold jJn jRm upd va_cpy
            rw [if_pos (by omega), if_neg (by omega), if_neg (by omega)]
            congr 1
            omega
          · rw [qLs_2, qLs_1, eN, qLo_a ha ha6, qLo_a hb hb6, ← hs1.1, ← hs1.2.1, ← hs1.2.2]
            exact qJoin row (qNb_app b1 b2) p1 p2 p3 _
