/-! MEANING 5: divide, peel, turn, strip -/
/-- a divided program's cells -/
def qDv (n : Nat) (f : Nat → Int32) (j i a : Nat) : Nat → Int32 := upd (va_cpy (upd (jRp f (n * 28) (j * 28)) (j * 28 + 3) (nI i)) (upd (jRp f (n * 28) (j * 28)) (j * 28 + 3) (nI i)) ((j + 1) * 28 + 4 + i * 4) ((j + 1) * 28 + 4) ((a - i) * 4)) ((j + 1) * 28 + 3) (nI (a - i))
theorem qDivide {n j i a len : Nat} {f : Nat → Int32} (hok : jOk n f) (hj : j < n) (ha : f (j * 28 + 3) = nI a) (ha6 : a ≤ 6) (hi1 : 1 ≤ i) (hi : i < a) (hz : jAD f n j i a = 0) : n < 8 ∧ qSame n f (n + 1) (qDv n f j i a) len := by
  have h8 := hok.1
  unfold jAD at hz
  split at hz
  · exact absurd hz (by decide)
  · rename_i hB
    split at hz
    · rename_i hp; exact absurd hz hp
    · rename_i hp
      have hp0 : jParts f j i j i a = 0 := Classical.byContradiction hp
      split at hz
      · exact absurd hz (by decide)
      · rename_i hn8
        refine ⟨by omega, qSame_of (fun row => ?_)⟩
        obtain ⟨r, hr⟩ : ∃ r, n = j + 1 + r := ⟨n - (j + 1), by omega⟩
        have hS := jOk_st hok hj ha ha6
        obtain ⟨p1, p2, p3⟩ := jParts_q hp0 (fun x hx => hS x (by omega)) (fun x _ hx => hS x hx)
        have hb : qNb (qStl f j a 0) := qNb_of (by cases h : jHas f j 4 a 0; rfl; exact absurd h hB) (fun x _ hx => hS x (by omega))
        have eS : qStl f j a 0 = qStl f j i 0 ++ qStl f j (a - i) i := by
          have h9 := qStl_app f j i (a - i) 0
          rw [show i + (a - i) = a by omega, Nat.zero_add] at h9
          exact h9
        have e3 : qDv n f j i a (j * 28 + 3) = nI i := by
          unfold qDv upd va_cpy
          dsimp only
          rw [if_neg (by omega), if_neg (by omega), if_pos rfl]
        have e3' : qDv n f j i a ((j + 1) * 28 + 3) = nI (a - i) := by
          unfold qDv upd
          rw [if_pos rfl]
        have el : ∀ x, x < 3 → qDv n f j i a (j * 28 + x) = f (j * 28 + x) := fun x hx => by
          unfold qDv upd va_cpy jRp
          dsimp only
          rw [if_neg (by omega), if_neg (by omega), if_neg (by omega), if_neg (by omega)]
        have el' : ∀ x, x < 3 → qDv n f j i a ((j + 1) * 28 + x) = f (j * 28 + x) := fun x hx => by
          unfold qDv upd va_cpy jRp
          dsimp only
          rw [if_neg (by omega), if_neg (by omega), if_neg (by omega), if_pos (by omega)]
          congr 1
          omega
        have c1 : ∀ y c, y < i → c < 4 → qDv n f j i a (j * 28 + 4 + y * 4 + c) = f (j * 28 + 4 + y * 4 + c) := fun y c hy hc => by
          unfold qDv upd va_cpy jRp
          dsimp only
          rw [if_neg (by omega), if_neg (by omega), if_neg (by omega), if_neg (by omega)]
        have c2 : ∀ y c, y < a - i → c < 4 → qDv n f j i a ((j + 1) * 28 + 4 + y * 4 + c) = f (j * 28 + 4 + (i + y) * 4 + c) := fun y c hy hc => by
          unfold qDv upd va_cpy jRp
          dsimp only
          rw [if_neg (by omega), if_pos (by omega), if_neg (by omega), if_pos (by omega)]
          congr 1
          omega
        have eS1 : qStl (qDv n f j i a) j i 0 = qStl f j i 0 := qStl_cong i 0 0 (fun y hy => by
          rw [Nat.zero_add]
          unfold qStp
          rw [c1 y 0 hy (by omega), c1 y 1 hy (by omega), c1 y 2 hy (by omega), c1 y 3 hy (by omega)])
        have eS2 : qStl (qDv n f j i a) (j + 1) (a - i) 0 = qStl f j (a - i) i := by
          have h9 : ∀ (m y0 : Nat), y0 + m ≤ a - i → qStl (qDv n f j i a) (j + 1) m y0 = qStl f j m (i + y0) := by
            intro m
            induction m with
            | zero => intro y0 _; rfl
            | succ m ih =>
              intro y0 h
              rw [qStl_s, qStl_s, ih (y0 + 1) (by omega), show i + (y0 + 1) = i + y0 + 1 by omega]
              congr 1
              unfold qStp
              rw [c2 y0 0 (by omega) (by omega), c2 y0 1 (by omega) (by omega), c2 y0 2 (by omega) (by omega), c2 y0 3 (by omega) (by omega)]
          exact h9 (a - i) 0 (by omega)
        have eN1 : qLo (qDv n f j i a) j = (qStl f j i 0, nn (f (j * 28 + 0)), nn (f (j * 28 + 1)), decide (f (j * 28 + 2) = 1)) := by
          rw [qLo_a e3 (by omega), eS1, el 0 (by omega), el 1 (by omega), el 2 (by omega)]
        have eN2 : qLo (qDv n f j i a) (j + 1) = (qStl f j (a - i) i, nn (f (j * 28 + 0)), nn (f (j * 28 + 1)), decide (f (j * 28 + 2) = 1)) := by
          rw [qLo_a e3' (by omega), eS2, el' 0 (by omega), el' 1 (by omega), el' 2 (by omega)]
        have hn1 : n + 1 = j + 2 + r := by omega
        have hn2 : n = j + 1 + r := hr
        have key := qE_part (f := f) (f' := qDv n f j i a) (row := row) (len := len) (k := j) (c := 1) (c' := 2) (r := r) (fun x hx => ?_) (fun x hx => ?_) ?_
        · rw [← hn1, ← hn2] at key
          exact key
        · obtain ⟨u', w', a', q1, q2, q3, q4, q5, q6, q7, q8⟩ := hok.2 x (by omega)
          refine qLo_at q7 q3 (fun c hc => ?_)
          unfold qDv upd va_cpy jRp
          dsimp only
          rw [if_neg (by omega), if_neg (by omega), if_neg (by omega), if_neg (by omega)]
        · obtain ⟨u', w', a', q1, q2, q3, q4, q5, q6, q7, q8⟩ := hok.2 (j + 1 + x) (by omega)
          refine qLo_at q7 q3 (fun c hc => ?_)
          unfold qDv upd va_cpy jRp
          dsimp only
          rw [if_neg (by omega), if_neg (by omega), if_neg (by omega), if_pos (by omega)]
          congr 1
          omega
        · rw [qLs_2, qLs_1, eN1, eN2, qLo_a ha ha6]
          refine qE_symm ?_
          show qE (qSeq (qP row (qStl f j i 0) _) (qP row (qStl f j (a - i) i) _)) (qP row (qStl f j a 0) _)
          rw [eS] at hb ⊢
          exact qJoin row hb p1 p2 p3 _
/-- a peeled program's cells -/
def qPl (n : Nat) (f : Nat → Int32) (j w v : Nat) : Nat → Int32 := upd (upd (jRp f (n * 28) (j * 28)) (j * 28 + 1) (nI (w - 1 - v))) ((j + 1) * 28 + 0) (nI (v + 1))
theorem qPeelC {n j w a v u : Nat} {f : Nat → Int32} (hok : jOk n f) (hj : j < n) (ha : f (j * 28 + 3) = nI a) (ha6 : a ≤ 6) (hw1 : 1 ≤ w) (hv : f (j * 28 + 0) = nI v) (hv5 : v ≤ 5) (hu : f (j * 28 + 1) = nI u) (hu5 : u ≤ 5) (hz : jAP f n j w a v u = 0) : n < 8 ∧ v + 1 ≤ w ∧ w - 1 - v ≤ 5 ∧ v + 1 ≤ 5 ∧ qSame n f (n + 1) (qPl n f j w v) w := by
  have h8 := hok.1
  unfold jAP at hz
  split at hz
  · exact absurd hz (by decide)
  · rename_i hup
    split at hz
    · exact absurd hz (by decide)
    · rename_i hrg
      split at hz
      · exact absurd hz (by decide)
      · rename_i hB
        split at hz
        · exact absurd hz (by decide)
        · rename_i hn8
          refine ⟨by omega, by omega, by omega, by omega, qSame_of (fun row => ?_)⟩
          obtain ⟨r, hr⟩ : ∃ r, n = j + 1 + r := ⟨n - (j + 1), by omega⟩
          have hS := jOk_st hok hj ha ha6
          obtain ⟨u0, w0, a0, z1, z2, z3, z4, z5, z6, z7, z8⟩ := hok.2 j hj
          have hup1 : f (j * 28 + 2) = 1 := z6.elim (fun z => absurd z hup) id
          have hb : qNb (qStl f j a 0) := qNb_of (by cases h : jHas f j 4 a 0; rfl; exact absurd h hB) (fun x _ hx => hS x (by omega))
          have d1 : ∀ x, x < 28 → x ≠ 1 → qPl n f j w v (j * 28 + x) = f (j * 28 + x) := fun x hx hx1 => by
            unfold qPl upd jRp
            rw [if_neg (by omega), if_neg (by omega), if_neg (by omega)]
          have d2 : ∀ x, x < 28 → x ≠ 0 → qPl n f j w v ((j + 1) * 28 + x) = f (j * 28 + x) := fun x hx hx0 => by
            unfold qPl upd jRp
            rw [if_neg (by omega), if_neg (by omega), if_pos (by omega)]
            congr 1
            omega
          have d3 : qPl n f j w v (j * 28 + 1) = nI (w - 1 - v) := by
            unfold qPl upd
            rw [if_neg (by omega), if_pos rfl]
          have d4 : qPl n f j w v ((j + 1) * 28 + 0) = nI (v + 1) := by
            unfold qPl upd
            rw [if_pos rfl]
          have eS1 : qStl (qPl n f j w v) j a 0 = qStl f j a 0 := qStl_cong a 0 0 (fun y hy => by
            rw [Nat.zero_add]
            unfold qStp
            rw [show j * 28 + 4 + y * 4 + 0 = j * 28 + (4 + y * 4 + 0) by omega, show j * 28 + 4 + y * 4 + 1 = j * 28 + (4 + y * 4 + 1) by omega, show j * 28 + 4 + y * 4 + 2 = j * 28 + (4 + y * 4 + 2) by omega, show j * 28 + 4 + y * 4 + 3 = j * 28 + (4 + y * 4 + 3) by omega, d1 _ (by omega) (by omega), d1 _ (by omega) (by omega), d1 _ (by omega) (by omega), d1 _ (by omega) (by omega)])
          have eS2 : qStl (qPl n f j w v) (j + 1) a 0 = qStl f j a 0 := qStl_cong a 0 0 (fun y hy => by
            rw [Nat.zero_add]
            unfold qStp
            rw [show (j + 1) * 28 + 4 + y * 4 + 0 = (j + 1) * 28 + (4 + y * 4 + 0) by omega, show (j + 1) * 28 + 4 + y * 4 + 1 = (j + 1) * 28 + (4 + y * 4 + 1) by omega, show (j + 1) * 28 + 4 + y * 4 + 2 = (j + 1) * 28 + (4 + y * 4 + 2) by omega, show (j + 1) * 28 + 4 + y * 4 + 3 = (j + 1) * 28 + (4 + y * 4 + 3) by omega, d2 _ (by omega) (by omega), d2 _ (by omega) (by omega), d2 _ (by omega) (by omega), d2 _ (by omega) (by omega)]
            rw [show j * 28 + 4 + y * 4 + 0 = j * 28 + (4 + y * 4 + 0) by omega, show j * 28 + 4 + y * 4 + 1 = j * 28 + (4 + y * 4 + 1) by omega, show j * 28 + 4 + y * 4 + 2 = j * 28 + (4 + y * 4 + 2) by omega, show j * 28 + 4 + y * 4 + 3 = j * 28 + (4 + y * 4 + 3) by omega])
          have e1 : nn (nI v) = v := nI_clamp (by omega)
          have e2 : nn (nI u) = u := nI_clamp (by omega)
          have e4 : nn (nI (w - 1 - v)) = w - 1 - v := nI_clamp (by omega)
          have e5 : nn (nI (v + 1)) = v + 1 := nI_clamp (by omega)
          have eN1 : qLo (qPl n f j w v) j = (qStl f j a 0, v, w - 1 - v, true) := by
            rw [qLo_a ((d1 3 (by omega) (by omega)).trans ha) ha6, eS1, d1 0 (by omega) (by omega), d1 2 (by omega) (by omega), d3, hv, hup1, e1, e4]
            rfl
          have eN2 : qLo (qPl n f j w v) (j + 1) = (qStl f j a 0, v + 1, u, true) := by
            rw [qLo_a ((d2 3 (by omega) (by omega)).trans ha) ha6, eS2, d4, d2 1 (by omega) (by omega), d2 2 (by omega) (by omega), hu, hup1, e5, e2]
            rfl
          have eN : qLo f j = (qStl f j a 0, v, u, true) := by
            rw [qLo_a ha ha6, hv, hu, hup1, e1, e2]
            rfl
          have hn1 : n + 1 = j + 2 + r := by omega
          have hn2 : n = j + 1 + r := hr
          have key := qE_part (f := f) (f' := qPl n f j w v) (row := row) (len := w) (k := j) (c := 1) (c' := 2) (r := r) (fun x hx => ?_) (fun x hx => ?_) ?_
          · rw [← hn1, ← hn2] at key
            exact key
          · obtain ⟨u', w', a', q1, q2, q3, q4, q5, q6, q7, q8⟩ := hok.2 x (by omega)
            refine qLo_at q7 q3 (fun c hc => ?_)
            unfold qPl upd jRp
            rw [if_neg (by omega), if_neg (by omega), if_neg (by omega)]
          · obtain ⟨u', w', a', q1, q2, q3, q4, q5, q6, q7, q8⟩ := hok.2 (j + 1 + x) (by omega)
            refine qLo_at q7 q3 (fun c hc => ?_)
            unfold qPl upd jRp
            rw [if_neg (by omega), if_neg (by omega), if_pos (by omega)]
            congr 1
            omega
          · rw [qLs_2, qLs_1, eN1, eN2, eN]
            exact qE_of (qPeel row hb (by omega))
theorem qTurnC {n j a len : Nat} {f : Nat → Int32} (hok : jOk n f) (hj : j < n) (ha : f (j * 28 + 3) = nI a) (ha6 : a ≤ 6) (hz : jAT f j a = 0) : qSame n f n (upd f (j * 28 + 2) (1 - f (j * 28 + 2))) len := by
  unfold jAT at hz
  rw [Nat.sub_zero] at hz
  split at hz
  · exact absurd hz (by decide)
  · rename_i hB
    split at hz
    · exact absurd hz (by decide)
    · rename_i hT
      split at hz
      · exact absurd hz (by decide)
      · rename_i hD
        split at hz
        · exact absurd hz (by decide)
        · rename_i hL
          refine qSame_of (fun row => ?_)
          obtain ⟨r, hr⟩ : ∃ r, n = j + 1 + r := ⟨n - (j + 1), by omega⟩
          have hS := jOk_st hok hj ha ha6
          obtain ⟨u0, w0, a0, z1, z2, z3, z4, z5, z6, z7, z8⟩ := hok.2 j hj
          have hB' : jHas f j 4 a 0 = false := by cases h : jHas f j 4 a 0; rfl; exact absurd h hB
          have hb : qNb (qStl f j a 0) := qNb_of hB' (fun x _ hx => hS x (by omega))
          obtain ⟨c, -, hc⟩ := jTwo_q a 0 (-1) (fun x _ hx => hS x (by omega)) (by cases h : jTwo f j a 0 (-1); rfl; exact absurd h hT)
          have h0 := jHas_q a 0 (f := f) (k := j) (d := 0) (by cases h : jHas f j 0 a 0; rfl; exact absurd (Or.inl h) hD)
          have h1 := jHas_q a 0 (f := f) (k := j) (d := 1) (by cases h : jHas f j 1 a 0; rfl; exact absurd (Or.inr h) hD)
          have h4 := jHas_q a 0 hB'
          have hd : ∀ s ∈ qStl f j a 0, s.2.2.1 = 2 ∨ s.2.2.1 = 3 ∨ s.2.2.1 = 5 := fun s hs => by
            have n0 := h0 s hs
            have n1 := h1 s hs
            have n4 := h4 s hs
            obtain ⟨i, i1, i2, rfl⟩ := (qStl_mem a 0).mp hs
            obtain ⟨-, -, d, o, g1, g2, g3, g4, g5, g6⟩ := hS i (by omega)
            have g2' : (qStp f j i).2.2.1 = nI d := g2
            rw [g2'] at n0 n1 n4 ⊢
            rcases (show d = 0 ∨ d = 1 ∨ d = 2 ∨ d = 3 ∨ d = 4 ∨ d = 5 by omega) with e | e | e | e | e | e
            · subst e; exact absurd rfl n0
            · subst e; exact absurd rfl n1
            · subst e; exact Or.inl rfl
            · subst e; exact Or.inr (Or.inl rfl)
            · subst e; exact absurd rfl n4
            · subst e; exact Or.inr (Or.inr rfl)
          have hw : ∀ v, qWr (qStl f j a 0) v → ¬ qLk (qStl f j a 0) v := fun v hv hk => by
            obtain ⟨w1, a1, -, a3⟩ := jWr_q (f := f) (k := j) a 0 0 (fun i _ hi => hS i (by omega))
            obtain ⟨l1, b1, -, b3⟩ := jLk_q (f := f) (k := j) a 0 0
            have a1' : jWr f j a 0 0 = nI w1.1 := a1
            have b1' : jLk f j a 0 0 = nI l1.1 := b1
            have hm : jLk f j a 0 0 &&& jWr f j a 0 0 = 0 := Classical.byContradiction hL
            rw [a1', b1', jap0 l1 w1] at hm
            exact qbit_a hm (b3 v hk) (a3 v hv)
          have ho : ∀ x, x < n → ∀ c, c < 28 → (x = j → c ≠ 2) → upd f (j * 28 + 2) (1 - f (j * 28 + 2)) (x * 28 + c) = f (x * 28 + c) := fun x hx c hc hne => by
            unfold upd
            rw [if_neg (by omega)]
          have e2 : upd f (j * 28 + 2) (1 - f (j * 28 + 2)) (j * 28 + 2) = 1 - f (j * 28 + 2) := if_pos rfl
          have eS : qStl (upd f (j * 28 + 2) (1 - f (j * 28 + 2))) j a 0 = qStl f j a 0 := qStl_cong a 0 0 (fun y hy => by
            unfold qStp upd
            rw [if_neg (by omega), if_neg (by omega), if_neg (by omega), if_neg (by omega)])
          have eN : qLo (upd f (j * 28 + 2) (1 - f (j * 28 + 2))) j = (qStl f j a 0, nn (f (j * 28 + 0)), nn (f (j * 28 + 1)), !decide (f (j * 28 + 2) = 1)) := by
            rw [qLo_a ((ho j hj 3 (by omega) (by omega)).trans ha) ha6, eS, ho j hj 0 (by omega) (by omega), ho j hj 1 (by omega) (by omega), e2]
            rcases z6 with z | z
            · rw [z]; rfl
            · rw [z]; rfl
          rw [hr]
          refine qE_part (k := j) (c := 1) (c' := 1) (r := r) (fun x hx => ?_) (fun x hx => ?_) ?_
          · obtain ⟨u', w', a', q1, q2, q3, q4, q5, q6, q7, q8⟩ := hok.2 x (by omega)
            exact qLo_at q7 q3 (fun c hc => ho x (by omega) c hc (by omega))
          · obtain ⟨u', w', a', q1, q2, q3, q4, q5, q6, q7, q8⟩ := hok.2 (j + 1 + x) (by omega)
            exact qLo_at q7 q3 (fun c hc => ho _ (by omega) c hc (by omega))
          · rw [qLs_1, qLs_1, eN, qLo_a ha ha6]
            exact qTurn row len hb hd hw hc _ _ _
theorem qStripC {n len : Nat} {f : Nat → Int32} (hok : jOk n f) : qSame n f (jStrip n (n, f)).1 (jStrip n (n, f)).2 len :=
  qSame_of (fun row => qE_of (qStrip row len n n f hok (Nat.le_refl _)).symm)
/-! what the cases say of programs that do the same -/
theorem jEqV_same (vv : qV) : ∀ (m i : Nat), jEqV vv vv m i = true
  | 0, _ => rfl
  | m + 1, i => by rw [jEqV_s, if_pos rfl]; exact jEqV_same vv m (i + 1)
theorem jAL_same {r r' : qV × Int32 × Int32} (h1 : r.2.2 = r'.2.2) (h2 : r.2.2 = -1 → r = r') : jAL r.1 r.2.2 r'.1 r'.2.2 = true := by
  unfold jAL
  rw [if_pos h1]
  split
  · rename_i e
    rw [← h2 e]
    exact jEqV_same _ _ _
  · rfl
theorem qSm {n n' d v : Nat} {f f' : Nat → Int32} (h : qSame n f n' f' d) (x : Nat) : jSm n f n' f' d v x = true := jAL_same (h _).1 (h _).2
theorem qCx {n n' d v : Nat} {f f' : Nat → Int32} (h : qSame n f n' f' d) : jCx n f d v = jCx n' f' d v := by
  funext x
  unfold jCx
  rw [(h _).1]
theorem jDf_0 {S : Nat → Bool} (h : ∀ x, S x = true) : ∀ (m x q : Nat), jDf S m x q = q
  | 0, _, _ => rfl
  | m + 1, x, q => by rw [jDf_s, if_pos (h x)]; exact jDf_0 h m (x + 1) q
theorem jFc_0 {S : Nat → Bool} (h : ∀ x, S x = true) : ∀ (m x : Nat), jFc S m x = -1
  | 0, _ => rfl
  | m + 1, x => by rw [jFc_s, if_pos (h x)]; exact jFc_0 h m (x + 1)
theorem jDf_ge {S : Nat → Bool} : ∀ (m x q : Nat), q ≤ jDf S m x q ∧ jDf S m x q ≤ q + m
  | 0, _, q => ⟨Nat.le_refl _, Nat.le_refl _⟩
  | m + 1, x, q => by
    rw [jDf_s]
    have h := jDf_ge (S := S) m (x + 1) (if S x = true then q else q + 1)
    split at h <;> rename_i e
    · rw [if_pos e]; omega
    · rw [if_neg e]; omega
theorem jDf_z {S : Nat → Bool} : ∀ (m x q : Nat), jDf S m x q = q → ∀ y, x ≤ y → y < x + m → S y = true
  | 0, _, _, _, y, h1, h2 => by omega
  | m + 1, x, q, h, y, h1, h2 => by
    rw [jDf_s] at h
    by_cases e : S x = true
    · rw [if_pos e] at h
      by_cases e2 : y = x
      · rw [e2]; exact e
      · exact jDf_z m (x + 1) q h y (by omega) (by omega)
    · rw [if_neg e] at h
      have := (jDf_ge (S := S) m (x + 1) (q + 1)).1
      omega
theorem jCo_cong {b : Bool} {K K' : Nat → Int32} : ∀ (m x : Nat) (t : Int32), (∀ y, x ≤ y → y < x + m → K y = K' y) → jCo b K m x t = jCo b K' m x t
  | 0, _, _, _ => rfl
  | m + 1, x, t, h => by
    rw [jCo_s, jCo_s, h x (Nat.le_refl _) (by omega)]
    exact jCo_cong m (x + 1) _ (fun y h1 h2 => h y (by omega) (by omega))
/-- none is left: the costs are the same -/
theorem qCost {n n' d v m : Nat} {f f' : Nat → Int32} (h : qSame n f n' f' d) (h0 : jDf (jCx n f d v) m 0 0 = 0) (b : Bool) : jCo b (jKx n f d v) m 0 0 = jCo b (jKx n' f' d v) m 0 0 := by
  refine jCo_cong m 0 0 (fun y h1 h2 => ?_)
  have e := jDf_z m 0 0 h0 y h1 h2
  unfold jCx at e
  unfold jKx
  rw [(h _).2 (of_decide_eq_true e)]
theorem qCostS {n d v m : Nat} {f : Nat → Int32} (hok : jOk n f) (b : Bool) : jCo b (jKx n f d v) m 0 0 = jCo b (jKx (jStrip n (n, f)).1 (jStrip n (n, f)).2 d v) m 0 0 := by
  refine jCo_cong m 0 0 (fun y _ _ => ?_)
  unfold jKx
  rw [jRn_q, jRn_q, qStrip _ _ n n f hok (Nat.le_refl _)]
/-- on the empty row nothing is looked at -/
theorem qEmpty (f : Nat → Int32) (row : Nat → Int64) : ∀ (m k : Nat), qR row 0 (qLs f m k) = qId
  | 0, _ => rfl
  | m + 1, k => by
    show qSeq (qL row 0 (qLo f k)) (qR row 0 (qLs f m (k + 1))) = qId
    rw [qEmpty f row m (k + 1), qSeq_idR]
    unfold qL
    rw [Nat.zero_sub]
    rfl
theorem qCost0 {n v : Nat} {f : Nat → Int32} : jCo true (jKx n f 0 v) 1 0 0 = 0 := by
  rw [jCo_s, if_pos rfl]
  have e : jKx n f 0 v 0 = 0 := by
    unfold jKx
    rw [jRn_q, qEmpty]
    rfl
  rw [e]
  rfl
theorem qSame_refl {n d : Nat} {f : Nat → Int32} : qSame n f n f d := fun _ => ⟨rfl, fun _ => rfl⟩
