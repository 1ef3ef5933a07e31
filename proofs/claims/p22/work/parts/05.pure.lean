/-! what the changes make of a row of cells, as functions of the place -/
def jRm (f : Nat → Int32) (a x : Nat) : Nat → Int32 := fun i => if a ≤ i ∧ i < x then f (i + 28) else f i
theorem jRm_0 (f : Nat → Int32) (a : Nat) : jRm f a a = f := by
  funext i
  unfold jRm
  rw [if_neg (by omega)]
theorem jRm_s (f : Nat → Int32) {a x : Nat} (h : a ≤ x) : upd (jRm f a x) x (jRm f a x (x + 28)) = jRm f a (x + 1) := by
  funext i
  unfold upd jRm
  by_cases h1 : i = x
  · subst h1
    rw [if_pos rfl, if_neg (by omega), if_pos (by omega)]
  · rw [if_neg h1]
    by_cases h2 : a ≤ i ∧ i < x
    · rw [if_pos h2, if_pos (by omega)]
    · rw [if_neg h2, if_neg (by omega)]
def jRp (f : Nat → Int32) (b x : Nat) : Nat → Int32 := fun i => if x + 28 ≤ i ∧ i < b + 28 then f (i - 28) else f i
theorem jRp_0 (f : Nat → Int32) (b : Nat) : jRp f b b = f := by
  funext i
  unfold jRp
  rw [if_neg (by omega)]
theorem jRp_s (f : Nat → Int32) {b x : Nat} (h : x < b) : upd (jRp f b (x + 1)) (x + 28) (jRp f b (x + 1) x) = jRp f b x := by
  funext i
  unfold upd jRp
  by_cases h1 : i = x + 28
  · subst h1
    rw [if_pos rfl, if_neg (by omega), if_pos (by omega), Nat.add_sub_cancel]
  · rw [if_neg h1]
    by_cases h2 : x + 1 + 28 ≤ i ∧ i < b + 28
    · rw [if_pos h2, if_pos (by omega)]
    · rw [if_neg h2, if_neg (by omega)]
def jSw (f : Nat → Int32) (a x : Nat) : Nat → Int32 := fun i => if a ≤ i ∧ i < x then f (i + 28) else if a + 28 ≤ i ∧ i < x + 28 then f (i - 28) else f i
theorem jSw_0 (f : Nat → Int32) (a : Nat) : jSw f a a = f := by
  funext i
  unfold jSw
  rw [if_neg (by omega), if_neg (by omega)]
theorem jSw_s (f : Nat → Int32) {a x : Nat} (h : a ≤ x) (h1 : x < a + 28) : upd (upd (jSw f a x) x (jSw f a x (x + 28))) (x + 28) (jSw f a x x) = jSw f a (x + 1) := by
  have e1 : jSw f a x (x + 28) = f (x + 28) := by unfold jSw; rw [if_neg (by omega), if_neg (by omega)]
  have e2 : jSw f a x x = f x := by unfold jSw; rw [if_neg (by omega), if_neg (by omega)]
  rw [e1, e2]
  funext i
  unfold upd jSw
  by_cases h2 : i = x + 28
  · subst h2
    rw [if_pos rfl, if_neg (by omega), if_pos (by omega), Nat.add_sub_cancel]
  · rw [if_neg h2]
    by_cases h3 : i = x
    · subst h3
      rw [if_pos rfl, if_pos (by omega)]
    · rw [if_neg h3]
      by_cases h4 : a ≤ i ∧ i < x
      · rw [if_pos h4, if_pos (by omega)]
      · rw [if_neg h4, if_neg (show ¬ (a ≤ i ∧ i < x + 1) by omega)]
        by_cases h5 : a + 28 ≤ i ∧ i < x + 28
        · rw [if_pos h5, if_pos (by omega)]
        · rw [if_neg h5, if_neg (by omega)]
theorem jcp_0 {α : Type} (f : Nat → α) (sp dp : Nat) : va_cpy f f sp dp 0 = f := by
  funext i
  unfold va_cpy
  rw [if_neg (by omega)]
theorem jcp_s (f : Nat → Int32) {sp dp x s d : Nat} (h : dp ≤ sp) (hs : s = sp + x) (hd : d = dp + x) : upd (va_cpy f f sp dp x) d (va_cpy f f sp dp x s) = va_cpy f f sp dp (x + 1) := by
  subst hs; subst hd
  have e1 : va_cpy f f sp dp x (sp + x) = f (sp + x) := by unfold va_cpy; rw [if_neg (by omega)]
  rw [e1]
  funext i
  unfold upd va_cpy
  by_cases h1 : i = dp + x
  · subst h1
    rw [if_pos rfl, if_pos (by omega)]
    congr 1
    omega
  · rw [if_neg h1]
    by_cases h2 : dp ≤ i ∧ i < dp + x
    · rw [if_pos h2, if_pos (by omega)]
    · rw [if_neg h2, if_neg (by omega)]
theorem jcp_app (f : Nat → Int32) {sp dp x n s d : Nat} (h : dp ≤ sp) (hs : s = sp + x) (hd : d = dp + x) : va_cpy (va_cpy f f sp dp x) (va_cpy f f sp dp x) s d n = va_cpy f f sp dp (x + n) := by
  subst hs; subst hd
  funext i
  unfold va_cpy
  by_cases h1 : dp + x ≤ i ∧ i < dp + x + n
  · rw [if_pos h1, if_neg (by omega), if_pos (by omega)]
    congr 1
    omega
  · rw [if_neg h1]
    by_cases h2 : dp ≤ i ∧ i < dp + x
    · rw [if_pos h2, if_pos (by omega)]
    · rw [if_neg h2, if_neg (by omega)]
/-- nI x - 1, x from 0 on -/
theorem jm_lt {x y : Nat} (hx : x < 2 ^ 30) (hy : y < 2 ^ 30) : nI x - 1 < nI y ↔ x ≤ y := by
  rw [Int32.lt_iff_toInt_lt, show (1 : Int32) = nI 1 from rfl, pk_sub_toInt hx (by decide), nI_toInt (by omega)]
  omega
theorem jm_lt0 {x : Nat} (hx : x < 2 ^ 30) : nI x - 1 < 0 ↔ x = 0 := by
  have := jm_lt (x := x) (y := 0) hx (by decide)
  rw [show nI 0 = (0 : Int32) from rfl] at this
  rw [this]
  omega
theorem jm_s (x : Nat) : nI (x + 1) - 1 = nI x := nI_pred x
theorem jm_m1 (x : Nat) : nI x + Int32.ofInt (-1) = nI x - 1 := by
  rw [show Int32.ofInt (-1) = -1 from by decide, Int32.sub_eq_add_neg]
/-- the steps of a loop that are done: those behind an EXIT or BREAK without a look are not -/
def jReach (f : Nat → Int32) (k : Nat) : Nat → Nat → Nat
  | 0, j => j
  | m + 1, j => if f (k * 28 + 4 + j * 4 + 0) = 0 ∧ (f (k * 28 + 4 + j * 4 + 2) = 4 ∨ f (k * 28 + 4 + j * 4 + 2) = 5) then j + 1 else jReach f k m (j + 1)
theorem jReach_s (f : Nat → Int32) (k m j : Nat) : jReach f k (m + 1) j = if f (k * 28 + 4 + j * 4 + 0) = 0 ∧ (f (k * 28 + 4 + j * 4 + 2) = 4 ∨ f (k * 28 + 4 + j * 4 + 2) = 5) then j + 1 else jReach f k m (j + 1) := rfl
def jBl (f f2 : Nat → Int32) (x : Nat) : Nat → Int32 := fun i => if i < x then f2 i else f i
theorem jBl_0 (f f2 : Nat → Int32) : jBl f f2 0 = f := by
  funext i
  unfold jBl
  rw [if_neg (by omega)]
theorem jBl_s (f f2 : Nat → Int32) (x : Nat) : upd (jBl f f2 x) x (f2 x) = jBl f f2 (x + 1) := by
  funext i
  unfold upd jBl
  by_cases h1 : i = x
  · subst h1
    rw [if_pos rfl, if_pos (by omega)]
  · rw [if_neg h1]
    by_cases h2 : i < x
    · rw [if_pos h2, if_pos (by omega)]
    · rw [if_neg h2, if_neg (by omega)]
/-- a number that is none below 0, as a Nat -/
abbrev nn (x : Int32) : Nat := x.toNatClampNeg
/-- strip: the loops from the last one down; r of a loop's steps stay, a loop without steps goes -/
def jStrip : Nat → Nat × (Nat → Int32) → Nat × (Nat → Int32)
  | 0, z => z
  | k + 1, z => if jReach z.2 k (nn (z.2 (k * 28 + 3))) 0 = 0 then jStrip k (z.1 - 1, jRm (upd z.2 (k * 28 + 3) (nI (jReach z.2 k (nn (z.2 (k * 28 + 3))) 0))) (k * 28) ((z.1 - 1) * 28)) else jStrip k (z.1, upd z.2 (k * 28 + 3) (nI (jReach z.2 k (nn (z.2 (k * 28 + 3))) 0)))
/-- the digest over the cells from at on -/
def jMx (d x : Int64) : Int64 := d * 31 + x
def jMR (f : Nat → Int32) : Nat → Nat → Int64 → Int64
  | 0, _, d => d
  | m + 1, at0, d => jMR f m (at0 + 1) (jMx d (f at0).toInt64)
def jML (f : Nat → Int32) : Nat → Nat → Int64 → Int64
  | 0, _, d => d
  | m + 1, k, d => jML f m (k + 1) (jMR f (4 + 4 * nn (f (k * 28 + 3))) (k * 28) d)
theorem jStrip_s (k z : Nat) (h : Nat → Int32) : jStrip (k + 1) (z, h) = if jReach h k (nn (h (k * 28 + 3))) 0 = 0 then jStrip k (z - 1, jRm (upd h (k * 28 + 3) (nI (jReach h k (nn (h (k * 28 + 3))) 0))) (k * 28) ((z - 1) * 28)) else jStrip k (z, upd h (k * 28 + 3) (nI (jReach h k (nn (h (k * 28 + 3))) 0))) := rfl
theorem jMR_s (f : Nat → Int32) (m a : Nat) (d : Int64) : jMR f (m + 1) a d = jMR f m (a + 1) (jMx d (f a).toInt64) := rfl
theorem jML_s (f : Nat → Int32) (m k : Nat) (d : Int64) : jML f (m + 1) k d = jML f m (k + 1) (jMR f (4 + 4 * nn (f (k * 28 + 3))) (k * 28) d) := rfl
theorem jMR_app (f : Nat → Int32) : ∀ (m m' a : Nat) (d : Int64), jMR f (m + m') a d = jMR f m' (a + m) (jMR f m a d)
  | 0, m', a, d => by rw [Nat.zero_add]; rfl
  | m + 1, m', a, d => by
    rw [show m + 1 + m' = (m + m') + 1 by omega, jMR_s, jMR_app f m m' (a + 1), jMR_s, show a + 1 + m = a + (m + 1) by omega]
theorem jReach_le (f : Nat → Int32) (k : Nat) : ∀ m j, jReach f k m j ≤ m + j
  | 0, j => by simp [jReach]
  | m + 1, j => by
    unfold jReach
    split
    · omega
    · have := jReach_le f k m (j + 1)
      omega
section JP3
variable {p : Program} {l : Launch} {e : Env} {R : Room} {s : State} {m : MethodId} {args : Array Value} {below : List Frame} {meth : Method} {c : Code} {Q : State → Prop} {A : Nat → Prop} {g : jG} {I : Heap → List Loc → Prop} {nL cells slots pc : Nat} {L : List (Nat × Value)} {st : List Value} {ws : va_W}
theorem j_arrI {a n : Nat} {f f' : Nat → Int32} {ws' : va_W} (q : Nat) (hq : ws[q]? = some (a, jaI g n f)) (h : ∀ i, i < n → f i = f' i) (hs : ws.set q (a, jaI g n f') = ws') (k : jJ p l e R s m args below meth c Q A g I nL cells slots pc L st ws') : jJ p l e R s m args below meth c Q A g I nL cells slots pc L st ws := by
  have hl := (List.getElem?_eq_some_iff.mp hq).1
  refine j_cell (ws' := ws') (fun H hP => ?_) ?_ k
  · subst hs
    intro i x hx
    rw [List.getElem?_set] at hx
    by_cases hi : q = i
    · rw [if_pos hi, if_pos (hi ▸ hl)] at hx
      cases hx
      have h1 := hP q _ hq
      show H[a]? = some (vp_cell _ _)
      rw [show H[a]? = some (vp_cell g.2.1 (n, .inl f)) from h1, vp_cell_i, vp_cell_i]
      refine congrArg some ?_
      unfold arrV
      congr 1
      apply Array.ext
      · simp
      · intro j h1 h2
        simp only [Array.getElem_ofFn]
        rw [h j (by simpa using h1)]
    · rw [if_neg hi] at hx
      exact hP i x hx
  · subst hs
    apply List.ext_getElem?
    intro i
    rw [List.getElem?_map, List.getElem?_map, List.getElem?_set]
    by_cases hi : q = i
    · subst hi
      rw [if_pos rfl, if_pos hl, hq]
      rfl
    · rw [if_neg hi]
end JP3
