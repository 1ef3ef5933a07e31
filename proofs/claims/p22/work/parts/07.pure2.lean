/-! reasons: what the class tells of a program's cells -/
def jHas (f : Nat → Int32) (k : Nat) (d : Int32) : Nat → Nat → Bool
  | 0, _ => false
  | m + 1, j => if f (k * 28 + 4 + j * 4 + 2) = d then true else jHas f k d m (j + 1)
theorem jHas_s (f : Nat → Int32) (k : Nat) (d : Int32) (m j : Nat) : jHas f k d (m + 1) j = if f (k * 28 + 4 + j * 4 + 2) = d then true else jHas f k d m (j + 1) := rfl
def jSame (f : Nat → Int32) (k : Nat) : Bool := decide (f (k * 28 + 0) = f ((k + 1) * 28 + 0)) && (decide (f (k * 28 + 1) = f ((k + 1) * 28 + 1)) && decide (f (k * 28 + 2) = f ((k + 1) * 28 + 2)))
def jTwo (f : Nat → Int32) (k : Nat) : Nat → Nat → Int32 → Bool
  | 0, _, _ => false
  | m + 1, j, cd => if f (k * 28 + 4 + j * 4 + 2) = 5 then (if ¬ cd = -1 ∧ ¬ cd = f (k * 28 + 4 + j * 4 + 3) then true else jTwo f k m (j + 1) (f (k * 28 + 4 + j * 4 + 3))) else jTwo f k m (j + 1) cd
theorem jTwo_s (f : Nat → Int32) (k m j : Nat) (cd : Int32) : jTwo f k (m + 1) j cd = if f (k * 28 + 4 + j * 4 + 2) = 5 then (if ¬ cd = -1 ∧ ¬ cd = f (k * 28 + 4 + j * 4 + 3) then true else jTwo f k m (j + 1) (f (k * 28 + 4 + j * 4 + 3))) else jTwo f k m (j + 1) cd := rfl
def jWr (f : Nat → Int32) (k : Nat) : Nat → Nat → Int32 → Int32
  | 0, _, acc => acc
  | m + 1, j, acc => if f (k * 28 + 4 + j * 4 + 2) = 4 ∨ f (k * 28 + 4 + j * 4 + 2) = 5 then jWr f k m (j + 1) acc else jWr f k m (j + 1) (acc ||| (1 <<< (f (k * 28 + 4 + j * 4 + 3) &&& 31)))
theorem jWr_s (f : Nat → Int32) (k m j : Nat) (acc : Int32) : jWr f k (m + 1) j acc = if f (k * 28 + 4 + j * 4 + 2) = 4 ∨ f (k * 28 + 4 + j * 4 + 2) = 5 then jWr f k m (j + 1) acc else jWr f k m (j + 1) (acc ||| (1 <<< (f (k * 28 + 4 + j * 4 + 3) &&& 31))) := rfl
def jIsV (w : Int32) : Bool := !decide (w < 1000) && !decide (1004 ≤ w)
def jLk (f : Nat → Int32) (k : Nat) : Nat → Nat → Int32 → Int32
  | 0, _, acc => acc
  | m + 1, j, acc => if ¬ f (k * 28 + 4 + j * 4 + 0) = 0 ∧ jIsV (f (k * 28 + 4 + j * 4 + 1)) = true then jLk f k m (j + 1) (acc ||| (1 <<< ((f (k * 28 + 4 + j * 4 + 1) - 1000) &&& 31))) else jLk f k m (j + 1) acc
theorem jLk_s (f : Nat → Int32) (k m j : Nat) (acc : Int32) : jLk f k (m + 1) j acc = if ¬ f (k * 28 + 4 + j * 4 + 0) = 0 ∧ jIsV (f (k * 28 + 4 + j * 4 + 1)) = true then jLk f k m (j + 1) (acc ||| (1 <<< ((f (k * 28 + 4 + j * 4 + 1) - 1000) &&& 31))) else jLk f k m (j + 1) acc := rfl
/-- the steps of k ahead of e, and those of o from st on, of its so ones -/
def jParts (f : Nat → Int32) (k e o st so : Nat) : Int32 := if jHas f k 5 (e - 0) 0 = true ∧ jHas f o 5 (so - st) st = true then 3 else if jWr f k (e - 0) 0 0 &&& (jWr f o (so - st) st 0 ||| jLk f o (so - st) st 0) = 0 ∧ jWr f o (so - st) st 0 &&& jLk f k (e - 0) 0 0 = 0 then 0 else 4
def jAJ (f : Nat → Int32) (k a b : Nat) : Int32 := if jSame f k = false then 1 else if jHas f k 4 a 0 = true ∨ jHas f (k + 1) 4 b 0 = true then 2 else if ¬ jParts f k a (k + 1) 0 b = 0 then jParts f k a (k + 1) 0 b else if 6 < a + b then 5 else 0
def jAD (f : Nat → Int32) (n k i a : Nat) : Int32 := if jHas f k 4 a 0 = true then 2 else if ¬ jParts f k i k i a = 0 then jParts f k i k i a else if 8 ≤ n then 6 else 0
def jAP (f : Nat → Int32) (n k w a v u : Nat) : Int32 := if f (k * 28 + 2) = 0 then 7 else if w - 1 < v + u ∨ 5 < w - 1 - v ∨ 5 < v + 1 then 8 else if jHas f k 4 a 0 = true then 2 else if 8 ≤ n then 6 else 0
def jAT (f : Nat → Int32) (k a : Nat) : Int32 := if jHas f k 4 a 0 = true then 2 else if jTwo f k a 0 (-1) = true then 9 else if jHas f k 0 (a - 0) 0 = true ∨ jHas f k 1 (a - 0) 0 = true then 10 else if ¬ jLk f k (a - 0) 0 0 &&& jWr f k (a - 0) 0 0 = 0 then 11 else 0
/-! runs -/
theorem jIsV_n {w : Int32} (h : jIsV w = true) : ∃ v : Nat, v < 4 ∧ w = nI (1000 + v) := by
  simp only [jIsV, Bool.and_eq_true, Bool.not_eq_true', decide_eq_false_iff_not] at h
  rw [Int32.lt_iff_toInt_lt, Int32.le_iff_toInt_le] at h
  have h1 : (1000 : Int32).toInt = 1000 := by decide
  have h2 : (1004 : Int32).toInt = 1004 := by decide
  rw [h1, h2] at h
  refine ⟨(w.toInt - 1000).toNat, by omega, ?_⟩
  rw [← Int32.toInt_inj, nI_toInt (by omega)]
  omega
theorem jne {x : Int32} {k : Nat} (h : ¬ x = nI k) (hk : k < 2 ^ 31) : x.toInt ≠ (k : Int) := fun e => h (by rw [← Int32.toInt_inj, nI_toInt hk]; exact e)
def jOth (vv : Nat → Int64) (w : Int32) : Int64 := if jIsV w = true then vv (nn (w - 1000)) else w.toInt64
def jHold (lo : Int32) (ot nu : Int64) : Bool := if lo = 0 then true else if lo = 1 then decide (nu = ot) else if lo = 2 then !decide (nu = ot) else if lo = 3 then !decide (ot ≤ nu) else !decide (nu ≤ ot)
def jDo (de : Int32) (v : Nat) (pl : Int32) (nu : Int64) (vv : Nat → Int64) : Nat → Int64 := vp_updL vv v (if de = 0 then nu else if de = 1 then pl.toInt64 else if de = 2 then vv v + 1 else vv v + nu)
theorem jOth_v {vv : Nat → Int64} {w : Int32} {v : Nat} (h : w = nI (1000 + v)) (hv : v < 4) (hi : jIsV w = true) : jOth vv w = vv v := by
  rw [jOth, if_pos hi, h]
  congr 1
  show (nI (1000 + v) - nI 1000).toNatClampNeg = v
  rw [pk_sub (by omega), nI_clamp (by omega)]
  omega
theorem jOth_w {vv : Nat → Int64} {w : Int32} (hi : jIsV w = false) : jOth vv w = w.toInt64 := by
  rw [jOth, if_neg (by rw [hi]; decide)]
def jEqV (vv v2 : Nat → Int64) : Nat → Nat → Bool
  | 0, _ => true
  | m + 1, i => if vv i = v2 i then jEqV vv v2 m (i + 1) else false
theorem jEqV_s (vv v2 : Nat → Int64) (m i : Nat) : jEqV vv v2 (m + 1) i = if vv i = v2 i then jEqV vv v2 m (i + 1) else false := rfl
def jAL (vv : Nat → Int64) (cd : Int32) (v2 : Nat → Int64) (cd2 : Int32) : Bool := if cd = cd2 then (if cd = -1 then jEqV vv v2 4 0 else true) else false
/-- the steps of one place: variables, looks, code, and whether the loop goes on -/
def jSt (f : Nat → Int32) (k pl : Nat) (nu : Int64) : Nat → Nat → (Nat → Int64) → Int32 → Int32 → (Nat → Int64) × Int32 × Int32 × Bool
  | 0, _, vv, lk, cd => (vv, lk, cd, true)
  | m + 1, j, vv, lk, cd => if jHold (f (k * 28 + 4 + j * 4 + 0)) (jOth vv (f (k * 28 + 4 + j * 4 + 1))) nu = true then
      (if f (k * 28 + 4 + j * 4 + 2) = 4 then (vv, lk + 1, cd, false) else if f (k * 28 + 4 + j * 4 + 2) = 5 then (vv, lk + 1, f (k * 28 + 4 + j * 4 + 3), false) else jSt f k pl nu m (j + 1) (jDo (f (k * 28 + 4 + j * 4 + 2)) (nn (f (k * 28 + 4 + j * 4 + 3))) (nI pl) nu vv) (lk + 1) cd)
      else jSt f k pl nu m (j + 1) vv (lk + 1) cd
theorem jSt_s (f : Nat → Int32) (k pl : Nat) (nu : Int64) (m j : Nat) (vv : Nat → Int64) (lk cd : Int32) : jSt f k pl nu (m + 1) j vv lk cd = if jHold (f (k * 28 + 4 + j * 4 + 0)) (jOth vv (f (k * 28 + 4 + j * 4 + 1))) nu = true then
      (if f (k * 28 + 4 + j * 4 + 2) = 4 then (vv, lk + 1, cd, false) else if f (k * 28 + 4 + j * 4 + 2) = 5 then (vv, lk + 1, f (k * 28 + 4 + j * 4 + 3), false) else jSt f k pl nu m (j + 1) (jDo (f (k * 28 + 4 + j * 4 + 2)) (nn (f (k * 28 + 4 + j * 4 + 3))) (nI pl) nu vv) (lk + 1) cd)
      else jSt f k pl nu m (j + 1) vv (lk + 1) cd := rfl
def jPos (up : Bool) (u w len i : Nat) : Nat := if up = true then i else len - 1 - w - (i - u)
/-- a loop over its places, m of them left, from the i-th on -/
def jPl (f : Nat → Int32) (k a : Nat) (row : Nat → Int64) (up : Bool) (u w len : Nat) : Nat → Nat → (Nat → Int64) → Int32 → Int32 → (Nat → Int64) × Int32 × Int32
  | 0, _, vv, lk, cd => (vv, lk, cd)
  | m + 1, i, vv, lk, cd => if (jSt f k (jPos up u w len i) (row (jPos up u w len i)) a 0 vv lk cd).2.2.2 = true
      then jPl f k a row up u w len m (i + 1) (jSt f k (jPos up u w len i) (row (jPos up u w len i)) a 0 vv lk cd).1 (jSt f k (jPos up u w len i) (row (jPos up u w len i)) a 0 vv lk cd).2.1 (jSt f k (jPos up u w len i) (row (jPos up u w len i)) a 0 vv lk cd).2.2.1
      else ((jSt f k (jPos up u w len i) (row (jPos up u w len i)) a 0 vv lk cd).1, (jSt f k (jPos up u w len i) (row (jPos up u w len i)) a 0 vv lk cd).2.1, (jSt f k (jPos up u w len i) (row (jPos up u w len i)) a 0 vv lk cd).2.2.1)
theorem jPl_s (f : Nat → Int32) (k a : Nat) (row : Nat → Int64) (up : Bool) (u w len m i : Nat) (vv : Nat → Int64) (lk cd : Int32) : jPl f k a row up u w len (m + 1) i vv lk cd = if (jSt f k (jPos up u w len i) (row (jPos up u w len i)) a 0 vv lk cd).2.2.2 = true
      then jPl f k a row up u w len m (i + 1) (jSt f k (jPos up u w len i) (row (jPos up u w len i)) a 0 vv lk cd).1 (jSt f k (jPos up u w len i) (row (jPos up u w len i)) a 0 vv lk cd).2.1 (jSt f k (jPos up u w len i) (row (jPos up u w len i)) a 0 vv lk cd).2.2.1
      else ((jSt f k (jPos up u w len i) (row (jPos up u w len i)) a 0 vv lk cd).1, (jSt f k (jPos up u w len i) (row (jPos up u w len i)) a 0 vv lk cd).2.1, (jSt f k (jPos up u w len i) (row (jPos up u w len i)) a 0 vv lk cd).2.2.1) := rfl
/-- a whole loop: all that it needs is in its facts -/
def jLp (f : Nat → Int32) (k : Nat) (row : Nat → Int64) (len : Nat) (vv : Nat → Int64) (lk cd : Int32) : (Nat → Int64) × Int32 × Int32 :=
  jPl f k (nn (f (k * 28 + 3))) row (decide (f (k * 28 + 2) = 1)) (nn (f (k * 28 + 0))) (nn (f (k * 28 + 1))) len (len - (nn (f (k * 28 + 0)) + nn (f (k * 28 + 1)))) (nn (f (k * 28 + 0))) vv lk cd
def jLs (f : Nat → Int32) (row : Nat → Int64) (len : Nat) : Nat → Nat → (Nat → Int64) → Int32 → Int32 → (Nat → Int64) × Int32 × Int32
  | 0, _, vv, lk, cd => (vv, lk, cd)
  | m + 1, k, vv, lk, cd => if cd = -1 then jLs f row len m (k + 1) (jLp f k row len vv lk cd).1 (jLp f k row len vv lk cd).2.1 (jLp f k row len vv lk cd).2.2 else (vv, lk, cd)
theorem jLs_s (f : Nat → Int32) (row : Nat → Int64) (len m k : Nat) (vv : Nat → Int64) (lk cd : Int32) : jLs f row len (m + 1) k vv lk cd = if cd = -1 then jLs f row len m (k + 1) (jLp f k row len vv lk cd).1 (jLp f k row len vv lk cd).2.1 (jLp f k row len vv lk cd).2.2 else (vv, lk, cd) := rfl
theorem jLs_x (f : Nat → Int32) (row : Nat → Int64) (len m k : Nat) (vv : Nat → Int64) (lk cd : Int32) (h : ¬ cd = -1) : jLs f row len m k vv lk cd = (vv, lk, cd) := by
  cases m with
  | zero => rfl
  | succ m => rw [jLs_s, if_neg h]
/-- a run: variables, looks, code (-1 if it wasn't left) -/
def jRn (n : Nat) (f : Nat → Int32) (row : Nat → Int64) (len : Nat) : (Nat → Int64) × Int32 × Int32 := jLs f row len n 0 (fun _ => 0) 0 (-1)
/-! what a program's cells keep to -/
def jOkS (f : Nat → Int32) (k j : Nat) : Prop := (∃ v, v ≤ 4 ∧ f (k * 28 + 4 + j * 4 + 0) = nI v) ∧ ((-100 ≤ f (k * 28 + 4 + j * 4 + 1) ∧ f (k * 28 + 4 + j * 4 + 1) ≤ 100) ∨ ∃ v, v < 4 ∧ f (k * 28 + 4 + j * 4 + 1) = nI (1000 + v)) ∧ ∃ d o, d ≤ 5 ∧ f (k * 28 + 4 + j * 4 + 2) = nI d ∧ f (k * 28 + 4 + j * 4 + 3) = nI o ∧ (d < 4 → o < 4) ∧ (d = 4 → o = 0) ∧ (d = 5 → o ≤ 100)
def jOkL (f : Nat → Int32) (k : Nat) : Prop := ∃ u w a, u ≤ 5 ∧ w ≤ 5 ∧ a ≤ 6 ∧ f (k * 28 + 0) = nI u ∧ f (k * 28 + 1) = nI w ∧ (f (k * 28 + 2) = 0 ∨ f (k * 28 + 2) = 1) ∧ f (k * 28 + 3) = nI a ∧ ∀ j, j < a → jOkS f k j
def jOk (n : Nat) (f : Nat → Int32) : Prop := n ≤ 8 ∧ ∀ k, k < n → jOkL f k
theorem jOkS_d {f : Nat → Int32} {k a : Nat} (h : ∀ j, j < a → jOkS f k j) : ∀ j, j < a → f (k * 28 + 4 + j * 4 + 2) = 4 ∨ f (k * 28 + 4 + j * 4 + 2) = 5 ∨ ∃ v, v < 4 ∧ f (k * 28 + 4 + j * 4 + 3) = nI v := by
  intro j hj
  obtain ⟨-, -, d, o, h1, h2, h3, h4, h5, h6⟩ := h j hj
  by_cases e4 : d = 4
  · subst e4; exact Or.inl h2
  · by_cases e5 : d = 5
    · subst e5; exact Or.inr (Or.inl h2)
    · exact Or.inr (Or.inr ⟨o, h4 (by omega), h3⟩)
def jZL (vv : Nat → Int64) (x : Nat) : Nat → Int64 := fun i => if i < x then 0 else vv i
theorem jZL_0 (vv : Nat → Int64) : jZL vv 0 = vv := by
  funext i
  unfold jZL
  rw [if_neg (by omega)]
theorem jZL_s (vv : Nat → Int64) (x : Nat) : vp_updL (jZL vv x) x 0 = jZL vv (x + 1) := by
  funext i
  unfold vp_updL jZL
  by_cases h1 : i = x
  · subst h1
    rw [if_pos rfl, if_pos (by omega)]
  · rw [if_neg h1]
    by_cases h2 : i < x
    · rw [if_pos h2, if_pos (by omega)]
    · rw [if_neg h2, if_neg (by omega)]
/-- the next row of digits: from the last one on, those at the greatest digit become 0, the first other one becomes one greater -/
def jInc (gd : Int64) : Nat → (Nat → Int64) → (Nat → Int64)
  | 0, h => h
  | i + 1, h => if gd ≤ h i then jInc gd i (vp_updL h i 0) else vp_updL h i (h i + 1)
theorem jInc_s (gd : Int64) (i : Nat) (h : Nat → Int64) : jInc gd (i + 1) h = if gd ≤ h i then jInc gd i (vp_updL h i 0) else vp_updL h i (h i + 1) := rfl
section JP4
variable {p : Program} {l : Launch} {e : Env} {R : Room} {s : State} {m : MethodId} {args : Array Value} {below : List Frame} {meth : Method} {c : Code} {Q : State → Prop} {A : Nat → Prop} {g : jG} {I : Heap → List Loc → Prop} {nL cells slots pc : Nat} {L : List (Nat × Value)} {st : List Value} {ws : va_W}
theorem j_arrL {a n : Nat} {f f' : Nat → Int64} {ws' : va_W} (q : Nat) (hq : ws[q]? = some (a, jaL g n f)) (h : ∀ i, i < n → f i = f' i) (hs : ws.set q (a, jaL g n f') = ws') (k : jJ p l e R s m args below meth c Q A g I nL cells slots pc L st ws') : jJ p l e R s m args below meth c Q A g I nL cells slots pc L st ws := by
  have hl := (List.getElem?_eq_some_iff.mp hq).1
  refine j_cell (ws' := ws') (fun H hP => ?_) ?_ k
  · subst hs
    intro i x hx
    rw [List.getElem?_set] at hx
    by_cases hi : q = i
    · rw [if_pos hi, if_pos (hi ▸ hl)] at hx
      cases hx
      have h1 := hP q _ hq
      show H[a]? = some (vp_cell _ _)
      rw [show H[a]? = some (vp_cell g.2.2.1 (n, .inr (.inl f))) from h1, vp_cell_l, vp_cell_l]
      refine congrArg some ?_
      unfold arrV
      congr 1
      apply Array.ext
      · simp
      · intro j h1 h2
        simp only [Array.getElem_ofFn]
        rw [h j (by simpa using h1)]
    · rw [if_neg hi] at hx
      exact hP i x hx
  · subst hs
    apply List.ext_getElem?
    intro i
    rw [List.getElem?_map, List.getElem?_map, List.getElem?_set]
    by_cases hi : q = i
    · subst hi
      rw [if_pos rfl, if_pos hl, hq]
      rfl
    · rw [if_neg hi]
end JP4
theorem jlast {len w i : Nat} (hl : len < 2 ^ 28) (hw : w < 2 ^ 28) (hi : i < 2 ^ 28) : nI len - 1 - nI w < nI i ↔ len ≤ i + w := by
  rw [show nI len - 1 - nI w = nI len - nI (w + 1) by rw [← nI_add, show nI 1 = (1 : Int32) from rfl]; grind, Int32.lt_iff_toInt_lt, pk_sub_toInt (by omega) (by omega), nI_toInt (by omega)]
  omega
theorem jplace {len w i u : Nat} (h : i + w < len) (hu : u ≤ i) : nI len - 1 - nI w - nI (i - u) = nI (len - 1 - w - (i - u)) := by
  rw [show (1 : Int32) = nI 1 from rfl, pk_sub (by omega), pk_sub (by omega), pk_sub (by omega)]
