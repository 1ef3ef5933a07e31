/-! the reference's row of a program: how many loops, then the cells -/
def jrw (n : Nat) (f : Nat → Int32) : Nat → Int32
  | 0 => nI n
  | j + 1 => f j
theorem jrw_s {n x y : Nat} {f : Nat → Int32} (h : x = y + 1) : jrw n f x = f y := by subst h; rfl
theorem jrw_0 (n : Nat) (f : Nat → Int32) : jrw n f 0 = nI n := rfl
theorem jrw_u {n x y : Nat} {f : Nat → Int32} {v : Int32} (h : x = y + 1) : upd (jrw n f) x v = jrw n (upd f y v) := by
  subst h
  funext j
  cases j with
  | zero =>
    unfold upd
    rw [if_neg (by omega)]
    rfl
  | succ j =>
    show (if j + 1 = y + 1 then v else jrw n f (j + 1)) = if j = y then v else f j
    by_cases e : j = y
    · rw [if_pos e, if_pos (by omega)]
    · rw [if_neg e, if_neg (by omega)]
      rfl
theorem jrw_n (n k : Nat) (f : Nat → Int32) : upd (jrw n f) 0 (nI k) = jrw k f := by
  funext j
  cases j with
  | zero =>
    unfold upd
    rw [if_pos rfl]
    rfl
  | succ j =>
    unfold upd
    rw [if_neg (by omega)]
    rfl
theorem jrw_c {n sp dp s d m : Nat} {f : Nat → Int32} (hs : s = sp + 1) (hd : d = dp + 1) : va_cpy (jrw n f) (jrw n f) s d m = jrw n (va_cpy f f sp dp m) := by
  subst hs; subst hd
  funext j
  cases j with
  | zero =>
    unfold va_cpy
    rw [if_neg (by omega)]
    rfl
  | succ j =>
    show (if dp + 1 ≤ j + 1 ∧ j + 1 < dp + 1 + m then jrw n f (sp + 1 + (j + 1 - (dp + 1))) else f j) = if dp ≤ j ∧ j < dp + m then f (sp + (j - dp)) else f j
    by_cases e : dp ≤ j ∧ j < dp + m
    · rw [if_pos e, if_pos (by omega), jrw_s (y := sp + (j - dp)) (by omega)]
    · rw [if_neg e, if_neg (by omega)]
def jE1 (de bit acc : Int32) : Int32 := if 4 ≤ de then acc else acc ||| bit
def jE2 (de bit acc : Int32) : Int32 := if de < 2 then acc else if 4 ≤ de then acc else acc ||| 16 * bit
def jE3 (lo wi acc : Int32) : Int32 := if lo = 0 then acc else if wi < 1000 then acc else acc ||| 16 <<< ((wi - 1000) &&& 31)
def jBit (o : Int32) : Int32 := 1 <<< ((o - o / 4 * 4) &&& 31)
/-- the reference's mask: the variables written, and (by 16) those read -/
def jEf (f : Nat → Int32) (k : Nat) : Nat → Nat → Int32 → Int32
  | 0, _, acc => acc
  | m + 1, j, acc => jEf f k m (j + 1) (jE3 (f (k * 28 + 4 + j * 4 + 0)) (f (k * 28 + 4 + j * 4 + 1)) (jE2 (f (k * 28 + 4 + j * 4 + 2)) (jBit (f (k * 28 + 4 + j * 4 + 3))) (jE1 (f (k * 28 + 4 + j * 4 + 2)) (jBit (f (k * 28 + 4 + j * 4 + 3))) acc)))
theorem jEf_s (f : Nat → Int32) (k m j : Nat) (acc : Int32) : jEf f k (m + 1) j acc = jEf f k m (j + 1) (jE3 (f (k * 28 + 4 + j * 4 + 0)) (f (k * 28 + 4 + j * 4 + 1)) (jE2 (f (k * 28 + 4 + j * 4 + 2)) (jBit (f (k * 28 + 4 + j * 4 + 3))) (jE1 (f (k * 28 + 4 + j * 4 + 2)) (jBit (f (k * 28 + 4 + j * 4 + 3))) acc))) := rfl
def jApt (x y : Int32) : Bool := decide (x &&& 15 &&& (y ||| (y >>> ((4 : Int32) &&& 31))) = 0) && decide (y &&& 15 &&& (x ||| (x >>> ((4 : Int32) &&& 31))) = 0)
/-- the reference's reasons -/
def jRJ (f : Nat → Int32) (k a b : Nat) : Int32 := if jSame f k = false then 1 else if jHas f k 4 a 0 = true ∨ jHas f (k + 1) 4 b 0 = true then 2 else if jHas f k 5 a 0 = true ∧ jHas f (k + 1) 5 b 0 = true then 3 else if jApt (jEf f k (a - 0) 0 0) (jEf f (k + 1) (b - 0) 0 0) = false then 4 else if 6 < a + b then 5 else 0
def jRD (f : Nat → Int32) (n k i a : Nat) : Int32 := if jHas f k 4 a 0 = true then 2 else if jHas f k 5 (i - 0) 0 = true ∧ jHas f k 5 (a - i) i = true then 3 else if jApt (jEf f k (i - 0) 0 0) (jEf f k (a - i) i 0) = false then 4 else if n = 8 then 6 else 0
def jRP (f : Nat → Int32) (n k w a v u : Nat) : Int32 := if f (k * 28 + 2) = 0 then 7 else if w - 1 < v + u ∨ 5 < w - 1 - v ∨ v = 5 then 8 else if jHas f k 4 a 0 = true then 2 else if n = 8 then 6 else 0
/-- what a turn looks at, by the reference: the looked-with mask, whether there are two codes, the code -/
def jTu (f : Nat → Int32) (k : Nat) : Nat → Nat → Int32 → Bool → Int32 → Int32 × Bool × Int32
  | 0, _, lk, ot, cd => (lk, ot, cd)
  | m + 1, j, lk, ot, cd => jTu f k m (j + 1) (if f (k * 28 + 4 + j * 4 + 0) = 0 then lk else if f (k * 28 + 4 + j * 4 + 1) < 1000 then lk else lk ||| 1 <<< ((f (k * 28 + 4 + j * 4 + 1) - 1000) &&& 31)) (if f (k * 28 + 4 + j * 4 + 2) = 5 then (ot || (!decide (cd = -1) && !decide (cd = f (k * 28 + 4 + j * 4 + 3)))) else ot) (if f (k * 28 + 4 + j * 4 + 2) = 5 then f (k * 28 + 4 + j * 4 + 3) else cd)
theorem jTu_s (f : Nat → Int32) (k m j : Nat) (lk : Int32) (ot : Bool) (cd : Int32) : jTu f k (m + 1) j lk ot cd = jTu f k m (j + 1) (if f (k * 28 + 4 + j * 4 + 0) = 0 then lk else if f (k * 28 + 4 + j * 4 + 1) < 1000 then lk else lk ||| 1 <<< ((f (k * 28 + 4 + j * 4 + 1) - 1000) &&& 31)) (if f (k * 28 + 4 + j * 4 + 2) = 5 then (ot || (!decide (cd = -1) && !decide (cd = f (k * 28 + 4 + j * 4 + 3)))) else ot) (if f (k * 28 + 4 + j * 4 + 2) = 5 then f (k * 28 + 4 + j * 4 + 3) else cd) := rfl
def jRT (f : Nat → Int32) (k a : Nat) : Int32 := if jHas f k 4 a 0 = true then 2 else if (jTu f k a 0 0 false (-1)).2.1 = true then 9 else if jHas f k 0 a 0 = true ∨ jHas f k 1 a 0 = true then 10 else if (jTu f k a 0 0 false (-1)).1 &&& jEf f k (a - 0) 0 0 = 0 then 0 else 11
def jRS (f : Nat → Int32) (k a b : Nat) : Int32 := if jHas f k 5 a 0 = true ∧ jHas f (k + 1) 5 b 0 = true then 3 else if jApt (jEf f k (a - 0) 0 0) (jEf f (k + 1) (b - 0) 0 0) = false then 4 else 0
theorem jlast2 {len w u x : Nat} (hl : len < 2 ^ 28) (hw : w < 2 ^ 28) (hu : u < 2 ^ 28) (hx : x < 2 ^ 28) : nI len - 1 - nI w - nI u < nI x ↔ len ≤ u + x + w := by
  rw [show nI len - 1 - nI w - nI u = nI len - nI (w + 1 + u) by rw [← nI_add, ← nI_add, show nI 1 = (1 : Int32) from rfl]; grind, Int32.lt_iff_toInt_lt, pk_sub_toInt (by omega) (by omega), nI_toInt (by omega)]
  omega
theorem jplace2 {len w x : Nat} (h : x + w < len) : nI len - 1 - nI w - nI x = nI (len - 1 - w - x) := by
  rw [show (1 : Int32) = nI 1 from rfl, pk_sub (by omega), pk_sub (by omega), pk_sub (by omega)]
def jIn (x lo hi : Int64) : Bool := !decide (x < lo) && !decide (hi < x)
