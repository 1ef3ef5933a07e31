/-! pools: the cells of the programs -/
def jpl (F : Nat → Nat × va_E) (N : Nat) : va_W := (List.range N).map F
def jrest (F : Nat → Nat × va_E) (N k : Nat) : va_W := ((List.range N).erase k).map F
theorem jpl_p {F : Nat → Nat × va_E} {N k : Nat} (hk : k < N) : (F k :: jrest F N k).Perm (jpl F N) := by
  have h := (List.perm_cons_erase (a := k) (List.mem_range.mpr hk)).map F
  exact h.symm
theorem jpl_q {F : Nat → Nat × va_E} {N k : Nat} (hk : k < N) : (jpl F N).Perm (F k :: jrest F N k) := (jpl_p hk).symm
theorem jrest_cong {F F' : Nat → Nat × va_E} {N k : Nat} (h : ∀ i, i < N → i ≠ k → F i = F' i) : jrest F N k = jrest F' N k := by
  unfold jrest
  apply List.map_congr_left
  intro i hi
  have h1 := (List.nodup_range (n := N)).mem_erase_iff.mp hi
  exact h i (List.mem_range.mp h1.2) h1.1
theorem jpl_succ (F : Nat → Nat × va_E) (N : Nat) : (jpl F N ++ [F N]) = jpl F (N + 1) := by
  unfold jpl
  rw [List.range_succ, List.map_append]
  rfl
theorem jpl_cong {F F' : Nat → Nat × va_E} {N : Nat} (h : ∀ i, i < N → F i = F' i) : jpl F N = jpl F' N := List.map_congr_left (fun i hi => h i (List.mem_range.mp hi))
/-! the digest of all -/
def jDp (pn : Nat → Nat) (pf : Nat → Nat → Int32) : Nat → Nat → Int64 → Int64
  | 0, _, d => d
  | m + 1, k, d => jDp pn pf m (k + 1) (jML (pf k) (pn k) 0 (jMx d (nI (pn k)).toInt64))
theorem jDp_s (pn : Nat → Nat) (pf : Nat → Nat → Int32) (m k : Nat) (d : Int64) : jDp pn pf (m + 1) k d = jDp pn pf m (k + 1) (jML (pf k) (pn k) 0 (jMx d (nI (pn k)).toInt64)) := rfl
def jDr (row : Nat → Int64) : Nat → Nat → Int64 → Int64
  | 0, _, d => d
  | m + 1, i, d => jDr row m (i + 1) (jMx d (row i))
theorem jDr_s (row : Nat → Int64) (m i : Nat) (d : Int64) : jDr row (m + 1) i d = jDr row m (i + 1) (jMx d (row i)) := rfl
def jDG (N : Nat) (pn : Nat → Nat) (pf : Nat → Nat → Int32) (row : Nat → Int64) (len : Nat) (rn : Nat → Int64) : Int64 := jDr rn 5 0 (jDr row len 0 (jMx (jDp pn pf N 0 (jMx 373 (nI N).toInt64)) (nI len).toInt64))
