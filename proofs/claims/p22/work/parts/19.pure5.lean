/-! changes keep a program well -/
theorem jOkS_at {f f' : Nat → Int32} {k j k' j' : Nat} (h : ∀ i, i < 4 → f' (k' * 28 + 4 + j' * 4 + i) = f (k * 28 + 4 + j * 4 + i)) (hf : jOkS f k j) : jOkS f' k' j' := by
  obtain ⟨g1, g2, d, o, g3, g4, g5, g6⟩ := hf
  refine ⟨?_, ?_, d, o, g3, ?_, ?_, g6⟩
  · rw [h 0 (by omega)]; exact g1
  · rw [h 1 (by omega)]; exact g2
  · rw [h 2 (by omega)]; exact g4
  · rw [h 3 (by omega)]; exact g5
theorem jOkL_at {f f' : Nat → Int32} {k k' : Nat} (h : ∀ i, i < 28 → f' (k' * 28 + i) = f (k * 28 + i)) (hf : jOkL f k) : jOkL f' k' := by
  obtain ⟨u, w, a, h1, h2, h3, h4, h5, h6, h7, h8⟩ := hf
  refine ⟨u, w, a, h1, h2, h3, ?_, ?_, ?_, ?_, fun j hj => jOkS_at (fun i hi => ?_) (h8 j hj)⟩
  · rw [h 0 (by omega)]; exact h4
  · rw [h 1 (by omega)]; exact h5
  · rw [h 2 (by omega)]; exact h6
  · rw [h 3 (by omega)]; exact h7
  · rw [show k' * 28 + 4 + j * 4 + i = k' * 28 + (4 + j * 4 + i) by omega, show k * 28 + 4 + j * 4 + i = k * 28 + (4 + j * 4 + i) by omega]; exact h _ (by omega)
/-- a loop behind joining -/
def jJn (n : Nat) (f : Nat → Int32) (k a b : Nat) : Nat → Int32 := jRm (upd (va_cpy f f ((k + 1) * 28 + 4) (k * 28 + 4 + a * 4) (b * 4)) (k * 28 + 3) (nI (a + b))) ((k + 1) * 28) ((n - 1) * 28)
theorem jJn_ok {n k a b : Nat} {f : Nat → Int32} (hok : jOk n f) (hk : k + 1 < n) (ha : f (k * 28 + 3) = nI a) (hb : f ((k + 1) * 28 + 3) = nI b) (hab : a + b ≤ 6) : jOk (n - 1) (jJn n f k a b) := by
  refine ⟨by have := hok.1; omega, fun x hx => ?_⟩
  rcases (show x < k ∨ x = k ∨ k < x by omega) with h | h | h
  · refine jOkL_at (k := x) (fun i hi => ?_) (hok.2 x (by omega))
    unfold jJn jRm upd va_cpy
    rw [if_neg (by omega), if_neg (by omega), if_neg (by omega)]
  · subst h
    obtain ⟨u, w, a', g1, g2, g3, g4, g5, g6, g7, g8⟩ := hok.2 x (by omega)
    obtain ⟨u', w', b', q1, q2, q3, q4, q5, q6, q7, q8⟩ := hok.2 (x + 1) (by omega)
    obtain rfl : a' = a := (nI_eq (by omega) (by omega)).mp (g7.symm.trans ha)
    obtain rfl : b' = b := (nI_eq (by omega) (by omega)).mp (q7.symm.trans hb)
    refine ⟨u, w, a' + b', g1, g2, hab, ?_, ?_, ?_, ?_, fun j hj => ?_⟩
    · unfold jJn jRm upd va_cpy; rw [if_neg (by omega), if_neg (by omega), if_neg (by omega)]; exact g4
    · unfold jJn jRm upd va_cpy; rw [if_neg (by omega), if_neg (by omega), if_neg (by omega)]; exact g5
    · unfold jJn jRm upd va_cpy; rw [if_neg (by omega), if_neg (by omega), if_neg (by omega)]; exact g6
    · unfold jJn jRm upd; rw [if_neg (by omega), if_pos rfl]
    · by_cases hja : j < a'
      · refine jOkS_at (fun i hi => ?_) (g8 j hja)
        unfold jJn jRm upd va_cpy; rw [if_neg (by omega), if_neg (by omega), if_neg (by omega)]
      · refine jOkS_at (fun i hi => ?_) (q8 (j - a') (by omega))
        unfold jJn jRm upd va_cpy; rw [if_neg (by omega), if_neg (by omega), if_pos (by omega)]
        congr 1
        omega
  · refine jOkL_at (k := x + 1) (fun i hi => ?_) (hok.2 (x + 1) (by omega))
    unfold jJn jRm upd va_cpy
    rw [if_pos (by omega), if_neg (by omega), if_neg (by omega)]
    congr 1
    omega
/-! joinAll -/
def jWy (f : Nat → Int32) (k : Nat) : Int32 := jRJ f k (nn (f (k * 28 + 3))) (nn (f ((k + 1) * 28 + 3)))
def jFj (f : Nat → Int32) : Nat → Nat → Nat
  | 0, k => k
  | m + 1, k => if jWy f k = 0 then k else jFj f m (k + 1)
theorem jFj_s (f : Nat → Int32) (m k : Nat) : jFj f (m + 1) k = if jWy f k = 0 then k else jFj f m (k + 1) := rfl
def jJA : Nat → Nat → Nat × (Nat → Int32) → Nat × Nat × (Nat → Int32)
  | 0, q, z => (q, z)
  | m + 1, q, z => if jFj z.2 (z.1 - 1) 0 + 1 < z.1 then jJA m (q + 1) (z.1 - 1, jJn z.1 z.2 (jFj z.2 (z.1 - 1) 0) (nn (z.2 (jFj z.2 (z.1 - 1) 0 * 28 + 3))) (nn (z.2 ((jFj z.2 (z.1 - 1) 0 + 1) * 28 + 3)))) else (q, z)
theorem jJA_s (m q : Nat) (z : Nat × (Nat → Int32)) : jJA (m + 1) q z = if jFj z.2 (z.1 - 1) 0 + 1 < z.1 then jJA m (q + 1) (z.1 - 1, jJn z.1 z.2 (jFj z.2 (z.1 - 1) 0) (nn (z.2 (jFj z.2 (z.1 - 1) 0 * 28 + 3))) (nn (z.2 ((jFj z.2 (z.1 - 1) 0 + 1) * 28 + 3)))) else (q, z) := rfl
theorem jRJ_ab {f : Nat → Int32} {k a b : Nat} (h : jRJ f k a b = 0) : a + b ≤ 6 := by
  unfold jRJ at h
  split at h
  · exact absurd h (by decide)
  · split at h
    · exact absurd h (by decide)
    · split at h
      · exact absurd h (by decide)
      · split at h
        · exact absurd h (by decide)
        · split at h
          · exact absurd h (by decide)
          · omega
theorem jWy_of {f : Nat → Int32} {k a b : Nat} (ha : f (k * 28 + 3) = nI a) (ha6 : a ≤ 6) (hb : f ((k + 1) * 28 + 3) = nI b) (hb6 : b ≤ 6) : jWy f k = jRJ f k a b := by
  unfold jWy nn
  rw [ha, hb, nI_clamp (by omega), nI_clamp (by omega)]
theorem jJA_in {m q n k a b : Nat} {f : Nat → Int32} (hk : k + 1 < n) (hf : jFj f (n - 1) 0 = k) (ha : f (k * 28 + 3) = nI a) (ha6 : a ≤ 6) (hb : f ((k + 1) * 28 + 3) = nI b) (hb6 : b ≤ 6) : jJA (m + 1) q (n, f) = jJA m (q + 1) (n - 1, jJn n f k a b) := by
  rw [jJA_s]
  simp only [hf]
  rw [if_pos hk, ha, hb, show nn (nI a) = a from nI_clamp (by omega), show nn (nI b) = b from nI_clamp (by omega)]
theorem jJA_out {m q n : Nat} {f : Nat → Int32} (hf : n ≤ jFj f (n - 1) 0 + 1) : jJA m q (n, f) = (q, (n, f)) := by
  cases m with
  | zero => rfl
  | succ m => rw [jJA_s, if_neg (by show ¬ jFj f (n - 1) 0 + 1 < n; omega)]
/-! rows of digits -/
def jLy (n v x k : Nat) (cf : Nat → Int64) : Nat → Int64 := fun i => if k ≤ i ∧ i < n then lN ((x / v ^ (n - 1 - i)) % v) else cf i
theorem jLy_0 (n v x : Nat) (cf : Nat → Int64) : jLy n v x n cf = cf := by
  funext i
  unfold jLy
  rw [if_neg (by omega)]
theorem jLy_s {n v x k : Nat} {cf : Nat → Int64} (hk : k < n) : vp_updL (jLy n v x (k + 1) cf) k (lN ((x / v ^ (n - (k + 1))) % v)) = jLy n v x k cf := by
  funext i
  unfold vp_updL jLy
  by_cases h : i = k
  · subst h
    rw [if_pos rfl, if_pos (by omega), show n - (i + 1) = n - 1 - i by omega]
  · rw [if_neg h]
    by_cases h1 : k + 1 ≤ i ∧ i < n
    · rw [if_pos h1, if_pos (by omega)]
    · rw [if_neg h1, if_neg (by omega)]
theorem jLy_d {v x n k : Nat} (hk : k < n) : x / v ^ (n - (k + 1)) / v = x / v ^ (n - k) := by
  rw [Nat.div_div_eq_div_mul, show n - k = n - (k + 1) + 1 by omega, Nat.pow_succ]
def jArC (n v : Int32) : Bool := jBt n 0 6 && (jBt v 1 4 && decide (nn v ^ nn n ≤ 1024))
theorem jpos_ne {n : Nat} (h : n < 2 ^ 31) : ¬ nI n = -1 := by
  intro h1
  have h2 := nI_toInt h
  rw [h1, show (-1 : Int32).toInt = -1 by decide] at h2
  omega
theorem jI_l {n : Nat} (h : n < 2 ^ 31) : (nI n).toInt64 = lN n := nI_l h
