/-! the class's reasons are the reference's -/
theorem jOk_st {n k a : Nat} {f : Nat → Int32} (hok : jOk n f) (hk : k < n) (ha : f (k * 28 + 3) = nI a) (ha6 : a ≤ 6) : ∀ j, j < a → jOkS f k j := by
  obtain ⟨u, w, a', h1, h2, h3, h4, h5, h6, h7, h8⟩ := hok.2 k hk
  obtain rfl : a' = a := (nI_eq (by omega) (by omega)).mp (h7.symm.trans ha)
  exact h8
theorem jParts_eq {f : Nat → Int32} {k e o st so : Nat} (h1 : ∀ j, j < e → jOkS f k j) (h2 : ∀ j, j < so → jOkS f o j) : jParts f k e o st so = if jHas f k 5 (e - 0) 0 = true ∧ jHas f o 5 (so - st) st = true then 3 else if jApt (jEf f k (e - 0) 0 0) (jEf f o (so - st) st 0) = false then 4 else 0 := by
  have h := jApt_eq (jMk_all (f := f) (k := k) (e - 0) 0 0 0 0 jMk_0 (fun i _ hi => h1 i (by omega))) (jMk_all (f := f) (k := o) (so - st) st 0 0 0 jMk_0 (fun i _ hi => h2 i (by omega)))
  unfold jParts
  by_cases h5 : jHas f k 5 (e - 0) 0 = true ∧ jHas f o 5 (so - st) st = true
  · rw [if_pos h5, if_pos h5]
  · rw [if_neg h5, if_neg h5]
    cases hA : jApt (jEf f k (e - 0) 0 0) (jEf f o (so - st) st 0) with
    | true => rw [if_pos (h.mp hA), if_neg (by decide)]
    | false => rw [if_neg (fun z => by rw [h.mpr z] at hA; cases hA), if_pos rfl]
theorem jEqJ_ok : jEqJ := by
  intro n f hok k a b hk ha ha6 hb hb6
  have hp := jParts_eq (k := k) (e := a) (o := k + 1) (st := 0) (so := b) (jOk_st hok (by omega) ha ha6) (jOk_st hok hk hb hb6)
  unfold jAJ jRJ
  rw [hp]
  by_cases h1 : jSame f k = false
  · rw [if_pos h1, if_pos h1]
  rw [if_neg h1, if_neg h1]
  by_cases h2 : jHas f k 4 a 0 = true ∨ jHas f (k + 1) 4 b 0 = true
  · rw [if_pos h2, if_pos h2]
  rw [if_neg h2, if_neg h2]
  by_cases h3 : jHas f k 5 a 0 = true ∧ jHas f (k + 1) 5 b 0 = true
  · rw [if_pos (show jHas f k 5 (a - 0) 0 = true ∧ jHas f (k + 1) 5 (b - 0) 0 = true from h3), if_pos h3, if_pos (by decide)]
  rw [if_neg (show ¬ (jHas f k 5 (a - 0) 0 = true ∧ jHas f (k + 1) 5 (b - 0) 0 = true) from h3), if_neg h3]
  by_cases h4 : jApt (jEf f k (a - 0) 0 0) (jEf f (k + 1) (b - 0) 0 0) = false
  · rw [if_pos h4, if_pos (by decide), if_pos h4]
  · rw [if_neg h4, if_neg (by decide), if_neg h4]
theorem jEqS {n k a b : Nat} {f : Nat → Int32} (hok : jOk n f) (hk : k + 1 < n) (ha : f (k * 28 + 3) = nI a) (ha6 : a ≤ 6) (hb : f ((k + 1) * 28 + 3) = nI b) (hb6 : b ≤ 6) : jParts f k a (k + 1) 0 b = jRS f k a b := by
  rw [jParts_eq (jOk_st hok (by omega) ha ha6) (jOk_st hok hk hb hb6)]
  rfl
theorem jEqD {n k i a : Nat} {f : Nat → Int32} (hok : jOk n f) (hk : k < n) (ha : f (k * 28 + 3) = nI a) (ha6 : a ≤ 6) (hi : i ≤ a) : jAD f n k i a = jRD f n k i a := by
  have hs := jOk_st hok hk ha ha6
  have hp := jParts_eq (k := k) (e := i) (o := k) (st := i) (so := a) (fun j hj => hs j (by omega)) hs
  have hn : (8 ≤ n) ↔ n = 8 := by have := hok.1; omega
  unfold jAD jRD
  rw [hp]
  by_cases h2 : jHas f k 4 a 0 = true
  · rw [if_pos h2, if_pos h2]
  rw [if_neg h2, if_neg h2]
  by_cases h3 : jHas f k 5 (i - 0) 0 = true ∧ jHas f k 5 (a - i) i = true
  · rw [if_pos h3, if_pos (by decide), if_pos h3]
  rw [if_neg h3, if_neg h3]
  by_cases h4 : jApt (jEf f k (i - 0) 0 0) (jEf f k (a - i) i 0) = false
  · rw [if_pos h4, if_pos (by decide), if_pos h4]
  · rw [if_neg h4, if_neg (by decide), if_neg h4]
    by_cases h5 : n = 8
    · rw [if_pos h5, if_pos (hn.mpr h5)]
    · rw [if_neg h5, if_neg (fun z => h5 (hn.mp z))]
theorem jEqP {n k w a v u : Nat} {f : Nat → Int32} (hok : jOk n f) (hv5 : v ≤ 5) : jAP f n k w a v u = jRP f n k w a v u := by
  have hn : (8 ≤ n) ↔ n = 8 := by have := hok.1; omega
  have hv : (5 < v + 1) ↔ v = 5 := by omega
  unfold jAP jRP
  simp only [hn, hv]
