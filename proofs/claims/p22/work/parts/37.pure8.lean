/-! the next row of digits is that of the next number -/
theorem jdg_x {v x k : Nat} (hv : 1 ≤ v) (h : (x + 1) % v ^ k = 0) : ∃ y, x + 1 = v ^ k * (y + 1) ∧ x / v ^ k = y ∧ (x + 1) / v ^ k = y + 1 := by
  have hp : 0 < v ^ k := Nat.pow_pos hv
  obtain ⟨z, hz⟩ := Nat.dvd_of_mod_eq_zero h
  have hz0 : z ≠ 0 := fun e => by rw [e, Nat.mul_zero] at hz; omega
  obtain ⟨y, rfl⟩ : ∃ y, z = y + 1 := ⟨z - 1, by omega⟩
  refine ⟨y, hz, ?_, ?_⟩
  · have e1 : x = v ^ k * y + (v ^ k - 1) := by rw [Nat.mul_add, Nat.mul_one] at hz; omega
    rw [e1, Nat.mul_add_div hp, Nat.div_eq_of_lt (by omega), Nat.add_zero]
  · rw [hz, Nat.mul_div_cancel_left _ hp]
theorem jdg_lo {v x k e : Nat} (hv : 1 ≤ v) (h : (x + 1) % v ^ k = 0) (he : e < k) : (x + 1) / v ^ e % v = 0 := by
  obtain ⟨y, hz, -, -⟩ := jdg_x hv h
  obtain ⟨t, rfl⟩ : ∃ t, k = e + (1 + t) := ⟨k - e - 1, by omega⟩
  rw [hz, Nat.pow_add, Nat.pow_add, Nat.pow_one, Nat.mul_assoc, Nat.mul_div_cancel_left _ (Nat.pow_pos hv), Nat.mul_assoc, Nat.mul_mod_right]
theorem jdg_at {v x k : Nat} (hv : 1 ≤ v) (h : (x + 1) % v ^ k = 0) (hd : x / v ^ k % v < v - 1) : (x + 1) / v ^ k % v = x / v ^ k % v + 1 := by
  obtain ⟨y, hz, h1, h2⟩ := jdg_x hv h
  rw [h1] at hd ⊢
  rw [h2, Nat.add_mod, Nat.mod_eq_of_lt (a := 1) (by omega), Nat.mod_eq_of_lt (by omega)]
theorem jdg_hi {v x k e : Nat} (hv : 1 ≤ v) (h : (x + 1) % v ^ k = 0) (hd : x / v ^ k % v < v - 1) (he : k < e) : (x + 1) / v ^ e = x / v ^ e := by
  obtain ⟨y, hz, h1, h2⟩ := jdg_x hv h
  obtain ⟨t, rfl⟩ : ∃ t, e = k + (1 + t) := ⟨e - k - 1, by omega⟩
  rw [Nat.pow_add, Nat.pow_add, Nat.pow_one, ← Nat.div_div_eq_div_mul, ← Nat.div_div_eq_div_mul, ← Nat.div_div_eq_div_mul, ← Nat.div_div_eq_div_mul, h1, h2]
  rw [h1] at hd
  have hy : (y + 1) / v = y / v := by
    have e1 := Nat.div_add_mod y v
    rw [show y + 1 = v * (y / v) + (y % v + 1) by omega, Nat.mul_add_div (by omega), Nat.div_eq_of_lt (show y % v + 1 < v by omega), Nat.add_zero]
  rw [hy]
theorem jdg_up {v x k : Nat} (hv : 1 ≤ v) (h : (x + 1) % v ^ k = 0) (hd : ¬ x / v ^ k % v < v - 1) : (x + 1) % v ^ (k + 1) = 0 := by
  obtain ⟨y, hz, h1, h2⟩ := jdg_x hv h
  rw [h1] at hd
  have hl : y % v < v := Nat.mod_lt _ (by omega)
  have e1 := Nat.div_add_mod y v
  have e2 : y + 1 = v * (y / v + 1) := by rw [Nat.mul_add, Nat.mul_one]; omega
  rw [hz, e2, Nat.pow_succ, ← Nat.mul_assoc, Nat.mul_mod_right]
theorem jInc_at {d v x : Nat} (hv1 : 1 ≤ v) (hv : v ≤ 4) (hx : x + 1 < v ^ d) : ∀ (i : Nat) (h : Nat → Int64), i ≤ d → (x + 1) % v ^ (d - i) = 0 → (∀ p, h p = if p < i then lN (x / v ^ (d - 1 - p) % v) else 0) → jInc (nI (v - 1)).toInt64 i h = jCs d v (x + 1)
  | 0, h, hi, hm, hh => by
    exfalso
    rw [Nat.sub_zero, Nat.mod_eq_of_lt hx] at hm
    omega
  | i + 1, h, hi, hm, hh => by
    have hl : x / v ^ (d - 1 - i) % v < v := Nat.mod_lt _ (by omega)
    have e0 : h i = lN (x / v ^ (d - 1 - i) % v) := by rw [hh i, if_pos (by omega)]
    have eg : (nI (v - 1)).toInt64 = lN (v - 1) := jI_l (by omega)
    have ek : d - (i + 1) = d - 1 - i := by omega
    rw [ek] at hm
    have hle : lN (v - 1) ≤ lN (x / v ^ (d - 1 - i) % v) ↔ v - 1 ≤ x / v ^ (d - 1 - i) % v := lN_le (by omega) (by omega)
    rw [jInc_s, e0, eg]
    by_cases hc : v - 1 ≤ x / v ^ (d - 1 - i) % v
    · rw [if_pos (hle.mpr hc), ← eg]
      refine jInc_at hv1 hv hx i _ (by omega) ?_ (fun p => ?_)
      · have := jdg_up hv1 hm (by omega)
        rw [show d - i = d - 1 - i + 1 by omega]
        exact this
      · unfold vp_updL
        by_cases hp : p = i
        · rw [if_pos hp, if_neg (by omega)]
        · rw [if_neg hp, hh p]
          by_cases hp2 : p < i
          · rw [if_pos (by omega), if_pos hp2]
          · rw [if_neg (by omega), if_neg hp2]
    · rw [if_neg (fun z => hc (hle.mp z))]
      funext p
      unfold vp_updL jCs jLy
      by_cases hp : p = i
      · subst hp
        rw [if_pos rfl, if_pos (by omega), show d - 1 - p = d - 1 - p from rfl, jdg_at hv1 hm (by omega), lN_1]
      · rw [if_neg hp, hh p]
        by_cases hp2 : p < i + 1
        · rw [if_pos hp2, if_pos (by omega), jdg_hi hv1 hm (by omega) (show d - 1 - i < d - 1 - p by omega)]
        · rw [if_neg hp2]
          split
          · rw [jdg_lo hv1 hm (show d - 1 - p < d - 1 - i by omega)]; rfl
          · rfl
theorem jInc_cs {d v x : Nat} (hv1 : 1 ≤ v) (hv : v ≤ 4) (hx : x + 1 < v ^ d) : jInc (nI (v - 1)).toInt64 d (jCs d v x) = jCs d v (x + 1) :=
  jInc_at hv1 hv hx d _ (Nat.le_refl _) (by rw [Nat.sub_self, Nat.pow_zero, Nat.mod_one]) (fun p => by
    unfold jCs jLy
    by_cases hp : p < d
    · rw [if_pos ⟨Nat.zero_le _, hp⟩, if_pos hp]
    · rw [if_neg (fun z => hp z.2), if_neg hp])
