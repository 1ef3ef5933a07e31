theorem jIsV_w {w : Int32} (h : w < 1000) : jIsV w = false := by rw [jIsV, decide_eq_true h]; rfl
theorem jIsV_t {w : Int32} {v : Nat} (h : w = nI (1000 + v)) (hv : v < 4) : jIsV w = true := by
  rw [jIsV, decide_eq_false, decide_eq_false]
  · rfl
  · rw [h, show (1004 : Int32) = nI 1004 from rfl, nI_leI (by omega) (by omega)]; omega
  · rw [h, show (1000 : Int32) = nI 1000 from rfl, nI_ltI (by omega) (by omega)]; omega
theorem jwi {w : Int32} (h : (-100 ≤ w ∧ w ≤ 100) ∨ ∃ v, v < 4 ∧ w = nI (1000 + v)) (hn : ¬ w < 1000) : ∃ v, v < 4 ∧ w = nI (1000 + v) := by
  rcases h with h | h
  · refine absurd ?_ hn
    have h2 := Int32.le_iff_toInt_le.mp h.2
    rw [Int32.lt_iff_toInt_lt]
    rw [show (100 : Int32).toInt = 100 from by decide] at h2
    rw [show (1000 : Int32).toInt = 1000 from by decide]
    omega
  · exact h
theorem jlo5 {x : Int32} (h : ∃ v, v ≤ 4 ∧ x = nI v) : x = 0 ∨ x = 1 ∨ x = 2 ∨ x = 3 ∨ x = 4 := by
  obtain ⟨v, hv, rfl⟩ := h
  rcases (show v = 0 ∨ v = 1 ∨ v = 2 ∨ v = 3 ∨ v = 4 by omega) with h | h | h | h | h <;> subst h
  · exact Or.inl rfl
  · exact Or.inr (Or.inl rfl)
  · exact Or.inr (Or.inr (Or.inl rfl))
  · exact Or.inr (Or.inr (Or.inr (Or.inl rfl)))
  · exact Or.inr (Or.inr (Or.inr (Or.inr rfl)))
theorem jcode {o : Nat} (h : o ≤ 100) : ¬ nI o = -1 := fun e => by
  have h1 := congrArg Int32.toInt e
  rw [nI_toInt (by omega), show (-1 : Int32).toInt = -1 from by decide] at h1
  omega
theorem jd4 {x : Int32} {d : Nat} (h : x = nI d) (h5 : d ≤ 5) (n4 : ¬ x = 4) (n5 : ¬ x = 5) : d < 4 := by
  rcases (show d < 4 ∨ d = 4 ∨ d = 5 by omega) with h1 | h1 | h1
  · exact h1
  · exact absurd (by rw [h, h1]; rfl) n4
  · exact absurd (by rw [h, h1]; rfl) n5
theorem jm_lt1 {x : Nat} (hx : x < 2 ^ 30) : nI x - 1 < 0 ↔ x = 0 := jm_lt0 hx
theorem jReach_ge (f : Nat → Int32) (k : Nat) : ∀ m j, j ≤ jReach f k m j
  | 0, j => Nat.le_refl _
  | m + 1, j => by
    rw [jReach_s]
    split
    · omega
    · have := jReach_ge f k m (j + 1)
      omega
/-- a loop's cells say whether it is well -/
theorem jOkL_cong {f f' : Nat → Int32} {k : Nat} (h : ∀ i, k * 28 ≤ i → i < k * 28 + 28 → f i = f' i) (hf : jOkL f k) : jOkL f' k := by
  obtain ⟨u, w, a, h1, h2, h3, h4, h5, h6, h7, h8⟩ := hf
  refine ⟨u, w, a, h1, h2, h3, by rw [← h _ (by omega) (by omega)]; exact h4, by rw [← h _ (by omega) (by omega)]; exact h5, by rw [← h _ (by omega) (by omega)]; exact h6, by rw [← h _ (by omega) (by omega)]; exact h7, fun j hj => ?_⟩
  obtain ⟨g1, g2, d, o, g3, g4, g5, g6⟩ := h8 j hj
  refine ⟨by rw [← h _ (by omega) (by omega)]; exact g1, by rw [← h _ (by omega) (by omega)]; exact g2, d, o, g3, by rw [← h _ (by omega) (by omega)]; exact g4, by rw [← h _ (by omega) (by omega)]; exact g5, g6⟩
theorem jd45 {x : Int32} {d : Nat} (h : x = nI d) (h5 : d ≤ 5) (n4 : ¬ x < 4) : x = 4 ∨ x = 5 := by
  rw [h, show (4 : Int32) = nI 4 from rfl, nI_ltI (by omega) (by decide)] at n4
  rcases (show d = 4 ∨ d = 5 by omega) with h1 | h1
  · exact Or.inl (by rw [h, h1]; rfl)
  · exact Or.inr (by rw [h, h1]; rfl)
theorem jd45n {x : Int32} (n4 : x < 4) : ¬ (x = 4 ∨ x = 5) := by
  rintro (h | h)
  · rw [h] at n4; exact absurd n4 (by decide)
  · rw [h] at n4; exact absurd n4 (by decide)
