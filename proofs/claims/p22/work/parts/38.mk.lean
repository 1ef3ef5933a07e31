/-! masks of four bits; steps of a program that is well -/
theorem jmk_w1 : ∀ w : Fin 16, ∀ o : Fin 4, nI w.1 ||| (1 <<< (nI o.1 &&& 31)) = nI (w.1 ||| 2 ^ o.1) := by decide +kernel
theorem jmk_l1 : ∀ l : Fin 16, ∀ v : Fin 4, nI l.1 ||| (1 <<< ((nI (1000 + v.1) - 1000) &&& 31)) = nI (l.1 ||| 2 ^ v.1) := by decide +kernel
theorem jmk_b : ∀ w : Fin 16, ∀ o : Fin 4, w.1 ||| 2 ^ o.1 < 16 := by decide +kernel
theorem jap0 : ∀ w1 s2 : Fin 16, (nI w1.1 &&& nI s2.1 = 0) ↔ (w1.1 &&& s2.1 = 0) := by decide +kernel
theorem jap2 : ∀ w l : Fin 16, w.1 ||| l.1 < 16 := by decide +kernel
theorem jap3 : ∀ w l : Fin 16, nI w.1 ||| nI l.1 = nI (w.1 ||| l.1) := by decide +kernel
theorem jOk_st {n k a : Nat} {f : Nat → Int32} (hok : jOk n f) (hk : k < n) (ha : f (k * 28 + 3) = nI a) (ha6 : a ≤ 6) : ∀ j, j < a → jOkS f k j := by
  obtain ⟨u, w, a', h1, h2, h3, h4, h5, h6, h7, h8⟩ := hok.2 k hk
  obtain rfl : a' = a := (nI_eq (by omega) (by omega)).mp (h7.symm.trans ha)
  exact h8
