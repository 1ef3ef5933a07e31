/-! the two sides' masks -/
theorem jmk_lo : ∀ w : Fin 16, ∀ x : Fin 16, nI (w.1 + 16 * x.1) &&& 15 = nI w.1 := by decide +kernel
theorem jmk_hi : ∀ w : Fin 16, ∀ x : Fin 16, (nI (w.1 + 16 * x.1) ||| (nI (w.1 + 16 * x.1) >>> ((4 : Int32) &&& 31))) &&& 15 = nI (w.1 ||| x.1) := by decide +kernel
theorem jmk_wr : ∀ w : Fin 16, ∀ x : Fin 16, ∀ o : Fin 4, nI (w.1 + 16 * x.1) ||| (1 <<< ((nI o.1 - nI o.1 / 4 * 4) &&& 31)) = nI ((w.1 ||| 2 ^ o.1) + 16 * x.1) := by decide +kernel
theorem jmk_rd : ∀ w : Fin 16, ∀ x : Fin 16, ∀ o : Fin 4, nI (w.1 + 16 * x.1) ||| ((16 : Int32) * (1 <<< ((nI o.1 - nI o.1 / 4 * 4) &&& 31))) = nI (w.1 + 16 * (x.1 ||| 2 ^ o.1)) := by decide +kernel
theorem jmk_lk : ∀ w : Fin 16, ∀ x : Fin 16, ∀ v : Fin 4, nI (w.1 + 16 * x.1) ||| (16 <<< ((nI (1000 + v.1) - 1000) &&& 31)) = nI (w.1 + 16 * (x.1 ||| 2 ^ v.1)) := by decide +kernel
theorem jmk_w1 : ∀ w : Fin 16, ∀ o : Fin 4, nI w.1 ||| (1 <<< (nI o.1 &&& 31)) = nI (w.1 ||| 2 ^ o.1) := by decide +kernel
theorem jmk_l1 : ∀ l : Fin 16, ∀ v : Fin 4, nI l.1 ||| (1 <<< ((nI (1000 + v.1) - 1000) &&& 31)) = nI (l.1 ||| 2 ^ v.1) := by decide +kernel
theorem jmk_b : ∀ w : Fin 16, ∀ o : Fin 4, w.1 ||| 2 ^ o.1 < 16 := by decide +kernel
def jMq (w x l : Nat) : Bool := (l ||| x == x) && (x ||| (l ||| w) == l ||| w)
theorem jMq_w : ∀ w x l : Fin 16, ∀ o : Fin 4, jMq w.1 x.1 l.1 = true → jMq (w.1 ||| 2 ^ o.1) x.1 l.1 = true := by decide +kernel
theorem jMq_c : ∀ w x l : Fin 16, ∀ o : Fin 4, jMq w.1 x.1 l.1 = true → jMq (w.1 ||| 2 ^ o.1) (x.1 ||| 2 ^ o.1) l.1 = true := by decide +kernel
theorem jMq_l : ∀ w x l : Fin 16, ∀ v : Fin 4, jMq w.1 x.1 l.1 = true → jMq w.1 (x.1 ||| 2 ^ v.1) (l.1 ||| 2 ^ v.1) = true := by decide +kernel
theorem jMq_s : ∀ w x l : Fin 16, jMq w.1 x.1 l.1 = true → w.1 ||| x.1 = w.1 ||| l.1 := by decide +kernel
/-- the reference's mask e, the class's written ones a and looked-with ones b -/
def jMk (e a b : Int32) : Prop := ∃ w x l : Fin 16, e = nI (w.1 + 16 * x.1) ∧ a = nI w.1 ∧ b = nI l.1 ∧ jMq w.1 x.1 l.1 = true
theorem jMk_0 : jMk 0 0 0 := ⟨0, 0, 0, rfl, rfl, rfl, rfl⟩
theorem jMk_w {e a b : Int32} {o : Nat} (ho : o < 4) (h : jMk e a b) : jMk (e ||| jBit (nI o)) (a ||| (1 <<< (nI o &&& 31))) b := by
  obtain ⟨w, x, l, h1, h2, h3, h4⟩ := h
  refine ⟨⟨w.1 ||| 2 ^ o, jmk_b w ⟨o, ho⟩⟩, x, l, ?_, ?_, h3, jMq_w w x l ⟨o, ho⟩ h4⟩
  · rw [h1]; exact jmk_wr w x ⟨o, ho⟩
  · rw [h2]; exact jmk_w1 w ⟨o, ho⟩
theorem jMk_c {e a b : Int32} {o : Nat} (ho : o < 4) (h : jMk e a b) : jMk ((e ||| jBit (nI o)) ||| 16 * jBit (nI o)) (a ||| (1 <<< (nI o &&& 31))) b := by
  obtain ⟨w, x, l, h1, h2, h3, h4⟩ := h
  refine ⟨⟨w.1 ||| 2 ^ o, jmk_b w ⟨o, ho⟩⟩, ⟨x.1 ||| 2 ^ o, jmk_b x ⟨o, ho⟩⟩, l, ?_, ?_, h3, jMq_c w x l ⟨o, ho⟩ h4⟩
  · rw [h1]
    have e1 := jmk_wr w x ⟨o, ho⟩
    rw [show nI (w.1 + 16 * x.1) ||| jBit (nI o) = nI ((w.1 ||| 2 ^ o) + 16 * x.1) from e1]
    exact jmk_rd ⟨w.1 ||| 2 ^ o, jmk_b w ⟨o, ho⟩⟩ x ⟨o, ho⟩
  · rw [h2]; exact jmk_w1 w ⟨o, ho⟩
theorem jMk_l {e a b : Int32} {v : Nat} (hv : v < 4) (h : jMk e a b) : jMk (e ||| 16 <<< ((nI (1000 + v) - 1000) &&& 31)) a (b ||| (1 <<< ((nI (1000 + v) - 1000) &&& 31))) := by
  obtain ⟨w, x, l, h1, h2, h3, h4⟩ := h
  refine ⟨w, ⟨x.1 ||| 2 ^ v, jmk_b x ⟨v, hv⟩⟩, ⟨l.1 ||| 2 ^ v, jmk_b l ⟨v, hv⟩⟩, ?_, h2, ?_, jMq_l w x l ⟨v, hv⟩ h4⟩
  · rw [h1]; exact jmk_lk w x ⟨v, hv⟩
  · rw [h3]; exact jmk_l1 l ⟨v, hv⟩
