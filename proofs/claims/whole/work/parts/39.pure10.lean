theorem jMk_step {f : Nat → Int32} {k j : Nat} {e a b : Int32} (hs : jOkS f k j) (h : jMk e a b) : jMk (jE3 (f (k * 28 + 4 + j * 4 + 0)) (f (k * 28 + 4 + j * 4 + 1)) (jE2 (f (k * 28 + 4 + j * 4 + 2)) (jBit (f (k * 28 + 4 + j * 4 + 3))) (jE1 (f (k * 28 + 4 + j * 4 + 2)) (jBit (f (k * 28 + 4 + j * 4 + 3))) e))) (if f (k * 28 + 4 + j * 4 + 2) = 4 ∨ f (k * 28 + 4 + j * 4 + 2) = 5 then a else a ||| (1 <<< (f (k * 28 + 4 + j * 4 + 3) &&& 31))) (if ¬ f (k * 28 + 4 + j * 4 + 0) = 0 ∧ jIsV (f (k * 28 + 4 + j * 4 + 1)) = true then b ||| (1 <<< ((f (k * 28 + 4 + j * 4 + 1) - 1000) &&& 31)) else b) := by
  obtain ⟨hlo, hwi, d, o, hd5, hd, ho, hd1, hd2, hd3⟩ := hs
  have h1 : jMk (jE2 (f (k * 28 + 4 + j * 4 + 2)) (jBit (f (k * 28 + 4 + j * 4 + 3))) (jE1 (f (k * 28 + 4 + j * 4 + 2)) (jBit (f (k * 28 + 4 + j * 4 + 3))) e)) (if f (k * 28 + 4 + j * 4 + 2) = 4 ∨ f (k * 28 + 4 + j * 4 + 2) = 5 then a else a ||| (1 <<< (f (k * 28 + 4 + j * 4 + 3) &&& 31))) b := by
    rw [hd, ho]
    unfold jE1 jE2
    rcases (show d = 0 ∨ d = 1 ∨ d = 2 ∨ d = 3 ∨ d = 4 ∨ d = 5 by omega) with rfl | rfl | rfl | rfl | rfl | rfl
    · rw [if_pos (by decide), if_neg (by decide), if_neg (by decide)]; exact jMk_w (hd1 (by decide)) h
    · rw [if_pos (by decide), if_neg (by decide), if_neg (by decide)]; exact jMk_w (hd1 (by decide)) h
    · rw [if_neg (by decide), if_neg (by decide), if_neg (by decide), if_neg (by decide)]; exact jMk_c (hd1 (by decide)) h
    · rw [if_neg (by decide), if_neg (by decide), if_neg (by decide), if_neg (by decide)]; exact jMk_c (hd1 (by decide)) h
    · rw [if_neg (by decide), if_pos (by decide), if_pos (by decide), if_pos (by decide)]; exact h
    · rw [if_neg (by decide), if_pos (by decide), if_pos (by decide), if_pos (by decide)]; exact h
  generalize (if f (k * 28 + 4 + j * 4 + 2) = 4 ∨ f (k * 28 + 4 + j * 4 + 2) = 5 then a else a ||| (1 <<< (f (k * 28 + 4 + j * 4 + 3) &&& 31))) = a9 at h1 ⊢
  unfold jE3
  by_cases hl : f (k * 28 + 4 + j * 4 + 0) = 0
  · rw [if_pos hl, if_neg (fun z => z.1 hl)]; exact h1
  · rw [if_neg hl]
    by_cases hw : f (k * 28 + 4 + j * 4 + 1) < 1000
    · rw [if_pos hw, if_neg (fun z => by have z2 := z.2; rw [jIsV_w hw] at z2; cases z2)]; exact h1
    · obtain ⟨v, hv4, hv⟩ := jwi hwi hw
      rw [if_neg hw, if_pos ⟨hl, jIsV_t hv hv4⟩, hv]
      exact jMk_l hv4 h1
theorem jMk_all {f : Nat → Int32} {k : Nat} : ∀ (m j : Nat) (e a b : Int32), jMk e a b → (∀ i, j ≤ i → i < j + m → jOkS f k i) → jMk (jEf f k m j e) (jWr f k m j a) (jLk f k m j b)
  | 0, _, _, _, _, h, _ => h
  | m + 1, j, e, a, b, h, hs => by
    have h1 := jMk_step (hs j (Nat.le_refl _) (by omega)) h
    have h2 := jMk_all m (j + 1) _ _ _ h1 (fun i hi hi2 => hs i (by omega) (by omega))
    rw [jEf_s, jWr_s, jLk_s]
    split at h2 <;> split at h2 <;> (first | rw [if_pos (by assumption)] | rw [if_neg (by assumption)]) <;> (first | rw [if_pos (by assumption)] | rw [if_neg (by assumption)]) <;> exact h2
theorem jap0 : ∀ w1 s2 : Fin 16, (nI w1.1 &&& nI s2.1 = 0) ↔ (w1.1 &&& s2.1 = 0) := by decide +kernel
theorem jap1 : ∀ w1 l1 w2 l2 : Fin 16, ((w1.1 &&& (w2.1 ||| l2.1) = 0) ∧ (w2.1 &&& (w1.1 ||| l1.1) = 0)) ↔ ((w1.1 &&& (w2.1 ||| l2.1) = 0) ∧ (w2.1 &&& l1.1 = 0)) := by decide +kernel
theorem jap2 : ∀ w l : Fin 16, w.1 ||| l.1 < 16 := by decide +kernel
theorem jap3 : ∀ w l : Fin 16, nI w.1 ||| nI l.1 = nI (w.1 ||| l.1) := by decide +kernel
theorem jap4 : ∀ w : Fin 16, nI w.1 &&& 15 = nI w.1 := by decide +kernel
theorem jap5 {X Y w s : Int32} (hX : X &&& 15 = w) (hY : Y &&& 15 = s) (hw : w &&& 15 = w) : X &&& 15 &&& Y = w &&& s := by
  rw [hX, ← hY, Int32.and_comm Y, ← Int32.and_assoc, hw]
theorem jApt_eq {e1 a1 b1 e2 a2 b2 : Int32} (h1 : jMk e1 a1 b1) (h2 : jMk e2 a2 b2) : jApt e1 e2 = true ↔ (a1 &&& (a2 ||| b2) = 0 ∧ a2 &&& b1 = 0) := by
  obtain ⟨w1, x1, l1, p1, p2, p3, p4⟩ := h1
  obtain ⟨w2, x2, l2, q1, q2, q3, q4⟩ := h2
  have m1 := jmk_lo w1 x1
  have m2 := jmk_lo w2 x2
  have s1 := jmk_hi w1 x1
  have s2 := jmk_hi w2 x2
  rw [← p1] at m1 s1
  rw [← q1] at m2 s2
  rw [jMq_s w1 x1 l1 p4] at s1
  rw [jMq_s w2 x2 l2 q4] at s2
  unfold jApt
  rw [Bool.and_eq_true, decide_eq_true_eq, decide_eq_true_eq, jap5 m1 s2 (jap4 w1), jap5 m2 s1 (jap4 w2), p2, p3, q2, q3, jap3, jap0 w1 ⟨_, jap2 w2 l2⟩, jap0 w2 ⟨_, jap2 w1 l1⟩, jap0 w2 l1]
  exact jap1 w1 l1 w2 l2
