theorem jTu_2 {f : Nat → Int32} {k : Nat} : ∀ (m j : Nat) (lk : Int32) (ot : Bool) (cd : Int32), (jTu f k m j lk ot cd).2.1 = (ot || jTwo f k m j cd)
  | 0, j, lk, ot, cd => by show ot = (ot || false); rw [Bool.or_false]
  | m + 1, j, lk, ot, cd => by
    rw [jTu_s, jTwo_s, jTu_2 m (j + 1)]
    by_cases h5 : f (k * 28 + 4 + j * 4 + 2) = 5
    · rw [if_pos h5, if_pos h5, if_pos h5]
      by_cases hc : ¬ cd = -1 ∧ ¬ cd = f (k * 28 + 4 + j * 4 + 3)
      · rw [if_pos hc, decide_eq_false hc.1, decide_eq_false hc.2]; simp
      · rw [if_neg hc]
        have hb : (!decide (cd = -1) && !decide (cd = f (k * 28 + 4 + j * 4 + 3))) = false := by
          cases hz : (!decide (cd = -1) && !decide (cd = f (k * 28 + 4 + j * 4 + 3))) with
          | false => rfl
          | true => exact absurd (by simpa using hz) hc
        rw [hb, Bool.or_false]
    · rw [if_neg h5, if_neg h5, if_neg h5]
theorem jTu_1 {f : Nat → Int32} {k : Nat} : ∀ (m j : Nat) (lk : Int32) (ot : Bool) (cd : Int32), (∀ i, j ≤ i → i < j + m → jOkS f k i) → (jTu f k m j lk ot cd).1 = jLk f k m j lk
  | 0, j, lk, ot, cd, _ => rfl
  | m + 1, j, lk, ot, cd, hs => by
    have hwi := (hs j (Nat.le_refl _) (by omega)).2.1
    rw [jTu_s, jLk_s, jTu_1 m (j + 1) _ _ _ (fun i h1 h2 => hs i (by omega) (by omega))]
    by_cases hl : f (k * 28 + 4 + j * 4 + 0) = 0
    · rw [if_pos hl, if_neg (fun z => z.1 hl)]
    · rw [if_neg hl]
      by_cases hw : f (k * 28 + 4 + j * 4 + 1) < 1000
      · rw [if_pos hw, if_neg (fun z => by have z2 := z.2; rw [jIsV_w hw] at z2; cases z2)]
      · obtain ⟨v, hv4, hv⟩ := jwi hwi hw
        rw [if_neg hw, if_pos ⟨hl, jIsV_t hv hv4⟩]
theorem jand3 : ∀ l w x : Fin 16, (nI l.1 &&& nI (w.1 + 16 * x.1) = 0) ↔ (nI l.1 &&& nI w.1 = 0) := by decide +kernel
theorem jEqT {n k a : Nat} {f : Nat → Int32} (hok : jOk n f) (hk : k < n) (ha : f (k * 28 + 3) = nI a) (ha6 : a ≤ 6) : jAT f k a = jRT f k a := by
  have hs := jOk_st hok hk ha ha6
  have h2 := jTu_2 (f := f) (k := k) a 0 0 false (-1)
  have h1 := jTu_1 (f := f) (k := k) a 0 0 false (-1) (fun i _ hi => hs i (by omega))
  have hm := jMk_all (f := f) (k := k) a 0 0 0 0 jMk_0 (fun i _ hi => hs i (by omega))
  rw [Bool.false_or] at h2
  have hz : (jLk f k a 0 0 &&& jEf f k a 0 0 = 0) ↔ (jLk f k a 0 0 &&& jWr f k a 0 0 = 0) := by
    obtain ⟨w, x, l, p1, p2, p3, -⟩ := hm
    rw [p1, p2, p3]
    exact jand3 l w x
  unfold jAT jRT
  rw [h2, h1]
  by_cases c1 : jHas f k 4 a 0 = true
  · rw [if_pos c1, if_pos c1]
  rw [if_neg c1, if_neg c1]
  by_cases c2 : jTwo f k a 0 (-1) = true
  · rw [if_pos c2, if_pos c2]
  rw [if_neg c2, if_neg c2]
  by_cases c3 : jHas f k 0 a 0 = true ∨ jHas f k 1 a 0 = true
  · rw [if_pos (show jHas f k 0 (a - 0) 0 = true ∨ jHas f k 1 (a - 0) 0 = true from c3), if_pos c3]
  rw [if_neg (show ¬ (jHas f k 0 (a - 0) 0 = true ∨ jHas f k 1 (a - 0) 0 = true) from c3), if_neg c3]
  by_cases c4 : jLk f k a 0 0 &&& jWr f k a 0 0 = 0
  · rw [if_neg (show ¬ ¬ jLk f k (a - 0) 0 0 &&& jWr f k (a - 0) 0 0 = 0 from fun z => z c4), if_pos (show jLk f k a 0 0 &&& jEf f k (a - 0) 0 0 = 0 from hz.mpr c4)]
  · rw [if_pos (show ¬ jLk f k (a - 0) 0 0 &&& jWr f k (a - 0) 0 0 = 0 from c4), if_neg (show ¬ jLk f k a 0 0 &&& jEf f k (a - 0) 0 0 = 0 from fun z => c4 (hz.mp z))]
