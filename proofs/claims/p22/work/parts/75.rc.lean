/-! LAW 5: reason and change, whatever the change; the compares of exits -/
theorem qDcm : ∀ d : Fin 5, ∀ q : Fin 17, q.1 ≤ 2 ^ d.1 → Op.cmpValue (FP.dcmp (FP.ddiv (FP.i2d (nI q.1)) (FP.i2d (nI (2 ^ d.1)))) (FP.ddiv (FP.i2d (nI q.1)) (FP.i2d (nI (2 ^ d.1))))) .l = 0 ∧ (0 < q.1 → ¬ Op.cmpValue (FP.dcmp (FP.ddiv (FP.i2d (nI q.1)) (FP.i2d (nI (2 ^ d.1)))) FP.dconst0) .l ≤ 0) := by decide +kernel
/-- what may be asked of a change -/
def qArgs (n : Nat) (f : Nat → Int32) (ch k w : Nat) : Prop := (ch = 0 ∧ k + 1 < n ∧ w = 0) ∨ (ch = 4 ∧ k + 1 < n ∧ w = 0) ∨ (ch = 1 ∧ k < n ∧ 1 ≤ w ∧ ∃ a, f (k * 28 + 3) = nI a ∧ a ≤ 6 ∧ w < a) ∨ (ch = 2 ∧ k < n ∧ 1 ≤ w ∧ w ≤ 10) ∨ (ch = 3 ∧ k < n ∧ w = 0) ∨ (ch = 5 ∧ k = 0 ∧ w = 0)
abbrev rmR : Room := { frames := 9, cells := 0, slots := 0, locals := 223 }
abbrev rmC : Room := { frames := 9, cells := 2, slots := 226, locals := 223 }
theorem q_rc {l : Launch} {g : jG} {x0 N : Nat} {pn : Nat → Nat} {pf : Nat → Nat → Int32} {len : Nat} {row vv : Nat → Int64} {lk : Int32} (hok : jMok N pn pf len) {i : Nat} (hi : i < N) {ch k w : Nat} (h : qArgs (pn i) (pf i) ch k w) : ∃ rz : Int32, (∀ W, jCW g x0 N pn pf len row vv lk W → jO l yX4_reason wsX4_reason rmR g [.ref x0, .int (nI i), .int (nI ch), .int (nI k), .int (nI w)] W (jOi rz) (jCW g x0 N pn pf len row vv lk)) ∧ (rz = 0 → N < 10 → ∃ (n' : Nat) (f' : Nat → Int32), jOk n' f' ∧ (∀ d, (ch = 2 → d = w) → qSame (pn i) (pf i) n' f' d) ∧ (ch = 5 → ∀ d v m, jCo false (jKx (pn i) (pf i) d v) m 0 0 = jCo false (jKx n' f' d v) m 0 0) ∧ ∀ W, jCW g x0 N pn pf len row vv lk W → jO l yX4_change wsX4_change rmC g [.ref x0, .int (nI i), .int (nI ch), .int (nI k), .int (nI w)] W (jOi (nI N)) (jCW g x0 (N + 1) (up1 pn N n') (up1 pf N f') len row vv lk)) := by
  have hP := hok.2.2.1 i hi
  rcases h with ⟨rfl, hj, rfl⟩ | ⟨rfl, hj, rfl⟩ | ⟨rfl, hj, hw1, a, ha, ha6, hwa⟩ | ⟨rfl, hj, hw1, hw2⟩ | ⟨rfl, hj, rfl⟩ | ⟨rfl, rfl, rfl⟩
  · obtain ⟨u, v, a, hu5, hv5, ha6, hu, hv, -, ha, -⟩ := hP.2 k (by omega)
    obtain ⟨u2, v2, b, -, -, hb6, -, -, -, hb, -⟩ := hP.2 (k + 1) hj
    refine ⟨jAJ (pf i) k a b, fun W hc => q_reason_0 hok hc hi hj ha ha6 hb hb6, fun hz hN9 => ?_⟩
    have hab := (qJoinC (len := 0) hP hj ha ha6 hb hb6 hz).1
    exact ⟨pn i - 1, jJn (pn i) (pf i) k a b, jJn_ok hP hj ha hb hab, fun d _ => (qJoinC hP hj ha ha6 hb hb6 hz).2, fun z => absurd z (by decide), fun W hc => q_change_0 hok hc hN9 hi hj ha ha6 hb hb6 hz hab⟩
  · obtain ⟨u, v, a, hu5, hv5, ha6, hu, hv, -, ha, -⟩ := hP.2 k (by omega)
    obtain ⟨u2, v2, b, -, -, hb6, -, -, -, hb, -⟩ := hP.2 (k + 1) hj
    refine ⟨jParts (pf i) k a (k + 1) 0 b, fun W hc => q_reason_4 hok hc hi hj ha ha6 hb hb6, fun hz hN9 => ?_⟩
    exact ⟨pn i, _, jOk_swap hP hj, fun d _ => qSwap hP hj ha ha6 hb hb6 hz, fun z => absurd z (by decide), fun W hc => q_change_4 hok hc hN9 hi hj ha ha6 hb hb6 hz⟩
  · refine ⟨jAD (pf i) (pn i) k w a, fun W hc => q_reason_1 hok hc hi hj ha ha6 hw1 hwa, fun hz hN9 => ?_⟩
    have hn8 := (qDivide (len := 0) hP hj ha ha6 hw1 hwa hz).1
    exact ⟨pn i + 1, qDv (pn i) (pf i) k w a, jOk_div hP hj hn8 ha ha6 hwa, fun d _ => (qDivide hP hj ha ha6 hw1 hwa hz).2, fun z => absurd z (by decide), fun W hc => q_change_1 hok hc hN9 hi hj ha ha6 hw1 hwa hz hn8⟩
  · obtain ⟨v, u, a, hv5, hu5, ha6, hv, hu, -, ha, -⟩ := hP.2 k hj
    refine ⟨jAP (pf i) (pn i) k w a v u, fun W hc => q_reason_2 hok hc hi hj ha ha6 hw1 hw2 hv hv5 hu hu5, fun hz hN9 => ?_⟩
    obtain ⟨hn8, hvw, h5, h6, hs⟩ := qPeelC hP hj ha ha6 hw1 hv hv5 hu hu5 hz
    exact ⟨pn i + 1, qPl (pn i) (pf i) k w v, jOk_peel hP hj hn8 h5 h6, fun d hd => by rw [hd rfl]; exact hs, fun z => absurd z (by decide), fun W hc => q_change_2 hok hc hN9 hi hj ha ha6 hw1 hw2 hv hv5 hu hu5 hz hn8 hvw⟩
  · obtain ⟨v, u, a, hv5, hu5, ha6, hv, hu, -, ha, -⟩ := hP.2 k hj
    refine ⟨jAT (pf i) k a, fun W hc => q_reason_3 hok hc hi hj ha ha6, fun hz hN9 => ?_⟩
    exact ⟨pn i, _, jOk_turn hP, fun d _ => qTurnC hP hj ha ha6 hz, fun z => absurd z (by decide), fun W hc => q_change_3 hok hc hN9 hi hj ha ha6 hz⟩
  · refine ⟨0, fun W hc => q_reason_5 hok hc hi, fun hz hN9 => ?_⟩
    exact ⟨_, _, jOk_strip _ _ _ hP (Nat.le_refl _), fun d _ => qStripC hP, fun _ d v m => qCostS hP false, fun W hc => q_change_5 hok hc hN9 hi⟩
