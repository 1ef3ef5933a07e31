/-! every change keeps a program well -/
theorem jBt_5 {x : Int32} (h : jBt x 0 5 = true) : ∃ v, v ≤ 5 ∧ x = nI v := by
  rw [show (5 : Int32) = nI 6 - 1 from by decide] at h
  obtain ⟨k, hk, e⟩ := (jBt_nat (by decide)).mp h
  exact ⟨k, by omega, e⟩
theorem jBt_4 {x : Int32} (h : jBt x 0 4 = true) : ∃ v, v ≤ 4 ∧ x = nI v := by
  rw [show (4 : Int32) = nI 5 - 1 from by decide] at h
  obtain ⟨k, hk, e⟩ := (jBt_nat (by decide)).mp h
  exact ⟨k, by omega, e⟩
theorem jBt_3 {x : Int32} (h : jBt x 0 3 = true) : ∃ v, v < 4 ∧ x = nI v := by
  rw [show (3 : Int32) = nI 4 - 1 from by decide] at h
  obtain ⟨k, hk, e⟩ := (jBt_nat (by decide)).mp h
  exact ⟨k, by omega, e⟩
theorem jBt_100 {x : Int32} (h : jBt x 0 100 = true) : ∃ v, v ≤ 100 ∧ x = nI v := by
  rw [show (100 : Int32) = nI 101 - 1 from by decide] at h
  obtain ⟨k, hk, e⟩ := (jBt_nat (by decide)).mp h
  exact ⟨k, by omega, e⟩
theorem jBt_0 {x : Int32} (h : jBt x 0 0 = true) : x = 0 := by
  rw [show jBt x 0 0 = jBt x 0 (nI 1 - 1) from rfl] at h
  obtain ⟨k, hk, e⟩ := (jBt_nat (by decide)).mp h
  rw [e, show k = 0 by omega]; rfl
theorem jBt_v {x : Int32} (h : jBt x 1000 1003 = true) : ∃ v, v < 4 ∧ x = nI (1000 + v) := by
  obtain ⟨h1, h2⟩ := jBt_iff.mp h
  have h0 : ¬ x < 0 := fun z => h1 (by
    rw [Int32.lt_iff_toInt_lt] at z ⊢
    have e0 : (0 : Int32).toInt = 0 := by decide
    have e1 : (1000 : Int32).toInt = 1000 := by decide
    omega)
  have h3 := jI_nat h0
  have h4 : x.toNatClampNeg < 2 ^ 31 := by have := Int32.toInt_lt x; have h5 : x.toNatClampNeg = x.toInt.toNat := rfl; omega
  rw [h3, show (1000 : Int32) = nI 1000 from rfl, nI_ltI h4 (by decide)] at h1
  rw [h3, show (1003 : Int32) = nI 1003 from rfl, nI_ltI (by decide) h4] at h2
  exact ⟨x.toNatClampNeg - 1000, by omega, by rw [show 1000 + (x.toNatClampNeg - 1000) = x.toNatClampNeg by omega]; exact h3⟩
theorem jBt_p {x : Int32} (h : jBt x (-100) 100 = true) : -100 ≤ x ∧ x ≤ 100 := by
  obtain ⟨h1, h2⟩ := jBt_iff.mp h
  rw [Int32.lt_iff_toInt_lt] at h1 h2
  rw [Int32.le_iff_toInt_le, Int32.le_iff_toInt_le]
  exact ⟨Int.not_lt.mp h1, Int.not_lt.mp h2⟩
theorem jBt_1n {x : Int32} {N : Nat} (hN : N < 2 ^ 30) (h : jBt x 1 (nI N - 1) = true) : ∃ k, 1 ≤ k ∧ k < N ∧ x = nI k := by
  obtain ⟨h1, h2⟩ := jBt_iff.mp h
  have h0 : ¬ x < 0 := fun z => h1 (by
    rw [Int32.lt_iff_toInt_lt] at z ⊢
    have e0 : (0 : Int32).toInt = 0 := by decide
    have e1 : (1 : Int32).toInt = 1 := by decide
    omega)
  obtain ⟨k, hk, e⟩ := (jBt_nat hN).mp (jBt_ff h0 h2)
  refine ⟨k, ?_, hk, e⟩
  rw [e, show (1 : Int32) = nI 1 from rfl, nI_ltI (by omega) (by decide)] at h1
  omega
theorem jOk_add {n : Nat} {f : Nat → Int32} {s e : Int32} {up : Bool} (hok : jOk n f) (hn : n < 8) (h1 : jBt s 0 5 = true) (h2 : jBt e 0 5 = true) : jOk (n + 1) (upd (upd (upd (upd f (n * 28 + 0) s) (n * 28 + 1) e) (n * 28 + 2) (jb up)) (n * 28 + 3) 0) := by
  refine ⟨by omega, fun x hx => ?_⟩
  by_cases e1 : x = n
  · subst e1
    obtain ⟨u, hu, eu⟩ := jBt_5 h1
    obtain ⟨w, hw, ew⟩ := jBt_5 h2
    refine ⟨u, w, 0, hu, hw, by decide, ?_, ?_, ?_, ?_, fun j hj => absurd hj (Nat.not_lt_zero _)⟩
    · unfold upd; rw [if_neg (by omega), if_neg (by omega), if_neg (by omega), if_pos rfl]; exact eu
    · unfold upd; rw [if_neg (by omega), if_neg (by omega), if_pos rfl]; exact ew
    · unfold upd; rw [if_neg (by omega), if_pos rfl]; cases up; exact Or.inl rfl; exact Or.inr rfl
    · unfold upd; rw [if_pos rfl]; rfl
  · refine jOkL_at (k := x) (fun i hi => ?_) (hok.2 x (by omega))
    unfold upd
    rw [if_neg (by omega), if_neg (by omega), if_neg (by omega), if_neg (by omega)]
theorem jOk_stp {n j a : Nat} {f : Nat → Int32} {v0 v1 v2 v3 : Int32} (hok : jOk n f) (hj : j < n) (ha : f (j * 28 + 3) = nI a) (ha6 : a < 6) (hq : ((jBt v0 0 4 && (jBt v1 (-100) 100 || jBt v1 1000 1003)) && (jBt v2 0 5 && jBt v3 0 (if v2 = 4 then 0 else if v2 = 5 then 100 else 3))) = true) : jOk n (upd (upd (upd (upd (upd f (j * 28 + 4 + a * 4 + 0) v0) (j * 28 + 4 + a * 4 + 1) v1) (j * 28 + 4 + a * 4 + 2) v2) (j * 28 + 4 + a * 4 + 3) v3) (j * 28 + 3) (nI (a + 1))) := by
  refine ⟨hok.1, fun x hx => ?_⟩
  by_cases e1 : x = j
  · subst e1
    obtain ⟨u, w, a', g1, g2, g3, g4, g5, g6, g7, g8⟩ := hok.2 x hx
    obtain rfl : a' = a := (nI_eq (by omega) (by omega)).mp (g7.symm.trans ha)
    refine ⟨u, w, a' + 1, g1, g2, by omega, ?_, ?_, ?_, ?_, fun i hi => ?_⟩
    · unfold upd; rw [if_neg (by omega), if_neg (by omega), if_neg (by omega), if_neg (by omega), if_neg (by omega)]; exact g4
    · unfold upd; rw [if_neg (by omega), if_neg (by omega), if_neg (by omega), if_neg (by omega), if_neg (by omega)]; exact g5
    · unfold upd; rw [if_neg (by omega), if_neg (by omega), if_neg (by omega), if_neg (by omega), if_neg (by omega)]; exact g6
    · unfold upd; rw [if_pos rfl]
    · by_cases e2 : i = a'
      · subst e2
        simp only [Bool.and_eq_true, Bool.or_eq_true] at hq
        obtain ⟨⟨h0, h1⟩, h2, h3⟩ := hq
        obtain ⟨d, hd, ed⟩ := jBt_5 h2
        have f0 : upd (upd (upd (upd (upd f (x * 28 + 4 + i * 4 + 0) v0) (x * 28 + 4 + i * 4 + 1) v1) (x * 28 + 4 + i * 4 + 2) v2) (x * 28 + 4 + i * 4 + 3) v3) (x * 28 + 3) (nI (i + 1)) (x * 28 + 4 + i * 4 + 0) = v0 := by unfold upd; rw [if_neg (by omega), if_neg (by omega), if_neg (by omega), if_neg (by omega), if_pos rfl]
        have f1 : upd (upd (upd (upd (upd f (x * 28 + 4 + i * 4 + 0) v0) (x * 28 + 4 + i * 4 + 1) v1) (x * 28 + 4 + i * 4 + 2) v2) (x * 28 + 4 + i * 4 + 3) v3) (x * 28 + 3) (nI (i + 1)) (x * 28 + 4 + i * 4 + 1) = v1 := by unfold upd; rw [if_neg (by omega), if_neg (by omega), if_neg (by omega), if_pos rfl]
        have f2 : upd (upd (upd (upd (upd f (x * 28 + 4 + i * 4 + 0) v0) (x * 28 + 4 + i * 4 + 1) v1) (x * 28 + 4 + i * 4 + 2) v2) (x * 28 + 4 + i * 4 + 3) v3) (x * 28 + 3) (nI (i + 1)) (x * 28 + 4 + i * 4 + 2) = v2 := by unfold upd; rw [if_neg (by omega), if_neg (by omega), if_pos rfl]
        have f3 : upd (upd (upd (upd (upd f (x * 28 + 4 + i * 4 + 0) v0) (x * 28 + 4 + i * 4 + 1) v1) (x * 28 + 4 + i * 4 + 2) v2) (x * 28 + 4 + i * 4 + 3) v3) (x * 28 + 3) (nI (i + 1)) (x * 28 + 4 + i * 4 + 3) = v3 := by unfold upd; rw [if_neg (by omega), if_pos rfl]
        refine ⟨by rw [f0]; exact jBt_4 h0, by rw [f1]; exact h1.elim (fun z => Or.inl (jBt_p z)) (fun z => Or.inr (jBt_v z)), ?_⟩
        rw [f2, f3]
        by_cases e4 : v2 = 4
        · rw [if_pos e4] at h3
          have e5 : d = 4 := (nI_eq (by omega) (by decide)).mp (ed.symm.trans e4)
          exact ⟨d, 0, hd, ed, jBt_0 h3, by omega, fun _ => rfl, by omega⟩
        · rw [if_neg e4] at h3
          by_cases e5 : v2 = 5
          · rw [if_pos e5] at h3
            obtain ⟨o, ho, eo⟩ := jBt_100 h3
            have e6 : d = 5 := (nI_eq (by omega) (by decide)).mp (ed.symm.trans e5)
            exact ⟨d, o, hd, ed, eo, by omega, by omega, fun _ => ho⟩
          · rw [if_neg e5] at h3
            obtain ⟨o, ho, eo⟩ := jBt_3 h3
            have n4 : d ≠ 4 := fun z => e4 (by rw [ed, z]; rfl)
            have n5 : d ≠ 5 := fun z => e5 (by rw [ed, z]; rfl)
            exact ⟨d, o, hd, ed, eo, fun _ => ho, by omega, by omega⟩
      · refine jOkS_at (fun c hc => ?_) (g8 i (by omega))
        unfold upd
        rw [if_neg (by omega), if_neg (by omega), if_neg (by omega), if_neg (by omega), if_neg (by omega)]
  · refine jOkL_at (k := x) (fun i hi => ?_) (hok.2 x hx)
    unfold upd
    rw [if_neg (by omega), if_neg (by omega), if_neg (by omega), if_neg (by omega), if_neg (by omega)]
theorem jOk_div {n j i a : Nat} {f : Nat → Int32} (hok : jOk n f) (hj : j < n) (hn : n < 8) (ha : f (j * 28 + 3) = nI a) (ha6 : a ≤ 6) (hi : i < a) : jOk (n + 1) (upd (va_cpy (upd (jRp f (n * 28) (j * 28)) (j * 28 + 3) (nI i)) (upd (jRp f (n * 28) (j * 28)) (j * 28 + 3) (nI i)) ((j + 1) * 28 + 4 + i * 4) ((j + 1) * 28 + 4) ((a - i) * 4)) ((j + 1) * 28 + 3) (nI (a - i))) := by
  refine ⟨by omega, fun x hx => ?_⟩
  rcases (show x < j ∨ x = j ∨ x = j + 1 ∨ j + 1 < x by omega) with h | h | h | h
  · refine jOkL_at (k := x) (fun c hc => ?_) (hok.2 x (by omega))
    unfold upd va_cpy jRp
    dsimp only
    rw [if_neg (by omega), if_neg (by omega), if_neg (by omega), if_neg (by omega)]
  · subst h
    obtain ⟨u, w, a', g1, g2, g3, g4, g5, g6, g7, g8⟩ := hok.2 x hj
    obtain rfl : a' = a := (nI_eq (by omega) (by omega)).mp (g7.symm.trans ha)
    refine ⟨u, w, i, g1, g2, by omega, ?_, ?_, ?_, ?_, fun s hs => ?_⟩
    · unfold upd va_cpy jRp; dsimp only; rw [if_neg (by omega), if_neg (by omega), if_neg (by omega), if_neg (by omega)]; exact g4
    · unfold upd va_cpy jRp; dsimp only; rw [if_neg (by omega), if_neg (by omega), if_neg (by omega), if_neg (by omega)]; exact g5
    · unfold upd va_cpy jRp; dsimp only; rw [if_neg (by omega), if_neg (by omega), if_neg (by omega), if_neg (by omega)]; exact g6
    · unfold upd va_cpy; dsimp only; rw [if_neg (by omega), if_neg (by omega), if_pos rfl]
    · refine jOkS_at (fun c hc => ?_) (g8 s (by omega))
      unfold upd va_cpy jRp; dsimp only; rw [if_neg (by omega), if_neg (by omega), if_neg (by omega), if_neg (by omega)]
  · subst h
    obtain ⟨u, w, a', g1, g2, g3, g4, g5, g6, g7, g8⟩ := hok.2 j hj
    obtain rfl : a' = a := (nI_eq (by omega) (by omega)).mp (g7.symm.trans ha)
    refine ⟨u, w, a' - i, g1, g2, by omega, ?_, ?_, ?_, ?_, fun s hs => ?_⟩
    · unfold upd va_cpy jRp; dsimp only; rw [if_neg (by omega), if_neg (by omega), if_neg (by omega), if_pos (by omega), show (j + 1) * 28 + 0 - 28 = j * 28 + 0 by omega]; exact g4
    · unfold upd va_cpy jRp; dsimp only; rw [if_neg (by omega), if_neg (by omega), if_neg (by omega), if_pos (by omega), show (j + 1) * 28 + 1 - 28 = j * 28 + 1 by omega]; exact g5
    · unfold upd va_cpy jRp; dsimp only; rw [if_neg (by omega), if_neg (by omega), if_neg (by omega), if_pos (by omega), show (j + 1) * 28 + 2 - 28 = j * 28 + 2 by omega]; exact g6
    · unfold upd; rw [if_pos rfl]
    · refine jOkS_at (fun c hc => ?_) (g8 (s + i) (by omega))
      unfold upd va_cpy jRp
      dsimp only
      rw [if_neg (by omega), if_pos (by omega), if_neg (by omega), if_pos (by omega)]
      congr 1
      omega
  · refine jOkL_at (k := x - 1) (fun c hc => ?_) (hok.2 (x - 1) (by omega))
    unfold upd va_cpy jRp
    dsimp only
    rw [if_neg (by omega), if_neg (by omega), if_neg (by omega), if_pos (by omega)]
    congr 1
    omega
theorem jOk_peel {n j p q : Nat} {f : Nat → Int32} (hok : jOk n f) (hj : j < n) (hn : n < 8) (hp : p ≤ 5) (hq : q ≤ 5) : jOk (n + 1) (upd (upd (jRp f (n * 28) (j * 28)) (j * 28 + 1) (nI p)) ((j + 1) * 28 + 0) (nI q)) := by
  refine ⟨by omega, fun x hx => ?_⟩
  rcases (show x < j ∨ x = j ∨ x = j + 1 ∨ j + 1 < x by omega) with h | h | h | h
  · refine jOkL_at (k := x) (fun c hc => ?_) (hok.2 x (by omega))
    unfold upd jRp
    rw [if_neg (by omega), if_neg (by omega), if_neg (by omega)]
  · subst h
    obtain ⟨u, w, a', g1, g2, g3, g4, g5, g6, g7, g8⟩ := hok.2 x hj
    refine ⟨u, p, a', g1, hp, g3, ?_, ?_, ?_, ?_, fun s hs => ?_⟩
    · unfold upd jRp; rw [if_neg (by omega), if_neg (by omega), if_neg (by omega)]; exact g4
    · unfold upd jRp; rw [if_neg (by omega), if_pos rfl]
    · unfold upd jRp; rw [if_neg (by omega), if_neg (by omega), if_neg (by omega)]; exact g6
    · unfold upd jRp; rw [if_neg (by omega), if_neg (by omega), if_neg (by omega)]; exact g7
    · refine jOkS_at (fun c hc => ?_) (g8 s hs)
      unfold upd jRp; rw [if_neg (by omega), if_neg (by omega), if_neg (by omega)]
  · subst h
    obtain ⟨u, w, a', g1, g2, g3, g4, g5, g6, g7, g8⟩ := hok.2 j hj
    refine ⟨q, w, a', hq, g2, g3, ?_, ?_, ?_, ?_, fun s hs => ?_⟩
    · unfold upd; rw [if_pos rfl]
    · unfold upd jRp; rw [if_neg (by omega), if_neg (by omega), if_pos (by omega), show (j + 1) * 28 + 1 - 28 = j * 28 + 1 by omega]; exact g5
    · unfold upd jRp; rw [if_neg (by omega), if_neg (by omega), if_pos (by omega), show (j + 1) * 28 + 2 - 28 = j * 28 + 2 by omega]; exact g6
    · unfold upd jRp; rw [if_neg (by omega), if_neg (by omega), if_pos (by omega), show (j + 1) * 28 + 3 - 28 = j * 28 + 3 by omega]; exact g7
    · refine jOkS_at (fun c hc => ?_) (g8 s hs)
      unfold upd jRp
      rw [if_neg (by omega), if_neg (by omega), if_pos (by omega)]
      congr 1
      omega
  · refine jOkL_at (k := x - 1) (fun c hc => ?_) (hok.2 (x - 1) (by omega))
    unfold upd jRp
    rw [if_neg (by omega), if_neg (by omega), if_pos (by omega)]
    congr 1
    omega
theorem jOk_turn {n j : Nat} {f : Nat → Int32} (hok : jOk n f) : jOk n (upd f (j * 28 + 2) (1 - f (j * 28 + 2))) := by
  refine ⟨hok.1, fun x hx => ?_⟩
  obtain ⟨u, w, a', g1, g2, g3, g4, g5, g6, g7, g8⟩ := hok.2 x hx
  refine ⟨u, w, a', g1, g2, g3, ?_, ?_, ?_, ?_, fun s hs => ?_⟩
  · unfold upd; rw [if_neg (by omega)]; exact g4
  · unfold upd; rw [if_neg (by omega)]; exact g5
  · by_cases e : x = j
    · subst e
      unfold upd; rw [if_pos rfl]
      rcases g6 with z | z
      · rw [z]; exact Or.inr (by decide)
      · rw [z]; exact Or.inl (by decide)
    · unfold upd; rw [if_neg (by omega)]; exact g6
  · unfold upd; rw [if_neg (by omega)]; exact g7
  · refine jOkS_at (fun c hc => ?_) (g8 s hs)
    unfold upd; rw [if_neg (by omega)]
theorem jOk_swap {n j : Nat} {f : Nat → Int32} (hok : jOk n f) (hj : j + 1 < n) : jOk n (jSw f (j * 28) (j * 28 + 28)) := by
  refine ⟨hok.1, fun x hx => ?_⟩
  rcases (show x = j ∨ x = j + 1 ∨ (x ≠ j ∧ x ≠ j + 1) by omega) with h | h | h
  · refine jOkL_at (k := x + 1) (fun c hc => ?_) (hok.2 (x + 1) (by omega))
    unfold jSw
    rw [if_pos (by omega)]
    congr 1
    omega
  · refine jOkL_at (k := j) (fun c hc => ?_) (hok.2 j (by omega))
    unfold jSw
    rw [if_neg (by omega), if_pos (by omega)]
    congr 1
    omega
  · refine jOkL_at (k := x) (fun c hc => ?_) (hok.2 x hx)
    unfold jSw
    rw [if_neg (by omega), if_neg (by omega)]
theorem jOk_cut {n k r a : Nat} {h : Nat → Int32} (hok : jOk n h) (hk : k < n) (ha : h (k * 28 + 3) = nI a) (ha6 : a ≤ 6) (hr : r ≤ a) : jOk n (upd h (k * 28 + 3) (nI r)) := by
  refine ⟨hok.1, fun x hx => ?_⟩
  obtain ⟨u, w, a', g1, g2, g3, g4, g5, g6, g7, g8⟩ := hok.2 x hx
  by_cases e : x = k
  · subst e
    obtain rfl : a' = a := (nI_eq (by omega) (by omega)).mp (g7.symm.trans ha)
    refine ⟨u, w, r, g1, g2, by omega, ?_, ?_, ?_, ?_, fun s hs => ?_⟩
    · unfold upd; rw [if_neg (by omega)]; exact g4
    · unfold upd; rw [if_neg (by omega)]; exact g5
    · unfold upd; rw [if_neg (by omega)]; exact g6
    · unfold upd; rw [if_pos rfl]
    · refine jOkS_at (fun c hc => ?_) (g8 s (by omega))
      unfold upd; rw [if_neg (by omega)]
  · refine jOkL_at (k := x) (fun c hc => ?_) (hok.2 x hx)
    unfold upd; rw [if_neg (by omega)]
theorem jOk_rm {n k : Nat} {h : Nat → Int32} (hok : jOk n h) (hk : k < n) : jOk (n - 1) (jRm h (k * 28) ((n - 1) * 28)) := by
  refine ⟨by have := hok.1; omega, fun x hx => ?_⟩
  by_cases e : x < k
  · refine jOkL_at (k := x) (fun c hc => ?_) (hok.2 x (by omega))
    unfold jRm
    rw [if_neg (by omega)]
  · refine jOkL_at (k := x + 1) (fun c hc => ?_) (hok.2 (x + 1) (by omega))
    unfold jRm
    rw [if_pos (by omega)]
    congr 1
    omega
theorem jOk_strip : ∀ (k n : Nat) (h : Nat → Int32), jOk n h → k ≤ n → jOk (jStrip k (n, h)).1 (jStrip k (n, h)).2
  | 0, n, h, hok, _ => hok
  | k + 1, n, h, hok, hk => by
    obtain ⟨u, w, a, g1, g2, g3, g4, g5, g6, g7, g8⟩ := hok.2 k (by omega)
    have hle : jReach h k (nn (h (k * 28 + 3))) 0 ≤ a := by
      have h1 := jReach_le h k (nn (h (k * 28 + 3))) 0
      rw [g7, show nn (nI a) = a from nI_clamp (by omega)] at h1 ⊢
      omega
    have hc := jOk_cut hok (show k < n by omega) g7 g3 hle
    rw [jStrip_s]
    split
    · exact jOk_strip k _ _ (jOk_rm hc (by omega)) (by omega)
    · exact jOk_strip k _ _ hc (by omega)
