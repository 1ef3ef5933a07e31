/-! MEANING 1: runs over lists of steps, of places, of loops -/
abbrev qSt : Type := Int32 × Int32 × Int32 × Int32
abbrev qV : Type := Nat → Int64
abbrev qPr : Type := qV → qV × Int32 × Int32
def qInc (z : qV × Int32 × Int32 × Bool) : qV × Int32 × Int32 × Bool := (z.1, 1 + z.2.1, z.2.2.1, z.2.2.2)
def qAdd (c : Int32) (z : qV × Int32 × Int32) : qV × Int32 × Int32 := (z.1, c + z.2.1, z.2.2)
/-- the steps at one place: variables, looks, code, whether the loop goes on -/
def qS (pl : Nat) (nu : Int64) : List qSt → qV → qV × Int32 × Int32 × Bool
  | [], vv => (vv, 0, -1, true)
  | s :: r, vv => if jHold s.1 (jOth vv s.2.1) nu = true then (if s.2.2.1 = 4 then (vv, 1, -1, false) else if s.2.2.1 = 5 then (vv, 1, s.2.2.2, false) else qInc (qS pl nu r (jDo s.2.2.1 (nn s.2.2.2) (nI pl) nu vv))) else qInc (qS pl nu r vv)
theorem qS_c (pl : Nat) (nu : Int64) (s : qSt) (r : List qSt) (vv : qV) : qS pl nu (s :: r) vv = if jHold s.1 (jOth vv s.2.1) nu = true then (if s.2.2.1 = 4 then (vv, 1, -1, false) else if s.2.2.1 = 5 then (vv, 1, s.2.2.2, false) else qInc (qS pl nu r (jDo s.2.2.1 (nn s.2.2.2) (nI pl) nu vv))) else qInc (qS pl nu r vv) := rfl
def qStp (f : Nat → Int32) (k j : Nat) : qSt := (f (k * 28 + 4 + j * 4 + 0), f (k * 28 + 4 + j * 4 + 1), f (k * 28 + 4 + j * 4 + 2), f (k * 28 + 4 + j * 4 + 3))
def qStl (f : Nat → Int32) (k : Nat) : Nat → Nat → List qSt
  | 0, _ => []
  | m + 1, j => qStp f k j :: qStl f k m (j + 1)
theorem qStl_s (f : Nat → Int32) (k m j : Nat) : qStl f k (m + 1) j = qStp f k j :: qStl f k m (j + 1) := rfl
theorem qStl_app (f : Nat → Int32) (k : Nat) : ∀ (m m' j : Nat), qStl f k (m + m') j = qStl f k m j ++ qStl f k m' (j + m)
  | 0, m', j => by rw [Nat.zero_add]; rfl
  | m + 1, m', j => by
    rw [show m + 1 + m' = (m + m') + 1 by omega, qStl_s, qStl_s, qStl_app f k m m' (j + 1), List.cons_append, show j + 1 + m = j + (m + 1) by omega]
theorem qStl_cong {f f' : Nat → Int32} {k k' : Nat} : ∀ (m j j' : Nat), (∀ i, i < m → qStp f' k' (j' + i) = qStp f k (j + i)) → qStl f' k' m j' = qStl f k m j
  | 0, _, _, _ => rfl
  | m + 1, j, j', h => by
    rw [qStl_s, qStl_s, qStl_cong m (j + 1) (j' + 1) (fun i hi => by rw [show j' + 1 + i = j' + (i + 1) by omega, show j + 1 + i = j + (i + 1) by omega]; exact h (i + 1) (by omega))]
    have h0 := h 0 (by omega)
    rw [Nat.add_zero, Nat.add_zero] at h0
    rw [h0]
theorem qStl_mem {f : Nat → Int32} {k : Nat} {s : qSt} : ∀ (m j : Nat), s ∈ qStl f k m j ↔ ∃ i, j ≤ i ∧ i < j + m ∧ s = qStp f k i
  | 0, j => by
    constructor
    · intro h; cases h
    · rintro ⟨i, h1, h2, -⟩; omega
  | m + 1, j => by
    rw [qStl_s, List.mem_cons, qStl_mem m (j + 1)]
    constructor
    · rintro (h | ⟨i, h1, h2, h3⟩)
      · exact ⟨j, Nat.le_refl _, by omega, h⟩
      · exact ⟨i, by omega, by omega, h3⟩
    · rintro ⟨i, h1, h2, h3⟩
      by_cases e : i = j
      · subst e; exact Or.inl h3
      · exact Or.inr ⟨i, by omega, by omega, h3⟩
theorem jSt_q (f : Nat → Int32) (k pl : Nat) (nu : Int64) : ∀ (m j : Nat) (vv : qV) (lk : Int32), jSt f k pl nu m j vv lk (-1) = ((qS pl nu (qStl f k m j) vv).1, lk + (qS pl nu (qStl f k m j) vv).2.1, (qS pl nu (qStl f k m j) vv).2.2.1, (qS pl nu (qStl f k m j) vv).2.2.2)
  | 0, j, vv, lk => by
    show (vv, lk, (-1 : Int32), true) = (vv, lk + 0, -1, true)
    rw [Int32.add_zero]
  | m + 1, j, vv, lk => by
    rw [jSt_s, qStl_s, qS_c, jSt_q f k pl nu m (j + 1), jSt_q f k pl nu m (j + 1)]
    show (if jHold (f (k * 28 + 4 + j * 4 + 0)) (jOth vv (f (k * 28 + 4 + j * 4 + 1))) nu = true then _ else _) = _
    unfold qStp
    dsimp only
    split
    · split
      · rfl
      · split
        · rfl
        · unfold qInc; dsimp only; rw [Int32.add_assoc]
    · unfold qInc; dsimp only; rw [Int32.add_assoc]
theorem qS_go (pl : Nat) (nu : Int64) : ∀ (ss : List qSt) (vv : qV), (qS pl nu ss vv).2.2.2 = true → (qS pl nu ss vv).2.2.1 = -1
  | [], _, _ => rfl
  | s :: r, vv, h => by
    rw [qS_c] at h ⊢
    split at h
    · split at h
      · cases h
      · split at h
        · cases h
        · rw [if_pos (by assumption), if_neg (by assumption), if_neg (by assumption)]; exact qS_go pl nu r _ h
    · rw [if_neg (by assumption)]; exact qS_go pl nu r _ h
def qP (row : Nat → Int64) (ss : List qSt) : List Nat → qPr
  | [], vv => (vv, 0, -1)
  | p :: r, vv => if (qS p (row p) ss vv).2.2.2 = true then qAdd (qS p (row p) ss vv).2.1 (qP row ss r (qS p (row p) ss vv).1) else ((qS p (row p) ss vv).1, (qS p (row p) ss vv).2.1, (qS p (row p) ss vv).2.2.1)
theorem qP_c (row : Nat → Int64) (ss : List qSt) (p : Nat) (r : List Nat) (vv : qV) : qP row ss (p :: r) vv = if (qS p (row p) ss vv).2.2.2 = true then qAdd (qS p (row p) ss vv).2.1 (qP row ss r (qS p (row p) ss vv).1) else ((qS p (row p) ss vv).1, (qS p (row p) ss vv).2.1, (qS p (row p) ss vv).2.2.1) := rfl
def qPs (up : Bool) (u w len : Nat) : Nat → Nat → List Nat
  | 0, _ => []
  | m + 1, i => jPos up u w len i :: qPs up u w len m (i + 1)
theorem qPs_s (up : Bool) (u w len m i : Nat) : qPs up u w len (m + 1) i = jPos up u w len i :: qPs up u w len m (i + 1) := rfl
theorem jPl_q (f : Nat → Int32) (k a : Nat) (row : Nat → Int64) (up : Bool) (u w len : Nat) : ∀ (m i : Nat) (vv : qV) (lk : Int32), jPl f k a row up u w len m i vv lk (-1) = ((qP row (qStl f k a 0) (qPs up u w len m i) vv).1, lk + (qP row (qStl f k a 0) (qPs up u w len m i) vv).2.1, (qP row (qStl f k a 0) (qPs up u w len m i) vv).2.2)
  | 0, i, vv, lk => by
    show (vv, lk, (-1 : Int32)) = (vv, lk + 0, -1)
    rw [Int32.add_zero]
  | m + 1, i, vv, lk => by
    rw [jPl_s, jSt_q, qPs_s, qP_c]
    dsimp only
    by_cases h : (qS (jPos up u w len i) (row (jPos up u w len i)) (qStl f k a 0) vv).2.2.2 = true
    · rw [if_pos h, if_pos h, qS_go _ _ _ _ h, jPl_q f k a row up u w len m (i + 1)]
      unfold qAdd
      dsimp only
      rw [Int32.add_assoc]
    · rw [if_neg h, if_neg h]
abbrev qLp : Type := List qSt × Nat × Nat × Bool
def qLo (f : Nat → Int32) (k : Nat) : qLp := (qStl f k (nn (f (k * 28 + 3))) 0, nn (f (k * 28 + 0)), nn (f (k * 28 + 1)), decide (f (k * 28 + 2) = 1))
def qL (row : Nat → Int64) (len : Nat) (L : qLp) : qPr := qP row L.1 (qPs L.2.2.2 L.2.1 L.2.2.1 len (len - (L.2.1 + L.2.2.1)) L.2.1)
theorem jLp_q (f : Nat → Int32) (k : Nat) (row : Nat → Int64) (len : Nat) (vv : qV) (lk : Int32) : jLp f k row len vv lk (-1) = ((qL row len (qLo f k) vv).1, lk + (qL row len (qLo f k) vv).2.1, (qL row len (qLo f k) vv).2.2) := jPl_q f k _ row _ _ _ len _ _ vv lk
def qSeq (F G : qPr) : qPr := fun vv => if (F vv).2.2 = -1 then qAdd (F vv).2.1 (G (F vv).1) else F vv
def qId : qPr := fun vv => (vv, 0, -1)
def qR (row : Nat → Int64) (len : Nat) : List qLp → qPr
  | [] => qId
  | L :: r => qSeq (qL row len L) (qR row len r)
def qLs (f : Nat → Int32) : Nat → Nat → List qLp
  | 0, _ => []
  | m + 1, k => qLo f k :: qLs f m (k + 1)
theorem qLs_s (f : Nat → Int32) (m k : Nat) : qLs f (m + 1) k = qLo f k :: qLs f m (k + 1) := rfl
theorem jLs_q (f : Nat → Int32) (row : Nat → Int64) (len : Nat) : ∀ (m k : Nat) (vv : qV) (lk : Int32), jLs f row len m k vv lk (-1) = ((qR row len (qLs f m k) vv).1, lk + (qR row len (qLs f m k) vv).2.1, (qR row len (qLs f m k) vv).2.2)
  | 0, k, vv, lk => by
    show (vv, lk, (-1 : Int32)) = (vv, lk + 0, -1)
    rw [Int32.add_zero]
  | m + 1, k, vv, lk => by
    rw [jLs_s, if_pos rfl, jLp_q, qLs_s]
    dsimp only
    show _ = ((qSeq (qL row len (qLo f k)) (qR row len (qLs f m (k + 1))) vv).1, lk + (qSeq (qL row len (qLo f k)) (qR row len (qLs f m (k + 1))) vv).2.1, (qSeq (qL row len (qLo f k)) (qR row len (qLs f m (k + 1))) vv).2.2)
    unfold qSeq
    by_cases h : (qL row len (qLo f k) vv).2.2 = -1
    · rw [h, jLs_q f row len m (k + 1), if_pos rfl]
      unfold qAdd
      dsimp only
      rw [Int32.add_assoc]
    · rw [jLs_x _ _ _ _ _ _ _ _ h, if_neg h]
theorem jRn_q (n : Nat) (f : Nat → Int32) (row : Nat → Int64) (len : Nat) : jRn n f row len = qR row len (qLs f n 0) (fun _ => 0) := by
  unfold jRn
  rw [jLs_q, Int32.zero_add]
/-! what is put one behind the other; and what is as good -/
def qE (F G : qPr) : Prop := ∀ vv, (F vv).2.2 = (G vv).2.2 ∧ ((F vv).2.2 = -1 → F vv = G vv)
theorem qE_refl (F : qPr) : qE F F := fun _ => ⟨rfl, fun _ => rfl⟩
theorem qE_symm {F G : qPr} (h : qE F G) : qE G F := fun vv => ⟨(h vv).1.symm, fun e => ((h vv).2 ((h vv).1.trans e)).symm⟩
theorem qE_trans {F G K : qPr} (h : qE F G) (h2 : qE G K) : qE F K := fun vv => ⟨(h vv).1.trans (h2 vv).1, fun e => ((h vv).2 e).trans ((h2 vv).2 ((h vv).1.symm.trans e))⟩
theorem qE_of {F G : qPr} (h : F = G) : qE F G := by rw [h]; exact qE_refl G
theorem qSeq_congr {F F' G G' : qPr} (h1 : qE F F') (h2 : qE G G') : qE (qSeq F G) (qSeq F' G') := fun vv => by
  unfold qSeq
  obtain ⟨a1, a2⟩ := h1 vv
  by_cases e : (F vv).2.2 = -1
  · have e2 := a2 e
    rw [e2] at e ⊢
    rw [if_pos e, if_pos e]
    obtain ⟨b1, b2⟩ := h2 (F' vv).1
    refine ⟨b1, fun e3 => ?_⟩
    rw [b2 e3]
  · rw [if_neg e, if_neg (by rw [← a1]; exact e)]
    exact ⟨a1, fun z => absurd z e⟩
theorem qSeq_assoc (F G K : qPr) : qSeq (qSeq F G) K = qSeq F (qSeq G K) := by
  funext vv
  unfold qSeq
  by_cases e : (F vv).2.2 = -1
  · rw [if_pos e, if_pos e]
    unfold qAdd
    dsimp only
    by_cases e2 : (G (F vv).1).2.2 = -1
    · rw [if_pos e2, if_pos e2, Int32.add_assoc]
    · rw [if_neg e2, if_neg e2]
  · rw [if_neg e, if_neg e, if_neg e]
theorem qSeq_idL (G : qPr) : qSeq qId G = G := by
  funext vv
  show (if ((-1 : Int32)) = -1 then qAdd 0 (G vv) else _) = _
  rw [if_pos rfl]
  unfold qAdd
  rw [Int32.zero_add]
theorem qSeq_idR (F : qPr) : qSeq F qId = F := by
  funext vv
  unfold qSeq qId qAdd
  dsimp only
  by_cases e : (F vv).2.2 = -1
  · rw [if_pos e, Int32.add_zero, ← e]
  · rw [if_neg e]
theorem qR_app (row : Nat → Int64) (len : Nat) : ∀ (A B : List qLp), qR row len (A ++ B) = qSeq (qR row len A) (qR row len B)
  | [], B => (qSeq_idL _).symm
  | L :: A, B => by
    show qSeq (qL row len L) (qR row len (A ++ B)) = qSeq (qSeq (qL row len L) (qR row len A)) (qR row len B)
    rw [qR_app row len A B, qSeq_assoc]
theorem qLs_app (f : Nat → Int32) : ∀ (m m' k : Nat), qLs f (m + m') k = qLs f m k ++ qLs f m' (k + m)
  | 0, m', k => by rw [Nat.zero_add]; rfl
  | m + 1, m', k => by
    rw [show m + 1 + m' = (m + m') + 1 by omega, qLs_s, qLs_s, qLs_app f m m' (k + 1), List.cons_append, show k + 1 + m = k + (m + 1) by omega]
theorem qLs_cong {f f' : Nat → Int32} : ∀ (m k k' : Nat), (∀ i, i < m → qLo f' (k' + i) = qLo f (k + i)) → qLs f' m k' = qLs f m k
  | 0, _, _, _ => rfl
  | m + 1, k, k', h => by
    rw [qLs_s, qLs_s, qLs_cong m (k + 1) (k' + 1) (fun i hi => by rw [show k' + 1 + i = k' + (i + 1) by omega, show k + 1 + i = k + (i + 1) by omega]; exact h (i + 1) (by omega))]
    have h0 := h 0 (by omega)
    rw [Nat.add_zero, Nat.add_zero] at h0
    rw [h0]
/-- a loop is what its cells say -/
theorem qLo_at {f f' : Nat → Int32} {k k' a : Nat} (ha : f (k * 28 + 3) = nI a) (ha6 : a ≤ 6) (h : ∀ i, i < 28 → f' (k' * 28 + i) = f (k * 28 + i)) : qLo f' k' = qLo f k := by
  unfold qLo
  rw [h 0 (by omega), h 1 (by omega), h 2 (by omega), h 3 (by omega), ha, show nn (nI a) = a from nI_clamp (by omega), qStl_cong a 0 0 (fun i hi => ?_)]
  unfold qStp
  rw [show k' * 28 + 4 + (0 + i) * 4 + 0 = k' * 28 + (4 + i * 4 + 0) by omega, show k' * 28 + 4 + (0 + i) * 4 + 1 = k' * 28 + (4 + i * 4 + 1) by omega, show k' * 28 + 4 + (0 + i) * 4 + 2 = k' * 28 + (4 + i * 4 + 2) by omega, show k' * 28 + 4 + (0 + i) * 4 + 3 = k' * 28 + (4 + i * 4 + 3) by omega, h _ (by omega), h _ (by omega), h _ (by omega), h _ (by omega)]
  rw [show k * 28 + 4 + (0 + i) * 4 + 0 = k * 28 + (4 + i * 4 + 0) by omega, show k * 28 + 4 + (0 + i) * 4 + 1 = k * 28 + (4 + i * 4 + 1) by omega, show k * 28 + 4 + (0 + i) * 4 + 2 = k * 28 + (4 + i * 4 + 2) by omega, show k * 28 + 4 + (0 + i) * 4 + 3 = k * 28 + (4 + i * 4 + 3) by omega]
/-- a part of a program is put in another's place -/
theorem qE_part {f f' : Nat → Int32} {row : Nat → Int64} {len k c c' r : Nat} (h1 : ∀ i, i < k → qLo f' i = qLo f i) (h2 : ∀ i, i < r → qLo f' (k + c' + i) = qLo f (k + c + i)) (h : qE (qR row len (qLs f c k)) (qR row len (qLs f' c' k))) : qE (qR row len (qLs f (k + c + r) 0)) (qR row len (qLs f' (k + c' + r) 0)) := by
  rw [qLs_app f (k + c) r 0, qLs_app f k c 0, qLs_app f' (k + c') r 0, qLs_app f' k c' 0, qR_app, qR_app, qR_app, qR_app]
  simp only [Nat.zero_add]
  rw [qLs_cong (f := f) (f' := f') k 0 0 (fun i hi => by rw [Nat.zero_add]; exact h1 i hi), qLs_cong (f := f) (f' := f') r (k + c) (k + c') h2]
  exact qSeq_congr (qSeq_congr (qE_refl _) h) (qE_refl _)
