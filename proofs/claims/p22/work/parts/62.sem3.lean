/-! MEANING 3: turning, peeling, stripping -/
theorem qsub0 (x : Int64) : x - x = 0 := by grind
theorem qtel (a b c : Int64) : a - c = (a - b) + (b - c) := by grind
def qNl (K : Nat → Prop) (c : Int32) (F : qPr) : Prop := (∀ vv v, K v → (F vv).1 v = vv v) ∧ (∀ vv vv', (∀ v, K v → vv v = vv' v) → (F vv).2 = (F vv').2 ∧ ((F vv).2.2 = -1 → ∀ v, (F vv).1 v - vv v = (F vv').1 v - vv' v)) ∧ ∀ vv, (F vv).2.2 = -1 ∨ (F vv).2.2 = c
theorem jDo_d {de : Int32} {x v : Nat} {pl : Int32} {nu : Int64} {vv vv' : qV} (h : de = 2 ∨ de = 3) : jDo de x pl nu vv v - vv v = jDo de x pl nu vv' v - vv' v := by
  by_cases e : v = x
  · subst e
    rw [jDo_eq, jDo_eq]
    rcases h with h | h
    · subst h
      rw [if_neg (by decide), if_neg (by decide), if_pos rfl, if_neg (by decide), if_neg (by decide), if_pos rfl]
      grind
    · subst h
      rw [if_neg (by decide), if_neg (by decide), if_neg (by decide), if_neg (by decide), if_neg (by decide), if_neg (by decide)]
      grind
  · rw [jDo_ne e, jDo_ne e, qsub0, qsub0]
theorem qS_d (pl : Nat) (nu : Int64) (K : Nat → Prop) : ∀ (ss : List qSt) (vv vv' : qV), (∀ s ∈ ss, s.2.2.1 = 2 ∨ s.2.2.1 = 3 ∨ s.2.2.1 = 5) → (∀ v, qLk ss v → K v) → (∀ v, qWr ss v → ¬ K v) → (∀ v, K v → vv v = vv' v) → (qS pl nu ss vv).2 = (qS pl nu ss vv').2 ∧ ((qS pl nu ss vv).2.2.1 = -1 → ∀ v, (qS pl nu ss vv).1 v - vv v = (qS pl nu ss vv').1 v - vv' v)
  | [], vv, vv', _, _, _, _ => ⟨rfl, fun _ v => by show vv v - vv v = vv' v - vv' v; rw [qsub0, qsub0]⟩
  | s :: r, vv, vv', hD, hL, hW, h => by
    have e := jHold_cong (s := s) (nu := nu) (vv := vv) (vv' := vv') (fun h0 h1 => h _ (hL _ ⟨s, List.mem_cons_self, h0, h1, rfl⟩))
    have hD' : ∀ s ∈ r, s.2.2.1 = 2 ∨ s.2.2.1 = 3 ∨ s.2.2.1 = 5 := fun x hx => hD x (List.mem_cons_of_mem _ hx)
    have hL' : ∀ v, qLk r v → K v := fun v z => hL v (qLk_r z)
    have hW' : ∀ v, qWr r v → ¬ K v := fun v z => hW v (qWr_r z)
    rw [qS_c, qS_c, e]
    split
    · split
      · exact ⟨rfl, fun _ v => by show vv v - vv v = vv' v - vv' v; rw [qsub0, qsub0]⟩
      · split
        · exact ⟨rfl, fun _ v => by show vv v - vv v = vv' v - vv' v; rw [qsub0, qsub0]⟩
        · rename_i h4 h5
          have h23 : s.2.2.1 = 2 ∨ s.2.2.1 = 3 := by
            rcases hD s List.mem_cons_self with z | z | z
            · exact Or.inl z
            · exact Or.inr z
            · exact absurd z h5
          have hx := hW _ ⟨s, List.mem_cons_self, h4, h5, rfl⟩
          have h' : ∀ v, K v → jDo s.2.2.1 (nn s.2.2.2) (nI pl) nu vv v = jDo s.2.2.1 (nn s.2.2.2) (nI pl) nu vv' v := fun v hv => by
            have e2 : v ≠ nn s.2.2.2 := fun z => hx (z ▸ hv)
            rw [jDo_ne e2, jDo_ne e2]; exact h v hv
          obtain ⟨a1, a2⟩ := qS_d pl nu K r _ _ hD' hL' hW' h'
          unfold qInc
          dsimp only
          refine ⟨by rw [a1], fun ec v => ?_⟩
          rw [qtel _ (jDo s.2.2.1 (nn s.2.2.2) (nI pl) nu vv v) (vv v), qtel _ (jDo s.2.2.1 (nn s.2.2.2) (nI pl) nu vv' v) (vv' v), a2 ec v, jDo_d h23]
    · obtain ⟨a1, a2⟩ := qS_d pl nu K r _ _ hD' hL' hW' h
      unfold qInc
      dsimp only
      exact ⟨by rw [a1], a2⟩
theorem qS_code (pl : Nat) (nu : Int64) (c : Int32) : ∀ (ss : List qSt) (vv : qV), (∀ s ∈ ss, s.2.2.1 = 5 → s.2.2.2 = c) → (qS pl nu ss vv).2.2.1 = -1 ∨ (qS pl nu ss vv).2.2.1 = c
  | [], _, _ => Or.inl rfl
  | s :: r, vv, h => by
    have hr : ∀ s ∈ r, s.2.2.1 = 5 → s.2.2.2 = c := fun x hx => h x (List.mem_cons_of_mem _ hx)
    rw [qS_c]
    split
    · split
      · exact Or.inl rfl
      · split
        · exact Or.inr (h s List.mem_cons_self (by assumption))
        · exact qS_code pl nu c r _ hr
    · exact qS_code pl nu c r _ hr
theorem qT_nl (p : Nat) (nu : Int64) {ss : List qSt} {c : Int32} (hD : ∀ s ∈ ss, s.2.2.1 = 2 ∨ s.2.2.1 = 3 ∨ s.2.2.1 = 5) (hW : ∀ v, qWr ss v → ¬ qLk ss v) (hc : ∀ s ∈ ss, s.2.2.1 = 5 → s.2.2.2 = c) : qNl (qLk ss) c (qT p nu ss) := by
  refine ⟨fun vv v hv => qS_w p nu ss vv v (fun z => hW v z hv), fun vv vv' h => ?_, fun vv => qS_code p nu c ss vv hc⟩
  obtain ⟨a1, a2⟩ := qS_d p nu (qLk ss) ss vv vv' hD (fun _ z => z) hW h
  refine ⟨?_, a2⟩
  unfold qT
  rw [a1]
theorem qComm2 {K : Nat → Prop} {c : Int32} {F G : qPr} (hF : qNl K c F) (hG : qNl K c G) : qE (qSeq F G) (qSeq G F) := fun vv => by
  obtain ⟨f1, f2, f3⟩ := hF
  obtain ⟨g1, g2, g3⟩ := hG
  obtain ⟨a1, a2⟩ := g2 (F vv).1 vv (fun v hv => f1 vv v hv)
  obtain ⟨b1, b2⟩ := f2 (G vv).1 vv (fun v hv => g1 vv v hv)
  unfold qSeq
  by_cases eF : (F vv).2.2 = -1
  · rw [if_pos eF]
    by_cases eG : (G vv).2.2 = -1
    · rw [if_pos eG]
      have hv : (G (F vv).1).1 = (F (G vv).1).1 := by
        funext v
        have x1 := a2 (by rw [a1]; exact eG) v
        have x2 := b2 (by rw [b1]; exact eF) v
        grind
      unfold qAdd
      rw [hv, a1, b1]
      refine ⟨eG.trans eF.symm, fun _ => ?_⟩
      rw [eG, eF, Int32.add_comm]
    · rw [if_neg eG]
      refine ⟨?_, fun z => absurd ?_ eG⟩
      · show (G (F vv).1).2.2 = _
        rw [a1]
      · have z2 : (G (F vv).1).2.2 = -1 := z
        rw [a1] at z2
        exact z2
  · rw [if_neg eF]
    have eF2 : (F vv).2.2 = c := (f3 vv).elim (fun z => absurd z eF) id
    refine ⟨?_, fun z => absurd z eF⟩
    by_cases eG : (G vv).2.2 = -1
    · rw [if_pos eG]
      show _ = (F (G vv).1).2.2
      rw [b1]
    · rw [if_neg eG]
      rw [eF2, (g3 vv).elim (fun z => absurd z eG) id]
theorem qP_one (row : Nat → Int64) {ss : List qSt} (h : qNb ss) (p : Nat) : qP row ss [p] = qT p (row p) ss := by
  rw [qP_seq row h]
  exact qSeq_idR _
theorem qP_app (row : Nat → Int64) {ss : List qSt} (h : qNb ss) : ∀ (a b : List Nat), qP row ss (a ++ b) = qSeq (qP row ss a) (qP row ss b)
  | [], b => (qSeq_idL _).symm
  | p :: a, b => by rw [List.cons_append, qP_seq row h, qP_seq row h, qP_app row h a b, qSeq_assoc]
theorem qPush (row : Nat → Int64) {ss : List qSt} (h : qNb ss) {K : Nat → Prop} {c : Int32} (hn : ∀ p nu, qNl K c (qT p nu ss)) (p : Nat) : ∀ r : List Nat, qE (qSeq (qT p (row p) ss) (qP row ss r)) (qSeq (qP row ss r) (qT p (row p) ss))
  | [] => qE_of ((qSeq_idR _).trans (qSeq_idL _).symm)
  | q :: r => by
    rw [qP_seq row h, ← qSeq_assoc, qSeq_assoc (qT q (row q) ss)]
    refine qE_trans (qSeq_congr (qComm2 (hn p (row p)) (hn q (row q))) (qE_refl _)) ?_
    rw [qSeq_assoc]
    exact qSeq_congr (qE_refl _) (qPush row h hn p r)
theorem qRev (row : Nat → Int64) {ss : List qSt} (h : qNb ss) {K : Nat → Prop} {c : Int32} (hn : ∀ p nu, qNl K c (qT p nu ss)) : ∀ ps : List Nat, qE (qP row ss ps) (qP row ss ps.reverse)
  | [] => qE_refl _
  | p :: r => by
    rw [List.reverse_cons, qP_app row h, qP_one row h, qP_seq row h]
    refine qE_trans (qPush row h hn p r) ?_
    exact qSeq_congr (qRev row h hn r) (qE_refl _)
theorem qPs_up (u w len : Nat) : ∀ (m i : Nat), qPs true u w len m i = List.range' i m
  | 0, _ => rfl
  | m + 1, i => by
    rw [qPs_s, qPs_up u w len m (i + 1), List.range'_succ]
    rfl
theorem qPs_dn (u w len : Nat) : ∀ (m i : Nat), qPs false u w len m i = (List.range' i m).map (fun x => len - 1 - w - (x - u))
  | 0, _ => rfl
  | m + 1, i => by
    rw [qPs_s, qPs_dn u w len m (i + 1), List.range'_succ]
    rfl
theorem qPs_rev (u w len : Nat) : qPs false u w len (len - (u + w)) u = (qPs true u w len (len - (u + w)) u).reverse := by
  rw [qPs_up, qPs_dn]
  apply List.ext_getElem
  · simp
  · intro i h1 h2
    simp at h1 h2 ⊢
    omega
theorem qTurn (row : Nat → Int64) (len : Nat) {ss : List qSt} (h : qNb ss) {c : Int32} (hD : ∀ s ∈ ss, s.2.2.1 = 2 ∨ s.2.2.1 = 3 ∨ s.2.2.1 = 5) (hW : ∀ v, qWr ss v → ¬ qLk ss v) (hc : ∀ s ∈ ss, s.2.2.1 = 5 → s.2.2.2 = c) (u w : Nat) (up : Bool) : qE (qL row len (ss, u, w, up)) (qL row len (ss, u, w, !up)) := by
  unfold qL
  have k := qRev row h (fun p nu => qT_nl p nu hD hW hc) (qPs true u w len (len - (u + w)) u)
  rw [← qPs_rev] at k
  cases up
  · exact qE_symm k
  · exact k
theorem qPeel (row : Nat → Int64) {len : Nat} {ss : List qSt} (h : qNb ss) {u w : Nat} (hl : u + w + 1 ≤ len) : qL row len (ss, u, w, true) = qSeq (qL row len (ss, u, len - 1 - u, true)) (qL row len (ss, u + 1, w, true)) := by
  unfold qL
  dsimp only
  rw [show len - (u + w) = (len - (u + 1 + w)) + 1 by omega, show len - (u + (len - 1 - u)) = 1 by omega, qPs_up, qPs_up, qPs_up, List.range'_succ, qP_seq row h]
  show _ = qSeq (qP row ss [u]) _
  rw [qP_one row h]
theorem qP_cong (row : Nat → Int64) {ss ss' : List qSt} (h : ∀ p nu vv, qS p nu ss' vv = qS p nu ss vv) : ∀ ps : List Nat, qP row ss' ps = qP row ss ps
  | [] => rfl
  | p :: r => by
    funext vv
    rw [qP_c, qP_c, h, qP_cong row h r]
theorem qP_nil (row : Nat → Int64) : ∀ ps : List Nat, qP row [] ps = qId
  | [] => rfl
  | p :: r => by
    funext vv
    rw [qP_c, qP_nil row r]
    show (if true = true then qAdd 0 (qId vv) else _) = _
    rw [if_pos rfl]
    unfold qAdd qId
    rw [Int32.zero_add]
theorem qS_reach (f : Nat → Int32) (k pl : Nat) (nu : Int64) : ∀ (m j : Nat) (vv : qV), qS pl nu (qStl f k (jReach f k m j - j) j) vv = qS pl nu (qStl f k m j) vv
  | 0, j, vv => by
    show qS pl nu (qStl f k (j - j) j) vv = _
    rw [Nat.sub_self]
  | m + 1, j, vv => by
    rw [jReach_s]
    by_cases h : f (k * 28 + 4 + j * 4 + 0) = 0 ∧ (f (k * 28 + 4 + j * 4 + 2) = 4 ∨ f (k * 28 + 4 + j * 4 + 2) = 5)
    · rw [if_pos h, show j + 1 - j = 0 + 1 by omega, qStl_s, qStl_s, qS_c, qS_c]
      have h1 : ∀ nu2 : Int64, jHold (qStp f k j).1 nu2 nu = true := fun nu2 => by
        show jHold (f (k * 28 + 4 + j * 4 + 0)) nu2 nu = true
        unfold jHold
        rw [if_pos h.1]
      rw [if_pos (h1 _), if_pos (h1 _)]
      rcases h.2 with h2 | h2
      · rw [if_pos (show (qStp f k j).2.2.1 = 4 from h2), if_pos (show (qStp f k j).2.2.1 = 4 from h2)]
      · have h3 : ¬ (qStp f k j).2.2.1 = 4 := fun z => by
          rw [show (qStp f k j).2.2.1 = 5 from h2] at z
          exact absurd z (by decide)
        rw [if_neg h3, if_neg h3, if_pos (show (qStp f k j).2.2.1 = 5 from h2), if_pos (show (qStp f k j).2.2.1 = 5 from h2)]
    · have hg := jReach_ge f k m (j + 1)
      rw [if_neg h, show jReach f k m (j + 1) - j = (jReach f k m (j + 1) - (j + 1)) + 1 by omega, qStl_s, qStl_s, qS_c, qS_c, qS_reach f k pl nu m (j + 1), qS_reach f k pl nu m (j + 1)]
theorem qEq_part {f f' : Nat → Int32} {row : Nat → Int64} {len k c c' r : Nat} (h1 : ∀ i, i < k → qLo f' i = qLo f i) (h2 : ∀ i, i < r → qLo f' (k + c' + i) = qLo f (k + c + i)) (h : qR row len (qLs f' c' k) = qR row len (qLs f c k)) : qR row len (qLs f' (k + c' + r) 0) = qR row len (qLs f (k + c + r) 0) := by
  rw [qLs_app f (k + c) r 0, qLs_app f k c 0, qLs_app f' (k + c') r 0, qLs_app f' k c' 0, qR_app, qR_app, qR_app, qR_app]
  simp only [Nat.zero_add]
  rw [qLs_cong (f := f) (f' := f') k 0 0 (fun i hi => by rw [Nat.zero_add]; exact h1 i hi), qLs_cong (f := f) (f' := f') r (k + c) (k + c') h2, h]
theorem qLs_1 (f : Nat → Int32) (row : Nat → Int64) (len k : Nat) : qR row len (qLs f 1 k) = qL row len (qLo f k) := qSeq_idR _
theorem qLs_2 (f : Nat → Int32) (row : Nat → Int64) (len k : Nat) : qR row len (qLs f 2 k) = qSeq (qL row len (qLo f k)) (qL row len (qLo f (k + 1))) := by
  show qSeq (qL row len (qLo f k)) (qSeq (qL row len (qLo f (k + 1))) qId) = _
  rw [qSeq_idR]
theorem qCutL {h : Nat → Int32} {k r a : Nat} (ha : h (k * 28 + 3) = nI a) (ha6 : a ≤ 6) (hr : r = jReach h k a 0) (row : Nat → Int64) (len : Nat) : qL row len (qLo (upd h (k * 28 + 3) (nI r)) k) = qL row len (qLo h k) := by
  have hle := jReach_le h k a 0
  have e0 : upd h (k * 28 + 3) (nI r) (k * 28 + 3) = nI r := if_pos rfl
  have e : ∀ i, i ≠ k * 28 + 3 → upd h (k * 28 + 3) (nI r) i = h i := fun i hi => if_neg hi
  have es : qStl (upd h (k * 28 + 3) (nI r)) k r 0 = qStl h k r 0 := qStl_cong r 0 0 (fun i hi => by
    unfold qStp
    rw [e _ (by omega), e _ (by omega), e _ (by omega), e _ (by omega)])
  unfold qL qLo
  dsimp only
  rw [e0, e _ (show k * 28 + 0 ≠ k * 28 + 3 by omega), e _ (show k * 28 + 1 ≠ k * 28 + 3 by omega), e _ (show k * 28 + 2 ≠ k * 28 + 3 by omega), show nn (nI r) = r from nI_clamp (by omega), es, ha, show nn (nI a) = a from nI_clamp (by omega)]
  refine qP_cong row (fun p nu vv => ?_) _
  have q := qS_reach h k p nu a 0 vv
  rw [Nat.sub_zero, ← hr] at q
  exact q
theorem qStrip (row : Nat → Int64) (len : Nat) : ∀ (k n : Nat) (h : Nat → Int32), jOk n h → k ≤ n → qR row len (qLs (jStrip k (n, h)).2 (jStrip k (n, h)).1 0) = qR row len (qLs h n 0)
  | 0, n, h, _, _ => rfl
  | k + 1, n, h, hok, hk => by
    obtain ⟨u, w, a, g1, g2, g3, g4, g5, g6, g7, g8⟩ := hok.2 k (by omega)
    have hle : jReach h k a 0 ≤ a := by
      have h1 := jReach_le h k a 0
      omega
    rw [jStrip_s, g7, show nn (nI a) = a from nI_clamp (by omega)]
    generalize hr : jReach h k a 0 = r at hle
    have hc := jOk_cut hok (show k < n by omega) g7 g3 hle
    have ho : ∀ x, x ≠ k → x < n → qLo (upd h (k * 28 + 3) (nI r)) x = qLo h x := fun x hx hxn => by
      obtain ⟨u', w', a', q1, q2, q3, q4, q5, q6, q7, q8⟩ := hok.2 x hxn
      exact qLo_at q7 q3 (fun i hi => if_neg (by omega))
    obtain ⟨r9, hn⟩ : ∃ r9, n = k + 1 + r9 := ⟨n - (k + 1), by omega⟩
    split
    · rename_i hr0
      refine (qStrip row len k _ _ (jOk_rm hc (by omega)) (by omega)).trans ?_
      have key := qEq_part (f := h) (f' := jRm (upd h (k * 28 + 3) (nI r)) (k * 28) ((n - 1) * 28)) (row := row) (len := len) (k := k) (c := 1) (c' := 0) (r := r9) (fun i hi => ?_) (fun i hi => ?_) ?_
      · rw [show k + 0 + r9 = n - 1 by omega, show k + 1 + r9 = n by omega] at key
        exact key
      · obtain ⟨u', w', a', q1, q2, q3, q4, q5, q6, q7, q8⟩ := hok.2 i (by omega)
        refine qLo_at q7 q3 (fun x hx => ?_)
        unfold jRm upd
        rw [if_neg (by omega), if_neg (by omega)]
      · obtain ⟨u', w', a', q1, q2, q3, q4, q5, q6, q7, q8⟩ := hok.2 (k + 1 + i) (by omega)
        refine qLo_at q7 q3 (fun x hx => ?_)
        unfold jRm upd
        rw [if_pos (by omega), if_neg (by omega)]
        congr 1
        omega
      · rw [qLs_1, ← qCutL g7 g3 hr.symm row len, hr0]
        show qId = _
        unfold qL qLo
        dsimp only
        rw [show upd h (k * 28 + 3) (nI 0) (k * 28 + 3) = nI 0 from if_pos rfl]
        exact (qP_nil row _).symm
    · refine (qStrip row len k _ _ hc (by omega)).trans ?_
      have key := qEq_part (f := h) (f' := upd h (k * 28 + 3) (nI r)) (row := row) (len := len) (k := k) (c := 1) (c' := 1) (r := r9) (fun i hi => ho i (by omega) (by omega)) (fun i hi => ho _ (by omega) (by omega)) (by rw [qLs_1, qLs_1, qCutL g7 g3 hr.symm row len])
      rw [← hn] at key
      exact key
