/-! MEANING 2: what a run looks at and writes; what is apart may be turned round -/
def qWr (ss : List qSt) (v : Nat) : Prop := ∃ s ∈ ss, s.2.2.1 ≠ 4 ∧ s.2.2.1 ≠ 5 ∧ v = nn s.2.2.2
def qLk (ss : List qSt) (v : Nat) : Prop := ∃ s ∈ ss, s.1 ≠ 0 ∧ jIsV s.2.1 = true ∧ v = nn (s.2.1 - 1000)
theorem qWr_r {s : qSt} {r : List qSt} {v : Nat} (h : qWr r v) : qWr (s :: r) v := by
  obtain ⟨x, h1, h2⟩ := h
  exact ⟨x, List.mem_cons_of_mem _ h1, h2⟩
theorem qLk_r {s : qSt} {r : List qSt} {v : Nat} (h : qLk r v) : qLk (s :: r) v := by
  obtain ⟨x, h1, h2⟩ := h
  exact ⟨x, List.mem_cons_of_mem _ h1, h2⟩
theorem jDo_ne {de : Int32} {x v : Nat} {pl : Int32} {nu : Int64} {vv : qV} (h : v ≠ x) : jDo de x pl nu vv v = vv v := by
  unfold jDo vp_updL
  exact if_neg h
theorem jDo_eq {de : Int32} {x : Nat} {pl : Int32} {nu : Int64} {vv : qV} : jDo de x pl nu vv x = if de = 0 then nu else if de = 1 then pl.toInt64 else if de = 2 then vv x + 1 else vv x + nu := by
  unfold jDo vp_updL
  exact if_pos rfl
/-- only what is written changes -/
theorem qS_w (pl : Nat) (nu : Int64) : ∀ (ss : List qSt) (vv : qV) (v : Nat), ¬ qWr ss v → (qS pl nu ss vv).1 v = vv v
  | [], _, _, _ => rfl
  | s :: r, vv, v, h => by
    have hr : ¬ qWr r v := fun z => h (qWr_r z)
    rw [qS_c]
    split
    · split
      · rfl
      · split
        · rfl
        · rename_i h4 h5
          have hne : v ≠ nn s.2.2.2 := fun e => h ⟨s, List.mem_cons_self, h4, h5, e⟩
          show (qS pl nu r _).1 v = _
          rw [qS_w pl nu r _ v hr, jDo_ne hne]
    · show (qS pl nu r _).1 v = _
      exact qS_w pl nu r _ v hr
theorem qP_w (row : Nat → Int64) (ss : List qSt) : ∀ (ps : List Nat) (vv : qV) (v : Nat), ¬ qWr ss v → (qP row ss ps vv).1 v = vv v
  | [], _, _, _ => rfl
  | p :: r, vv, v, h => by
    rw [qP_c]
    split
    · show (qP row ss r _).1 v = _
      rw [qP_w row ss r _ v h, qS_w _ _ _ _ _ h]
    · exact qS_w _ _ _ _ _ h
theorem jHold_cong {s : qSt} {vv vv' : qV} {nu : Int64} (h : s.1 ≠ 0 → jIsV s.2.1 = true → vv (nn (s.2.1 - 1000)) = vv' (nn (s.2.1 - 1000))) : jHold s.1 (jOth vv s.2.1) nu = jHold s.1 (jOth vv' s.2.1) nu := by
  by_cases h0 : s.1 = 0
  · unfold jHold; rw [if_pos h0, if_pos h0]
  · have e : jOth vv s.2.1 = jOth vv' s.2.1 := by
      unfold jOth
      split
      · exact h h0 (by assumption)
      · rfl
    rw [e]
/-- only what is read matters -/
theorem qS_v (pl : Nat) (nu : Int64) (V : Nat → Prop) : ∀ (ss : List qSt) (vv vv' : qV), (∀ v, qWr ss v → V v) → (∀ v, qLk ss v → V v) → (∀ v, V v → vv v = vv' v) → (∀ v, V v → (qS pl nu ss vv).1 v = (qS pl nu ss vv').1 v) ∧ (qS pl nu ss vv).2 = (qS pl nu ss vv').2
  | [], vv, vv', _, _, h => ⟨h, rfl⟩
  | s :: r, vv, vv', hW, hL, h => by
    have e := jHold_cong (s := s) (nu := nu) (vv := vv) (vv' := vv') (fun h0 h1 => h _ (hL _ ⟨s, List.mem_cons_self, h0, h1, rfl⟩))
    have hW' : ∀ v, qWr r v → V v := fun v z => hW v (qWr_r z)
    have hL' : ∀ v, qLk r v → V v := fun v z => hL v (qLk_r z)
    rw [qS_c, qS_c, e]
    split
    · split
      · exact ⟨h, rfl⟩
      · split
        · exact ⟨h, rfl⟩
        · rename_i h4 h5
          have hx := hW _ ⟨s, List.mem_cons_self, h4, h5, rfl⟩
          have h' : ∀ v, V v → jDo s.2.2.1 (nn s.2.2.2) (nI pl) nu vv v = jDo s.2.2.1 (nn s.2.2.2) (nI pl) nu vv' v := fun v hv => by
            by_cases e2 : v = nn s.2.2.2
            · rw [e2, jDo_eq, jDo_eq, h _ hx]
            · rw [jDo_ne e2, jDo_ne e2]; exact h v hv
          obtain ⟨a1, a2⟩ := qS_v pl nu V r _ _ hW' hL' h'
          refine ⟨a1, ?_⟩
          unfold qInc
          rw [a2]
    · obtain ⟨a1, a2⟩ := qS_v pl nu V r _ _ hW' hL' h
      refine ⟨a1, ?_⟩
      unfold qInc
      rw [a2]
theorem qP_v (row : Nat → Int64) (ss : List qSt) (V : Nat → Prop) (hW : ∀ v, qWr ss v → V v) (hL : ∀ v, qLk ss v → V v) : ∀ (ps : List Nat) (vv vv' : qV), (∀ v, V v → vv v = vv' v) → (∀ v, V v → (qP row ss ps vv).1 v = (qP row ss ps vv').1 v) ∧ (qP row ss ps vv).2 = (qP row ss ps vv').2
  | [], vv, vv', h => ⟨h, rfl⟩
  | p :: r, vv, vv', h => by
    obtain ⟨a1, a2⟩ := qS_v p (row p) V ss vv vv' hW hL h
    rw [qP_c, qP_c, a2]
    split
    · obtain ⟨b1, b2⟩ := qP_v row ss V hW hL r _ _ a1
      refine ⟨b1, ?_⟩
      unfold qAdd
      rw [b2]
    · exact ⟨a1, rfl⟩
def qLoc (W V : Nat → Prop) (F : qPr) : Prop := (∀ v, W v → V v) ∧ (∀ vv v, ¬ W v → (F vv).1 v = vv v) ∧ ∀ vv vv', (∀ v, V v → vv v = vv' v) → (∀ v, V v → (F vv).1 v = (F vv').1 v) ∧ (F vv).2 = (F vv').2
theorem qP_loc (row : Nat → Int64) (ss : List qSt) (ps : List Nat) : qLoc (qWr ss) (fun v => qWr ss v ∨ qLk ss v) (qP row ss ps) :=
  ⟨fun _ h => Or.inl h, fun vv v h => qP_w row ss ps vv v h, fun vv vv' h => qP_v row ss _ (fun _ z => Or.inl z) (fun _ z => Or.inr z) ps vv vv' h⟩
/-- the steps at one place alone -/
def qT (p : Nat) (nu : Int64) (ss : List qSt) : qPr := fun vv => ((qS p nu ss vv).1, (qS p nu ss vv).2.1, (qS p nu ss vv).2.2.1)
theorem qT_loc (p : Nat) (nu : Int64) (ss : List qSt) : qLoc (qWr ss) (fun v => qWr ss v ∨ qLk ss v) (qT p nu ss) :=
  ⟨fun _ h => Or.inl h, fun vv v h => qS_w p nu ss vv v h, fun vv vv' h => by
    obtain ⟨a1, a2⟩ := qS_v p nu (fun v => qWr ss v ∨ qLk ss v) ss vv vv' (fun _ z => Or.inl z) (fun _ z => Or.inr z) h
    refine ⟨a1, ?_⟩
    unfold qT
    rw [a2]⟩
/-- never left by EXIT -/
def qNx (F : qPr) : Prop := ∀ vv, (F vv).2.2 = -1
theorem qS_nx (pl : Nat) (nu : Int64) : ∀ (ss : List qSt) (vv : qV), (∀ s ∈ ss, s.2.2.1 ≠ 5) → (qS pl nu ss vv).2.2.1 = -1
  | [], _, _ => rfl
  | s :: r, vv, h => by
    have hr : ∀ s ∈ r, s.2.2.1 ≠ 5 := fun x hx => h x (List.mem_cons_of_mem _ hx)
    rw [qS_c]
    split
    · split
      · rfl
      · split
        · exact absurd (by assumption) (h s List.mem_cons_self)
        · exact qS_nx pl nu r _ hr
    · exact qS_nx pl nu r _ hr
theorem qT_nx (p : Nat) (nu : Int64) (ss : List qSt) (h : ∀ s ∈ ss, s.2.2.1 ≠ 5) : qNx (qT p nu ss) := fun vv => qS_nx p nu ss vv h
theorem qP_nx (row : Nat → Int64) (ss : List qSt) (h : ∀ s ∈ ss, s.2.2.1 ≠ 5) : ∀ (ps : List Nat), qNx (qP row ss ps)
  | [], _ => rfl
  | p :: r, vv => by
    rw [qP_c]
    split
    · exact qP_nx row ss h r _
    · exact qS_nx _ _ _ _ h
/-- what is apart may be turned round -/
theorem qComm {W1 V1 W2 V2 : Nat → Prop} {F G : qPr} (hF : qLoc W1 V1 F) (hG : qLoc W2 V2 G) (h1 : ∀ v, W1 v → ¬ V2 v) (h2 : ∀ v, W2 v → ¬ V1 v) (hx : qNx F ∨ qNx G) : qE (qSeq F G) (qSeq G F) := fun vv => by
  obtain ⟨f0, f1, f2⟩ := hF
  obtain ⟨g0, g1, g2⟩ := hG
  obtain ⟨a1, a2⟩ := g2 (F vv).1 vv (fun v hv => f1 vv v (fun z => h1 v z hv))
  obtain ⟨b1, b2⟩ := f2 (G vv).1 vv (fun v hv => g1 vv v (fun z => h2 v z hv))
  have hv : (G (F vv).1).1 = (F (G vv).1).1 := by
    funext v
    by_cases w1 : W1 v
    · rw [b1 v (f0 v w1), g1 _ v (fun z => h1 v w1 (g0 v z))]
    · rw [f1 _ v w1]
      by_cases w2 : W2 v
      · exact a1 v (g0 v w2)
      · rw [g1 _ v w2, g1 _ v w2, f1 _ v w1]
  unfold qSeq
  by_cases eF : (F vv).2.2 = -1
  · rw [if_pos eF]
    by_cases eG : (G vv).2.2 = -1
    · rw [if_pos eG]
      unfold qAdd
      rw [hv, a2, b2]
      refine ⟨eG.trans eF.symm, fun _ => ?_⟩
      rw [eG, eF, Int32.add_comm]
    · rw [if_neg eG]
      refine ⟨?_, fun z => absurd ?_ eG⟩
      · show (G (F vv).1).2.2 = _
        rw [a2]
      · have z2 : (G (F vv).1).2.2 = -1 := z
        rw [a2] at z2
        exact z2
  · rw [if_neg eF]
    have nG : qNx G := hx.elim (fun z => absurd (z vv) eF) id
    rw [if_pos (nG vv)]
    refine ⟨?_, fun z => absurd z eF⟩
    show _ = (F (G vv).1).2.2
    rw [b2]
/-! loops without BREAK -/
def qNb (ss : List qSt) : Prop := ∀ s ∈ ss, s.2.2.1 ≠ 4 ∧ (s.2.2.1 = 5 → s.2.2.2 ≠ -1)
theorem qS_nb (pl : Nat) (nu : Int64) : ∀ (ss : List qSt) (vv : qV), qNb ss → (qS pl nu ss vv).2.2.1 = -1 → (qS pl nu ss vv).2.2.2 = true
  | [], _, _, _ => rfl
  | s :: r, vv, h, e => by
    have hr : qNb r := fun x hx => h x (List.mem_cons_of_mem _ hx)
    have h0 := h s List.mem_cons_self
    rw [qS_c] at e ⊢
    split at e
    · rw [if_pos (by assumption)]
      rw [if_neg h0.1] at e ⊢
      split at e
      · exact absurd e (h0.2 (by assumption))
      · rw [if_neg (by assumption)]; exact qS_nb pl nu r _ hr e
    · rw [if_neg (by assumption)]; exact qS_nb pl nu r _ hr e
theorem qP_seq (row : Nat → Int64) {ss : List qSt} (h : qNb ss) (p : Nat) (r : List Nat) : qP row ss (p :: r) = qSeq (qT p (row p) ss) (qP row ss r) := by
  funext vv
  rw [qP_c]
  unfold qSeq qT
  dsimp only
  by_cases e : (qS p (row p) ss vv).2.2.1 = -1
  · rw [if_pos e, if_pos (qS_nb _ _ _ _ h e)]
  · rw [if_neg e, if_neg (fun z => e (qS_go _ _ _ _ z))]
theorem qT_app (p : Nat) (nu : Int64) : ∀ (s1 s2 : List qSt), qNb (s1 ++ s2) → qT p nu (s1 ++ s2) = qSeq (qT p nu s1) (qT p nu s2)
  | [], s2, _ => (qSeq_idL _).symm
  | s :: r, s2, h => by
    have hr : qNb (r ++ s2) := fun x hx => h x (List.mem_cons_of_mem _ hx)
    have h0 := h s List.mem_cons_self
    have ih := qT_app p nu r s2 hr
    funext vv
    have key : ∀ w, qT p nu (r ++ s2) w = qSeq (qT p nu r) (qT p nu s2) w := fun w => congrFun ih w
    have aux : ∀ w : qV, ((qInc (qS p nu (r ++ s2) w)).1, (qInc (qS p nu (r ++ s2) w)).2.1, (qInc (qS p nu (r ++ s2) w)).2.2.1) = (if (qInc (qS p nu r w)).2.2.1 = -1 then qAdd (qInc (qS p nu r w)).2.1 (qT p nu s2 (qInc (qS p nu r w)).1) else ((qInc (qS p nu r w)).1, (qInc (qS p nu r w)).2.1, (qInc (qS p nu r w)).2.2.1)) := fun w => by
      have k := key w
      unfold qSeq at k
      unfold qInc
      dsimp only
      have k1 : ((qS p nu (r ++ s2) w).1, 1 + (qS p nu (r ++ s2) w).2.1, (qS p nu (r ++ s2) w).2.2.1) = qAdd 1 (qT p nu (r ++ s2) w) := rfl
      rw [k1, k]
      by_cases e : (qS p nu r w).2.2.1 = -1
      · rw [if_pos e, if_pos (show (qT p nu r w).2.2 = -1 from e)]
        unfold qAdd
        dsimp only
        rw [Int32.add_assoc]
        rfl
      · rw [if_neg e, if_neg (show ¬ (qT p nu r w).2.2 = -1 from e)]
        rfl
    show ((qS p nu (s :: (r ++ s2)) vv).1, (qS p nu (s :: (r ++ s2)) vv).2.1, (qS p nu (s :: (r ++ s2)) vv).2.2.1) = (if (qS p nu (s :: r) vv).2.2.1 = -1 then qAdd (qS p nu (s :: r) vv).2.1 (qT p nu s2 (qS p nu (s :: r) vv).1) else ((qS p nu (s :: r) vv).1, (qS p nu (s :: r) vv).2.1, (qS p nu (s :: r) vv).2.2.1))
    rw [qS_c, qS_c]
    split
    · rw [if_neg h0.1, if_neg h0.1]
      split
      · rename_i h5
        rw [if_neg (h0.2 h5)]
      · exact aux _
    · exact aux _
/-- a join is as good as both loops -/
theorem qJoin (row : Nat → Int64) {s1 s2 : List qSt} (hb : qNb (s1 ++ s2)) (h1 : ∀ v, qWr s1 v → ¬ (qWr s2 v ∨ qLk s2 v)) (h2 : ∀ v, qWr s2 v → ¬ (qWr s1 v ∨ qLk s1 v)) (hx : (∀ s ∈ s1, s.2.2.1 ≠ 5) ∨ (∀ s ∈ s2, s.2.2.1 ≠ 5)) : ∀ ps : List Nat, qE (qSeq (qP row s1 ps) (qP row s2 ps)) (qP row (s1 ++ s2) ps)
  | [] => qE_of (qSeq_idL _)
  | p :: r => by
    have b1 : qNb s1 := fun x hx => hb x (List.mem_append_left _ hx)
    have b2 : qNb s2 := fun x hx => hb x (List.mem_append_right _ hx)
    rw [qP_seq row b1, qP_seq row b2, qP_seq row hb, qT_app p (row p) s1 s2 hb]
    have ih := qJoin row hb h1 h2 hx r
    have c : qE (qSeq (qP row s1 r) (qT p (row p) s2)) (qSeq (qT p (row p) s2) (qP row s1 r)) := qComm (qP_loc row s1 r) (qT_loc p (row p) s2) h1 h2 (hx.elim (fun z => Or.inl (qP_nx row s1 z r)) (fun z => Or.inr (qT_nx p (row p) s2 z)))
    rw [qSeq_assoc, qSeq_assoc, ← qSeq_assoc (qP row s1 r)]
    refine qSeq_congr (qE_refl _) ?_
    refine qE_trans (qSeq_congr c (qE_refl _)) ?_
    rw [qSeq_assoc]
    exact qSeq_congr (qE_refl _) ih
