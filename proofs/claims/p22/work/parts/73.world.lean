/-! LAW 3b: the class's world, whatever lies beside what calls show -/
def up1 {α : Type} (g : Nat → α) (k : Nat) (v : α) : Nat → α := fun i => if i = k then v else g i
theorem up1_eq {α : Type} {g : Nat → α} {k : Nat} {v : α} : up1 g k v k = v := if_pos rfl
theorem up1_ne {α : Type} {g : Nat → α} {k i : Nat} {v : α} (h : i ≠ k) : up1 g k v i = g i := if_neg h
abbrev jFO (qs cs pn : Nat → Nat) : Nat → Nat × va_E := fun i => (qs i, .inr (1, [.ref (cs i), .int (nI (pn i))]))
abbrev jFA (g : jG) (cs : Nat → Nat) (pf : Nat → Nat → Int32) : Nat → Nat × va_E := fun i => (cs i, jaI g 224 (pf i))
abbrev jcF (g : jG) (x0 mp N rp len lt p1 p2 cz vr v1 v2 dg : Nat) (lk cd lka cda lkb cdb ln gd : Int32) (row vv wa wb h0 : Nat → Int64) (T : Nat → Option Nat) : va_W := [(x0, .inr (3, [.ref mp, .int (nI N), .ref rp, .int (nI len), .ref lt, .ref p1, .ref p2, .ref cz])), (mp, jaP g 10 T), (rp, jaL g 40 row), (lt, .inr (2, [.ref vr, .int lk, .int cd])), (vr, jaL g 4 vv), (p1, .inr (2, [.ref v1, .int lka, .int cda])), (v1, jaL g 4 wa), (p2, .inr (2, [.ref v2, .int lkb, .int cdb])), (v2, jaL g 4 wb), (cz, .inr (0, [.ref dg, .int ln, .int gd])), (dg, jaL g 6 h0)]
/-- the class's world: N programs, the row's len numbers, the latest run -/
def jCW (g : jG) (x0 N : Nat) (pn : Nat → Nat) (pf : Nat → Nat → Int32) (len : Nat) (row vv : Nat → Int64) (lk : Int32) (w : va_W) : Prop :=
  ∃ (mp rp lt p1 p2 cz vr v1 v2 dg : Nat) (cd lka cda lkb cdb ln gd : Int32) (wa wb h0 : Nat → Int64) (T : Nat → Option Nat) (qs cs : Nat → Nat), (∀ i, i < N → T i = some (qs i)) ∧ (∀ i, N ≤ i → T i = none) ∧ w.Perm (jcF g x0 mp N rp len lt p1 p2 cz vr v1 v2 dg lk cd lka cda lkb cdb ln gd row vv wa wb h0 T ++ (jpl (jFO qs cs pn) N ++ jpl (jFA g cs pf) N))
/-- what holds of what calls show -/
def jMok (N : Nat) (pn : Nat → Nat) (pf : Nat → Nat → Int32) (len : Nat) : Prop := N ≤ 10 ∧ len ≤ 40 ∧ (∀ i, i < N → jOk (pn i) (pf i)) ∧ ∀ i, N ≤ i → pn i = 0 ∧ pf i = fun _ => 0
theorem jMok_k {N : Nat} {pn : Nat → Nat} {pf : Nat → Nat → Int32} {len k n : Nat} {f : Nat → Int32} (h : jMok N pn pf len) (hk : k < N) (hn : jOk n f) : jMok N (up1 pn k n) (up1 pf k f) len := by
  refine ⟨h.1, h.2.1, fun i hi => ?_, fun i hi => ?_⟩
  · by_cases e : i = k
    · subst e; rw [up1_eq, up1_eq]; exact hn
    · rw [up1_ne e, up1_ne e]; exact h.2.2.1 i hi
  · have e : i ≠ k := by omega
    rw [up1_ne e, up1_ne e]; exact h.2.2.2 i hi
theorem jMok_g {N : Nat} {pn : Nat → Nat} {pf : Nat → Nat → Int32} {len n : Nat} {f : Nat → Int32} (h : jMok N pn pf len) (hN : N < 10) (hn : jOk n f) : jMok (N + 1) (up1 pn N n) (up1 pf N f) len := by
  refine ⟨by omega, h.2.1, fun i hi => ?_, fun i hi => ?_⟩
  · by_cases e : i = N
    · subst e; rw [up1_eq, up1_eq]; exact hn
    · rw [up1_ne e, up1_ne e]; exact h.2.2.1 i (by omega)
  · have e : i ≠ N := by omega
    rw [up1_ne e, up1_ne e]; exact h.2.2.2 i (by omega)
theorem jMok_l {N : Nat} {pn : Nat → Nat} {pf : Nat → Nat → Int32} {len len' : Nat} (h : jMok N pn pf len) (hl : len' ≤ 40) : jMok N pn pf len' := ⟨h.1, hl, h.2.2⟩
theorem jOk_0 : jOk 0 (fun _ => 0) := ⟨by decide, fun k hk => absurd hk (Nat.not_lt_zero _)⟩
/-! pools -/
def jrest2 (F : Nat → Nat × va_E) (N k k2 : Nat) : va_W := (((List.range N).erase k).erase k2).map F
theorem jpl_k {F : Nat → Nat × va_E} {N k k2 : Nat} (hk : k < N) (hk2 : k2 < N) (hne : k2 ≠ k) : (jpl F N).Perm (F k :: F k2 :: jrest2 F N k k2) := by
  have h := (List.perm_cons_erase (a := k) (List.mem_range.mpr hk))
  have h2 := (List.perm_cons_erase (a := k2) ((List.nodup_range (n := N)).mem_erase_iff.mpr ⟨hne, List.mem_range.mpr hk2⟩))
  exact (h.trans (List.Perm.cons _ h2)).map F
theorem jrest2_cong {F F' : Nat → Nat × va_E} {N k k2 : Nat} (h : ∀ i, i < N → i ≠ k → i ≠ k2 → F i = F' i) : jrest2 F N k k2 = jrest2 F' N k k2 := by
  unfold jrest2
  apply List.map_congr_left
  intro i hi
  have h1 := ((List.nodup_range (n := N)).erase k).mem_erase_iff.mp hi
  have h2 := (List.nodup_range (n := N)).mem_erase_iff.mp h1.2
  exact h i (List.mem_range.mp h2.2) h2.1 h1.1
theorem jq_k {X : va_W} {F G : Nat → Nat × va_E} {N k : Nat} (hk : k < N) : (X ++ (jpl F N ++ jpl G N)).Perm (X ++ (F k :: G k :: (jrest F N k ++ jrest G N k))) := (jpl_q2 hk).append_left X
theorem jq_u {X : va_W} {F G F' G' : Nat → Nat × va_E} {N k : Nat} (hk : k < N) (hF : ∀ i, i < N → i ≠ k → F i = F' i) (hG : ∀ i, i < N → i ≠ k → G i = G' i) : (X ++ (F' k :: G' k :: (jrest F N k ++ jrest G N k))).Perm (X ++ (jpl F' N ++ jpl G' N)) := by
  rw [jrest_cong hF, jrest_cong hG]
  exact (jpl_p2 hk).append_left X
theorem jq_2 {X : va_W} {F G : Nat → Nat × va_E} {N k k2 : Nat} (hk : k < N) (hk2 : k2 < N) (hne : k2 ≠ k) : (X ++ (jpl F N ++ jpl G N)).Perm (X ++ (F k :: G k :: F k2 :: G k2 :: (jrest2 F N k k2 ++ jrest2 G N k k2))) := by
  refine List.Perm.append_left X ?_
  refine ((jpl_k (F := F) hk hk2 hne).append (jpl_k (F := G) hk hk2 hne)).trans ?_
  show (F k :: F k2 :: (jrest2 F N k k2 ++ G k :: G k2 :: jrest2 G N k k2)).Perm _
  refine List.Perm.cons _ ?_
  refine (List.Perm.cons _ List.perm_middle).trans ?_
  refine (List.Perm.swap _ _ _).trans (List.Perm.cons _ (List.Perm.cons _ List.perm_middle))
theorem jq_g {X : va_W} {F G F' G' : Nat → Nat × va_E} {N : Nat} {a b : Nat × va_E} (hF : ∀ i, i < N → F i = F' i) (hG : ∀ i, i < N → G i = G' i) (ha : F' N = a) (hb : G' N = b) : ((X ++ (jpl F N ++ jpl G N)) ++ [a, b]).Perm (X ++ (jpl F' (N + 1) ++ jpl G' (N + 1))) := by
  subst ha; subst hb
  rw [jpl_cong hF, jpl_cong hG, List.append_assoc, ← jpl_succ, ← jpl_succ]
  refine List.Perm.append_left X ?_
  rw [List.append_assoc, List.append_assoc]
  refine List.Perm.append_left _ ?_
  show (jpl G' N ++ [F' N, G' N]).Perm (F' N :: (jpl G' N ++ [G' N]))
  exact List.perm_middle
theorem jr_k {X : va_W} {F : Nat → Nat × va_E} {N k : Nat} (hk : k < N) : (X ++ jpl F N).Perm (X ++ (F k :: jrest F N k)) := (jpl_q hk).append_left X
theorem jr_u {X : va_W} {F F' : Nat → Nat × va_E} {N k : Nat} (hk : k < N) (hF : ∀ i, i < N → i ≠ k → F i = F' i) : (X ++ (F' k :: jrest F N k)).Perm (X ++ jpl F' N) := by
  rw [jrest_cong hF]
  exact (jpl_p hk).append_left X
theorem jr_2 {X : va_W} {F : Nat → Nat × va_E} {N k k2 : Nat} (hk : k < N) (hk2 : k2 < N) (hne : k2 ≠ k) : (X ++ jpl F N).Perm (X ++ (F k :: F k2 :: jrest2 F N k k2)) := (jpl_k hk hk2 hne).append_left X
theorem jr_u2 {X : va_W} {F F' : Nat → Nat × va_E} {N k k2 : Nat} (hk : k < N) (hk2 : k2 < N) (hne : k2 ≠ k) (hF : ∀ i, i < N → i ≠ k2 → F i = F' i) : (X ++ (F k :: F' k2 :: jrest2 F N k k2)).Perm (X ++ jpl F' N) := by
  rw [jrest2_cong (fun i h1 _ h3 => hF i h1 h3), hF k hk (Ne.symm hne)]
  exact ((jpl_k hk hk2 hne).append_left X).symm
theorem jCW_x0 {g : jG} {x0 N : Nat} {pn : Nat → Nat} {pf : Nat → Nat → Int32} {len : Nat} {row vv : Nat → Int64} {lk : Int32} {w : va_W} (h : jCW g x0 N pn pf len row vv lk w) : ∃ (i : Nat) (fs : List Value), w[i]? = some (x0, (.inr (3, fs) : va_E)) := by
  obtain ⟨mp, rp, lt, p1, p2, cz, vr, v1, v2, dg, cd, lka, cda, lkb, cdb, ln, gd, wa, wb, h0, T, qs, cs, h1, h2, hp⟩ := h
  obtain ⟨i, hi⟩ := List.getElem?_of_mem (hp.mem_iff.mpr List.mem_cons_self)
  exact ⟨i, _, hi⟩
theorem jc_u {g : jG} {X : va_W} {qs cs pn : Nat → Nat} {pf : Nat → Nat → Int32} {N k n : Nat} {f : Nat → Int32} (hk : k < N) : (X ++ ((qs k, .inr (1, [.ref (cs k), .int (nI n)])) :: (cs k, jaI g 224 f) :: (jrest (jFO qs cs pn) N k ++ jrest (jFA g cs pf) N k))).Perm (X ++ (jpl (jFO qs cs (up1 pn k n)) N ++ jpl (jFA g cs (up1 pf k f)) N)) := by
  have h := jq_u (X := X) (F := jFO qs cs pn) (G := jFA g cs pf) (F' := jFO qs cs (up1 pn k n)) (G' := jFA g cs (up1 pf k f)) hk (fun i _ hi => by show (qs i, _) = (qs i, _); rw [up1_ne hi]) (fun i _ hi => by show (cs i, _) = (cs i, _); rw [up1_ne hi])
  have e1 : jFO qs cs (up1 pn k n) k = (qs k, .inr (1, [.ref (cs k), .int (nI n)])) := by show (qs k, _) = _; rw [up1_eq]
  have e2 : jFA g cs (up1 pf k f) k = (cs k, jaI g 224 f) := by show (cs k, _) = _; rw [up1_eq]
  rw [e1, e2] at h
  exact h
theorem jc_g {g : jG} {X : va_W} {qs cs pn : Nat → Nat} {pf : Nat → Nat → Int32} {N n a b : Nat} {f : Nat → Int32} : ((X ++ (jpl (jFO qs cs pn) N ++ jpl (jFA g cs pf) N)) ++ [(a, .inr (1, [.ref b, .int (nI n)])), (b, jaI g 224 f)]).Perm (X ++ (jpl (jFO (up1 qs N a) (up1 cs N b) (up1 pn N n)) (N + 1) ++ jpl (jFA g (up1 cs N b) (up1 pf N f)) (N + 1))) :=
  jq_g (fun i hi => by show (qs i, _) = (up1 qs N a i, _); rw [up1_ne (by omega), up1_ne (by omega), up1_ne (by omega)]) (fun i hi => by show (cs i, _) = (up1 cs N b i, _); rw [up1_ne (by omega), up1_ne (by omega)]) (by show (up1 qs N a N, _) = _; rw [up1_eq, up1_eq, up1_eq]) (by show (up1 cs N b N, _) = _; rw [up1_eq, up1_eq])
theorem jc_gk {g : jG} {X : va_W} {qs cs pn : Nat → Nat} {pf : Nat → Nat → Int32} {N k n a b : Nat} {f : Nat → Int32} (hk : k < N) : ((X ++ (jFO qs cs pn k :: jFA g cs pf k :: (jrest (jFO qs cs pn) N k ++ jrest (jFA g cs pf) N k))) ++ [(a, .inr (1, [.ref b, .int (nI n)])), (b, jaI g 224 f)]).Perm (X ++ (jpl (jFO (up1 qs N a) (up1 cs N b) (up1 pn N n)) (N + 1) ++ jpl (jFA g (up1 cs N b) (up1 pf N f)) (N + 1))) :=
  ((jq_k hk).symm.append_right _).trans jc_g
theorem jT_g1 {T : Nat → Option Nat} {qs : Nat → Nat} {N a : Nat} (h : ∀ i, i < N → T i = some (qs i)) : ∀ i, i < N + 1 → va_up T N (some a) i = some (up1 qs N a i) := fun i hi => by
  by_cases e : i = N
  · subst e; rw [up1_eq]; exact if_pos rfl
  · rw [up1_ne e]; exact (if_neg e).trans (h i (by omega))
theorem jT_g2 {T : Nat → Option Nat} {N a : Nat} (h : ∀ i, N ≤ i → T i = none) : ∀ i, N + 1 ≤ i → va_up T N (some a) i = none := fun i hi => (if_neg (by omega)).trans (h i (by omega))
theorem jBt_5c {x : Int32} (h : jBt x 0 5 = true) : x = 0 ∨ x = 1 ∨ x = 2 ∨ x = 3 ∨ x = 4 ∨ x = 5 := by
  rw [show (5 : Int32) = nI 6 - 1 from by decide] at h
  obtain ⟨k, hk, e⟩ := (jBt_nat (by decide)).mp h
  rcases (show k = 0 ∨ k = 1 ∨ k = 2 ∨ k = 3 ∨ k = 4 ∨ k = 5 by omega) with rfl | rfl | rfl | rfl | rfl | rfl
  · exact Or.inl (by rw [e]; rfl)
  · exact Or.inr (Or.inl (by rw [e]; rfl))
  · exact Or.inr (Or.inr (Or.inl (by rw [e]; rfl)))
  · exact Or.inr (Or.inr (Or.inr (Or.inl (by rw [e]; rfl))))
  · exact Or.inr (Or.inr (Or.inr (Or.inr (Or.inl (by rw [e]; rfl)))))
  · exact Or.inr (Or.inr (Or.inr (Or.inr (Or.inr (by rw [e]; rfl)))))
theorem jpow_le {d v : Nat} (hd : d ≤ 6) (hv : v ≤ 4) : v ^ d ≤ 1024 ∨ (d = 6 ∧ v = 4) :=
  (show ∀ d : Fin 7, ∀ v : Fin 5, v.1 ^ d.1 ≤ 1024 ∨ (d.1 = 6 ∧ v.1 = 4) by decide +kernel) ⟨d, by omega⟩ ⟨v, by omega⟩
