/-! LAW 4: the two sides' worlds, whatever lies beside what calls show -/
def up1 {α : Type} (g : Nat → α) (k : Nat) (v : α) : Nat → α := fun i => if i = k then v else g i
theorem up1_eq {α : Type} {g : Nat → α} {k : Nat} {v : α} : up1 g k v k = v := if_pos rfl
theorem up1_ne {α : Type} {g : Nat → α} {k i : Nat} {v : α} (h : i ≠ k) : up1 g k v i = g i := if_neg h
abbrev jFO (qs cs pn : Nat → Nat) : Nat → Nat × va_E := fun i => (qs i, .inr (1, [.ref (cs i), .int (nI (pn i))]))
abbrev jFA (g : jG) (cs : Nat → Nat) (pf : Nat → Nat → Int32) : Nat → Nat × va_E := fun i => (cs i, jaI g 224 (pf i))
abbrev jFR (g : jG) (tr pn : Nat → Nat) (pf : Nat → Nat → Int32) : Nat → Nat × va_E := fun i => (tr i, jaI g 253 (jrw (pn i) (pf i)))
abbrev jcF (g : jG) (x0 mp N rp len lt p1 p2 cz vr v1 v2 dg : Nat) (lk cd lka cda lkb cdb ln gd : Int32) (row vv wa wb h0 : Nat → Int64) (T : Nat → Option Nat) : va_W := [(x0, .inr (3, [.ref mp, .int (nI N), .ref rp, .int (nI len), .ref lt, .ref p1, .ref p2, .ref cz])), (mp, jaP g 10 T), (rp, jaL g 40 row), (lt, .inr (2, [.ref vr, .int lk, .int cd])), (vr, jaL g 4 vv), (p1, .inr (2, [.ref v1, .int lka, .int cda])), (v1, jaL g 4 wa), (p2, .inr (2, [.ref v2, .int lkb, .int cdb])), (v2, jaL g 4 wb), (cz, .inr (0, [.ref dg, .int ln, .int gd])), (dg, jaL g 6 h0)]
abbrev jrF (g : jG) (m0 : Nat) (th : Int32) (N tb md rw0 len cs va : Nat) (lkr : Int32) (rn kp : Nat) (tr : Nat → Nat) (n0 : Nat) (f0 : Nat → Int32) (row cf vw rf kf : Nat → Int64) : va_W := [(m0, .inr (4, [.int th, .int (nI N), .ref tb, .ref md, .ref rw0, .int (nI len), .ref cs, .ref va, .int lkr, .ref rn, .ref kp])), (tb, jaR g 10 (fun i => some (tr i))), (md, jaI g 253 (jrw n0 f0)), (rw0, jaL g 40 row), (cs, jaL g 6 cf), (va, jaL g 4 vw), (rn, jaL g 5 rf), (kp, jaL g 4 kf)]
/-- the class's world: N programs, the row's len numbers, the latest run -/
def jCW (g : jG) (x0 N : Nat) (pn : Nat → Nat) (pf : Nat → Nat → Int32) (len : Nat) (row vv : Nat → Int64) (lk : Int32) (w : va_W) : Prop :=
  ∃ (mp rp lt p1 p2 cz vr v1 v2 dg : Nat) (cd lka cda lkb cdb ln gd : Int32) (wa wb h0 : Nat → Int64) (T : Nat → Option Nat) (qs cs : Nat → Nat), (∀ i, i < N → T i = some (qs i)) ∧ (∀ i, N ≤ i → T i = none) ∧ w.Perm (jcF g x0 mp N rp len lt p1 p2 cz vr v1 v2 dg lk cd lka cda lkb cdb ln gd row vv wa wb h0 T ++ (jpl (jFO qs cs pn) N ++ jpl (jFA g cs pf) N))
/-- the reference's -/
def jRW (g : jG) (m0 N : Nat) (pn : Nat → Nat) (pf : Nat → Nat → Int32) (len : Nat) (row vv : Nat → Int64) (lk th : Int32) (w : va_W) : Prop :=
  ∃ (tb md rw0 cs va rn kp : Nat) (lkr : Int32) (tr : Nat → Nat) (n0 : Nat) (f0 : Nat → Int32) (cf vw kf : Nat → Int64), w.Perm (jrF g m0 th N tb md rw0 len cs va lkr rn kp tr n0 f0 row cf vw (jRan vv lk) kf ++ jpl (jFR g tr pn pf) 10)
/-- what holds of what calls show -/
def jMok (N : Nat) (pn : Nat → Nat) (pf : Nat → Nat → Int32) (len : Nat) : Prop := N ≤ 10 ∧ len ≤ 40 ∧ (∀ i, i < N → jOk (pn i) (pf i)) ∧ ∀ i, N ≤ i → pn i = 0 ∧ pf i = fun _ => 0
theorem jMok_k {N : Nat} {pn : Nat → Nat} {pf : Nat → Nat → Int32} {len k n : Nat} {f : Nat → Int32} (h : jMok N pn pf len) (hk : k < N) (hn : jOk n f) : jMok N (up1 pn k n) (up1 pf k f) len := by
  refine ⟨h.1, h.2.1, fun i hi => ?_, fun i hi => ?_⟩
  · by_cases e : i = k
    · subst e; rw [up1_eq, up1_eq]; exact hn
    · rw [up1_ne e, up1_ne e]; exact h.2.2.1 i hi
  · have e : i ≠ k := by omega
    rw [up1_ne e, up1_ne e]; exact h.2.2.2 i hi
theorem jMok_g {N : Nat} {pn : Nat → Nat} {pf : Nat → Nat → Int32} {len n : Nat} {f : Nat → Int32} (h : jMok N pn pf len) (hN : N < 10) (hn : jOk n f) : jMok (N + 1) (up1 pn N n) (up1 pf N f) len := by
  refine ⟨by omega, h.2.1, fun i hi => ?_, fun i hi => ?_⟩
  · by_cases e : i = N
    · subst e; rw [up1_eq, up1_eq]; exact hn
    · rw [up1_ne e, up1_ne e]; exact h.2.2.1 i (by omega)
  · have e : i ≠ N := by omega
    rw [up1_ne e, up1_ne e]; exact h.2.2.2 i (by omega)
theorem jMok_l {N : Nat} {pn : Nat → Nat} {pf : Nat → Nat → Int32} {len len' : Nat} (h : jMok N pn pf len) (hl : len' ≤ 40) : jMok N pn pf len' := ⟨h.1, hl, h.2.2⟩
theorem jOk_0 : jOk 0 (fun _ => 0) := ⟨by decide, fun k hk => absurd hk (Nat.not_lt_zero _)⟩
/-! pools -/
def jrest2 (F : Nat → Nat × va_E) (N k k2 : Nat) : va_W := (((List.range N).erase k).erase k2).map F
theorem jpl_k {F : Nat → Nat × va_E} {N k k2 : Nat} (hk : k < N) (hk2 : k2 < N) (hne : k2 ≠ k) : (jpl F N).Perm (F k :: F k2 :: jrest2 F N k k2) := by
  have h := (List.perm_cons_erase (a := k) (List.mem_range.mpr hk))
  have h2 := (List.perm_cons_erase (a := k2) ((List.nodup_range (n := N)).mem_erase_iff.mpr ⟨hne, List.mem_range.mpr hk2⟩))
  exact (h.trans (List.Perm.cons _ h2)).map F
theorem jrest2_cong {F F' : Nat → Nat × va_E} {N k k2 : Nat} (h : ∀ i, i < N → i ≠ k → i ≠ k2 → F i = F' i) : jrest2 F N k k2 = jrest2 F' N k k2 := by
  unfold jrest2
  apply List.map_congr_left
  intro i hi
  have h1 := ((List.nodup_range (n := N)).erase k).mem_erase_iff.mp hi
  have h2 := (List.nodup_range (n := N)).mem_erase_iff.mp h1.2
  exact h i (List.mem_range.mp h2.2) h2.1 h1.1
theorem jq_k {X : va_W} {F G : Nat → Nat × va_E} {N k : Nat} (hk : k < N) : (X ++ (jpl F N ++ jpl G N)).Perm (X ++ (F k :: G k :: (jrest F N k ++ jrest G N k))) := (jpl_q2 hk).append_left X
theorem jq_u {X : va_W} {F G F' G' : Nat → Nat × va_E} {N k : Nat} (hk : k < N) (hF : ∀ i, i < N → i ≠ k → F i = F' i) (hG : ∀ i, i < N → i ≠ k → G i = G' i) : (X ++ (F' k :: G' k :: (jrest F N k ++ jrest G N k))).Perm (X ++ (jpl F' N ++ jpl G' N)) := by
  rw [jrest_cong hF, jrest_cong hG]
  exact (jpl_p2 hk).append_left X
theorem jq_2 {X : va_W} {F G : Nat → Nat × va_E} {N k k2 : Nat} (hk : k < N) (hk2 : k2 < N) (hne : k2 ≠ k) : (X ++ (jpl F N ++ jpl G N)).Perm (X ++ (F k :: G k :: F k2 :: G k2 :: (jrest2 F N k k2 ++ jrest2 G N k k2))) := by
  refine List.Perm.append_left X ?_
  refine ((jpl_k (F := F) hk hk2 hne).append (jpl_k (F := G) hk hk2 hne)).trans ?_
  show (F k :: F k2 :: (jrest2 F N k k2 ++ G k :: G k2 :: jrest2 G N k k2)).Perm _
  refine List.Perm.cons _ ?_
  refine (List.Perm.cons _ List.perm_middle).trans ?_
  refine (List.Perm.swap _ _ _).trans (List.Perm.cons _ (List.Perm.cons _ List.perm_middle))
theorem jq_g {X : va_W} {F G F' G' : Nat → Nat × va_E} {N : Nat} {a b : Nat × va_E} (hF : ∀ i, i < N → F i = F' i) (hG : ∀ i, i < N → G i = G' i) (ha : F' N = a) (hb : G' N = b) : ((X ++ (jpl F N ++ jpl G N)) ++ [a, b]).Perm (X ++ (jpl F' (N + 1) ++ jpl G' (N + 1))) := by
  subst ha; subst hb
  rw [jpl_cong hF, jpl_cong hG, List.append_assoc, ← jpl_succ, ← jpl_succ]
  refine List.Perm.append_left X ?_
  rw [List.append_assoc, List.append_assoc]
  refine List.Perm.append_left _ ?_
  show (jpl G' N ++ [F' N, G' N]).Perm (F' N :: (jpl G' N ++ [G' N]))
  exact List.perm_middle
theorem jr_k {X : va_W} {F : Nat → Nat × va_E} {N k : Nat} (hk : k < N) : (X ++ jpl F N).Perm (X ++ (F k :: jrest F N k)) := (jpl_q hk).append_left X
theorem jr_u {X : va_W} {F F' : Nat → Nat × va_E} {N k : Nat} (hk : k < N) (hF : ∀ i, i < N → i ≠ k → F i = F' i) : (X ++ (F' k :: jrest F N k)).Perm (X ++ jpl F' N) := by
  rw [jrest_cong hF]
  exact (jpl_p hk).append_left X
theorem jr_2 {X : va_W} {F : Nat → Nat × va_E} {N k k2 : Nat} (hk : k < N) (hk2 : k2 < N) (hne : k2 ≠ k) : (X ++ jpl F N).Perm (X ++ (F k :: F k2 :: jrest2 F N k k2)) := (jpl_k hk hk2 hne).append_left X
theorem jr_u2 {X : va_W} {F F' : Nat → Nat × va_E} {N k k2 : Nat} (hk : k < N) (hk2 : k2 < N) (hne : k2 ≠ k) (hF : ∀ i, i < N → i ≠ k2 → F i = F' i) : (X ++ (F k :: F' k2 :: jrest2 F N k k2)).Perm (X ++ jpl F' N) := by
  rw [jrest2_cong (fun i h1 _ h3 => hF i h1 h3), hF k hk (Ne.symm hne)]
  exact ((jpl_k hk hk2 hne).append_left X).symm
/-! a turn of the law: the class's wrapper and the reference, each on its own side -/
def jTurn (l : Launch) (g : jG) (x0 m0 out : Nat) (yL : MethodName) (wsL : List Cond) (yR : MethodName) (wsR : List Cond) (As : List Value) (Wc Wr : va_W) (o : Nat → Int64) : Prop :=
  ∃ (kk b : Int32) (rm rm2 : Room) (N : Nat) (pn : Nat → Nat) (pf : Nat → Nat → Int32) (len : Nat) (row vv : Nat → Int64) (lk : Int32), jMok N pn pf len ∧ (rm.frames ≤ 10 ∧ rm.locals ≤ 420 ∧ rm.cells ≤ 2 ∧ rm.slots ≤ 226) ∧ (rm2.frames ≤ 9 ∧ rm2.locals ≤ 400 ∧ rm2.cells ≤ 2 ∧ rm2.slots ≤ 226) ∧
    jO l yL wsL rm g (.ref x0 :: (As ++ [.ref out])) ((out, jaL g 1 o) :: Wc) (jOi kk) (fun w => ∃ o' w1, w = (out, jaL g 1 o') :: w1 ∧ jCW g x0 N pn pf len row vv lk w1 ∧ (kk = 0 → o' 0 = b.toInt64)) ∧
    jO l yR wsR rm2 g (.ref m0 :: As) Wr (jOi b) (jRW g m0 N pn pf len row vv lk kk)
section JTURN
variable {l : Launch} {g : jG} {x0 m0 out : Nat} {yL : MethodName} {wsL : List Cond} {yR : MethodName} {wsR : List Cond} {As : List Value} {Wc Wr : va_W} {o : Nat → Int64} {N : Nat} {pn : Nat → Nat} {pf : Nat → Nat → Int32} {len : Nat} {row vv : Nat → Int64} {lk : Int32} {rm rm2 : Room}
theorem jT_bad {kk b : Int32} (hkk : kk ≠ 0) (hok : jMok N pn pf len) (hc : jCW g x0 N pn pf len row vv lk Wc) (h1 : rm.frames ≤ 10 ∧ rm.locals ≤ 420 ∧ rm.cells ≤ 2 ∧ rm.slots ≤ 226) (h2 : rm2.frames ≤ 9 ∧ rm2.locals ≤ 400 ∧ rm2.cells ≤ 2 ∧ rm2.slots ≤ 226)
    (hL : jO l yL wsL rm g (.ref x0 :: (As ++ [.ref out])) ((out, jaL g 1 o) :: Wc) (jOi kk) (fun w => w = (out, jaL g 1 o) :: Wc)) (hR : jO l yR wsR rm2 g (.ref m0 :: As) Wr (jOi b) (jRW g m0 N pn pf len row vv lk kk)) : jTurn l g x0 m0 out yL wsL yR wsR As Wc Wr o :=
  ⟨kk, b, rm, rm2, N, pn, pf, len, row, vv, lk, hok, h1, h2, jO_imp (fun w h => ⟨o, Wc, h, hc, fun z => absurd z hkk⟩) hL, hR⟩
theorem jT_good {v : Int32} (hok : jMok N pn pf len) (h1 : rm.frames ≤ 10 ∧ rm.locals ≤ 420 ∧ rm.cells ≤ 2 ∧ rm.slots ≤ 226) (h2 : rm2.frames ≤ 9 ∧ rm2.locals ≤ 400 ∧ rm2.cells ≤ 2 ∧ rm2.slots ≤ 226)
    (hL : jO l yL wsL rm g (.ref x0 :: (As ++ [.ref out])) ((out, jaL g 1 o) :: Wc) (jOi 0) (fun w => ∃ w1, jCW g x0 N pn pf len row vv lk w1 ∧ w = (out, jaL g 1 (vp_updL o 0 v.toInt64)) :: w1)) (hR : jO l yR wsR rm2 g (.ref m0 :: As) Wr (jOi v) (jRW g m0 N pn pf len row vv lk 0)) : jTurn l g x0 m0 out yL wsL yR wsR As Wc Wr o :=
  ⟨0, v, rm, rm2, N, pn, pf, len, row, vv, lk, hok, h1, h2, jO_imp (fun w ⟨w1, h, e⟩ => ⟨_, w1, e, h, fun _ => if_pos rfl⟩) hL, hR⟩
end JTURN
theorem jCW_x0 {g : jG} {x0 N : Nat} {pn : Nat → Nat} {pf : Nat → Nat → Int32} {len : Nat} {row vv : Nat → Int64} {lk : Int32} {w : va_W} (h : jCW g x0 N pn pf len row vv lk w) : ∃ (i : Nat) (fs : List Value), w[i]? = some (x0, (.inr (3, fs) : va_E)) := by
  obtain ⟨mp, rp, lt, p1, p2, cz, vr, v1, v2, dg, cd, lka, cda, lkb, cdb, ln, gd, wa, wb, h0, T, qs, cs, h1, h2, hp⟩ := h
  obtain ⟨i, hi⟩ := List.getElem?_of_mem (hp.mem_iff.mpr List.mem_cons_self)
  exact ⟨i, _, hi⟩
theorem jRW_m0 {g : jG} {m0 N : Nat} {pn : Nat → Nat} {pf : Nat → Nat → Int32} {len : Nat} {row vv : Nat → Int64} {lk th : Int32} {w : va_W} (h : jRW g m0 N pn pf len row vv lk th w) : ∃ (i : Nat) (fs : List Value), w[i]? = some (m0, (.inr (4, fs) : va_E)) := by
  obtain ⟨tb, md, rw0, cs, va, rn, kp, lkr, tr, n0, f0, cf, vw, kf, hp⟩ := h
  obtain ⟨i, hi⟩ := List.getElem?_of_mem (hp.mem_iff.mpr List.mem_cons_self)
  exact ⟨i, _, hi⟩
theorem jc_u {g : jG} {X : va_W} {qs cs pn : Nat → Nat} {pf : Nat → Nat → Int32} {N k n : Nat} {f : Nat → Int32} (hk : k < N) : (X ++ ((qs k, .inr (1, [.ref (cs k), .int (nI n)])) :: (cs k, jaI g 224 f) :: (jrest (jFO qs cs pn) N k ++ jrest (jFA g cs pf) N k))).Perm (X ++ (jpl (jFO qs cs (up1 pn k n)) N ++ jpl (jFA g cs (up1 pf k f)) N)) := by
  have h := jq_u (X := X) (F := jFO qs cs pn) (G := jFA g cs pf) (F' := jFO qs cs (up1 pn k n)) (G' := jFA g cs (up1 pf k f)) hk (fun i _ hi => by show (qs i, _) = (qs i, _); rw [up1_ne hi]) (fun i _ hi => by show (cs i, _) = (cs i, _); rw [up1_ne hi])
  have e1 : jFO qs cs (up1 pn k n) k = (qs k, .inr (1, [.ref (cs k), .int (nI n)])) := by show (qs k, _) = _; rw [up1_eq]
  have e2 : jFA g cs (up1 pf k f) k = (cs k, jaI g 224 f) := by show (cs k, _) = _; rw [up1_eq]
  rw [e1, e2] at h
  exact h
theorem jc_g {g : jG} {X : va_W} {qs cs pn : Nat → Nat} {pf : Nat → Nat → Int32} {N n a b : Nat} {f : Nat → Int32} : ((X ++ (jpl (jFO qs cs pn) N ++ jpl (jFA g cs pf) N)) ++ [(a, .inr (1, [.ref b, .int (nI n)])), (b, jaI g 224 f)]).Perm (X ++ (jpl (jFO (up1 qs N a) (up1 cs N b) (up1 pn N n)) (N + 1) ++ jpl (jFA g (up1 cs N b) (up1 pf N f)) (N + 1))) :=
  jq_g (fun i hi => by show (qs i, _) = (up1 qs N a i, _); rw [up1_ne (by omega), up1_ne (by omega), up1_ne (by omega)]) (fun i hi => by show (cs i, _) = (up1 cs N b i, _); rw [up1_ne (by omega), up1_ne (by omega)]) (by show (up1 qs N a N, _) = _; rw [up1_eq, up1_eq, up1_eq]) (by show (up1 cs N b N, _) = _; rw [up1_eq, up1_eq])
theorem jc_gk {g : jG} {X : va_W} {qs cs pn : Nat → Nat} {pf : Nat → Nat → Int32} {N k n a b : Nat} {f : Nat → Int32} (hk : k < N) : ((X ++ (jFO qs cs pn k :: jFA g cs pf k :: (jrest (jFO qs cs pn) N k ++ jrest (jFA g cs pf) N k))) ++ [(a, .inr (1, [.ref b, .int (nI n)])), (b, jaI g 224 f)]).Perm (X ++ (jpl (jFO (up1 qs N a) (up1 cs N b) (up1 pn N n)) (N + 1) ++ jpl (jFA g (up1 cs N b) (up1 pf N f)) (N + 1))) :=
  ((jq_k hk).symm.append_right _).trans jc_g
theorem jr_up {g : jG} {X : va_W} {tr pn : Nat → Nat} {pf : Nat → Nat → Int32} {N k n : Nat} {f : Nat → Int32} (hk : k < N) : (X ++ ((tr k, jaI g 253 (jrw n f)) :: jrest (jFR g tr pn pf) N k)).Perm (X ++ jpl (jFR g tr (up1 pn k n) (up1 pf k f)) N) := by
  have h := jr_u (X := X) (F := jFR g tr pn pf) (F' := jFR g tr (up1 pn k n) (up1 pf k f)) hk (fun i _ hi => by show (tr i, _) = (tr i, _); rw [up1_ne hi, up1_ne hi])
  have e1 : jFR g tr (up1 pn k n) (up1 pf k f) k = (tr k, jaI g 253 (jrw n f)) := by show (tr k, _) = _; rw [up1_eq, up1_eq]
  rw [e1] at h
  exact h
theorem jr_up2 {g : jG} {X : va_W} {tr pn : Nat → Nat} {pf : Nat → Nat → Int32} {N k k2 n : Nat} {f : Nat → Int32} (hk : k < N) (hk2 : k2 < N) (hne : k2 ≠ k) : (X ++ (jFR g tr pn pf k :: (tr k2, jaI g 253 (jrw n f)) :: jrest2 (jFR g tr pn pf) N k k2)).Perm (X ++ jpl (jFR g tr (up1 pn k2 n) (up1 pf k2 f)) N) := by
  have h := jr_u2 (X := X) (F := jFR g tr pn pf) (F' := jFR g tr (up1 pn k2 n) (up1 pf k2 f)) hk hk2 hne (fun i _ hi => by show (tr i, _) = (tr i, _); rw [up1_ne hi, up1_ne hi])
  have e1 : jFR g tr (up1 pn k2 n) (up1 pf k2 f) k2 = (tr k2, jaI g 253 (jrw n f)) := by show (tr k2, _) = _; rw [up1_eq, up1_eq]
  rw [e1] at h
  exact h
theorem jT_g1 {T : Nat → Option Nat} {qs : Nat → Nat} {N a : Nat} (h : ∀ i, i < N → T i = some (qs i)) : ∀ i, i < N + 1 → va_up T N (some a) i = some (up1 qs N a i) := fun i hi => by
  by_cases e : i = N
  · subst e; rw [up1_eq]; exact if_pos rfl
  · rw [up1_ne e]; exact (if_neg e).trans (h i (by omega))
theorem jT_g2 {T : Nat → Option Nat} {N a : Nat} (h : ∀ i, N ≤ i → T i = none) : ∀ i, N + 1 ≤ i → va_up T N (some a) i = none := fun i hi => (if_neg (by omega)).trans (h i (by omega))
/-! the calls whose answer is a long or a double, and those that can't be refused -/
def jTurnL (l : Launch) (g : jG) (x0 m0 out : Nat) (yL : MethodName) (wsL : List Cond) (yR : MethodName) (wsR : List Cond) (As : List Value) (Wc Wr : va_W) (o : Nat → Int64) : Prop :=
  ∃ (kk : Int32) (b : Int64) (rm rm2 : Room) (N : Nat) (pn : Nat → Nat) (pf : Nat → Nat → Int32) (len : Nat) (row vv : Nat → Int64) (lk : Int32), jMok N pn pf len ∧ (rm.frames ≤ 10 ∧ rm.locals ≤ 420 ∧ rm.cells ≤ 2 ∧ rm.slots ≤ 226) ∧ (rm2.frames ≤ 9 ∧ rm2.locals ≤ 400 ∧ rm2.cells ≤ 2 ∧ rm2.slots ≤ 226) ∧
    jO l yL wsL rm g (.ref x0 :: (As ++ [.ref out])) ((out, jaL g 1 o) :: Wc) (jOi kk) (fun w => ∃ o' w1, w = (out, jaL g 1 o') :: w1 ∧ jCW g x0 N pn pf len row vv lk w1 ∧ (kk = 0 → o' 0 = b)) ∧
    jO l yR wsR rm2 g (.ref m0 :: As) Wr (jOl b) (jRW g m0 N pn pf len row vv lk kk)
def jTurnD (l : Launch) (g : jG) (x0 m0 out : Nat) (yL : MethodName) (wsL : List Cond) (yR : MethodName) (wsR : List Cond) (As : List Value) (Wc Wr : va_W) (o : Nat → UInt64) : Prop :=
  ∃ (kk : Int32) (b : UInt64) (rm rm2 : Room) (N : Nat) (pn : Nat → Nat) (pf : Nat → Nat → Int32) (len : Nat) (row vv : Nat → Int64) (lk : Int32), jMok N pn pf len ∧ (rm.frames ≤ 10 ∧ rm.locals ≤ 420 ∧ rm.cells ≤ 2 ∧ rm.slots ≤ 226) ∧ (rm2.frames ≤ 9 ∧ rm2.locals ≤ 400 ∧ rm2.cells ≤ 2 ∧ rm2.slots ≤ 226) ∧
    jO l yL wsL rm g (.ref x0 :: (As ++ [.ref out])) ((out, jaD g 1 o) :: Wc) (jOi kk) (fun w => ∃ o' w1, w = (out, jaD g 1 o') :: w1 ∧ jCW g x0 N pn pf len row vv lk w1 ∧ (kk = 0 → o' 0 = b)) ∧
    jO l yR wsR rm2 g (.ref m0 :: As) Wr (jOd b) (jRW g m0 N pn pf len row vv lk kk)
def jTurnP (l : Launch) (g : jG) (x0 m0 : Nat) (yL : MethodName) (wsL : List Cond) (yR : MethodName) (wsR : List Cond) (Wc Wr : va_W) (oc : Outcome) : Prop :=
  ∃ (rm rm2 : Room) (N : Nat) (pn : Nat → Nat) (pf : Nat → Nat → Int32) (len : Nat) (row vv : Nat → Int64) (lk : Int32), jMok N pn pf len ∧ (rm.frames ≤ 10 ∧ rm.locals ≤ 400 ∧ rm.cells ≤ 2 ∧ rm.slots ≤ 226) ∧ (rm2.frames ≤ 9 ∧ rm2.locals ≤ 400 ∧ rm2.cells ≤ 2 ∧ rm2.slots ≤ 226) ∧
    jO l yL wsL rm g [.ref x0] Wc oc (jCW g x0 N pn pf len row vv lk) ∧ jO l yR wsR rm2 g [.ref m0] Wr oc (jRW g m0 N pn pf len row vv lk 0)
section JTURN2
variable {l : Launch} {g : jG} {x0 m0 out : Nat} {yL : MethodName} {wsL : List Cond} {yR : MethodName} {wsR : List Cond} {As : List Value} {Wc Wr : va_W} {N : Nat} {pn : Nat → Nat} {pf : Nat → Nat → Int32} {len : Nat} {row vv : Nat → Int64} {lk : Int32} {rm rm2 : Room}
theorem jT_badL {o : Nat → Int64} {kk : Int32} {b : Int64} (hkk : kk ≠ 0) (hok : jMok N pn pf len) (hc : jCW g x0 N pn pf len row vv lk Wc) (h1 : rm.frames ≤ 10 ∧ rm.locals ≤ 420 ∧ rm.cells ≤ 2 ∧ rm.slots ≤ 226) (h2 : rm2.frames ≤ 9 ∧ rm2.locals ≤ 400 ∧ rm2.cells ≤ 2 ∧ rm2.slots ≤ 226)
    (hL : jO l yL wsL rm g (.ref x0 :: (As ++ [.ref out])) ((out, jaL g 1 o) :: Wc) (jOi kk) (fun w => w = (out, jaL g 1 o) :: Wc)) (hR : jO l yR wsR rm2 g (.ref m0 :: As) Wr (jOl b) (jRW g m0 N pn pf len row vv lk kk)) : jTurnL l g x0 m0 out yL wsL yR wsR As Wc Wr o :=
  ⟨kk, b, rm, rm2, N, pn, pf, len, row, vv, lk, hok, h1, h2, jO_imp (fun w h => ⟨o, Wc, h, hc, fun z => absurd z hkk⟩) hL, hR⟩
theorem jT_goodL {o : Nat → Int64} {v : Int64} (hok : jMok N pn pf len) (h1 : rm.frames ≤ 10 ∧ rm.locals ≤ 420 ∧ rm.cells ≤ 2 ∧ rm.slots ≤ 226) (h2 : rm2.frames ≤ 9 ∧ rm2.locals ≤ 400 ∧ rm2.cells ≤ 2 ∧ rm2.slots ≤ 226)
    (hL : jO l yL wsL rm g (.ref x0 :: (As ++ [.ref out])) ((out, jaL g 1 o) :: Wc) (jOi 0) (fun w => ∃ w1, jCW g x0 N pn pf len row vv lk w1 ∧ w = (out, jaL g 1 (vp_updL o 0 v)) :: w1)) (hR : jO l yR wsR rm2 g (.ref m0 :: As) Wr (jOl v) (jRW g m0 N pn pf len row vv lk 0)) : jTurnL l g x0 m0 out yL wsL yR wsR As Wc Wr o :=
  ⟨0, v, rm, rm2, N, pn, pf, len, row, vv, lk, hok, h1, h2, jO_imp (fun w ⟨w1, h, e⟩ => ⟨_, w1, e, h, fun _ => if_pos rfl⟩) hL, hR⟩
theorem jT_badD {o : Nat → UInt64} {kk : Int32} {b : UInt64} (hkk : kk ≠ 0) (hok : jMok N pn pf len) (hc : jCW g x0 N pn pf len row vv lk Wc) (h1 : rm.frames ≤ 10 ∧ rm.locals ≤ 420 ∧ rm.cells ≤ 2 ∧ rm.slots ≤ 226) (h2 : rm2.frames ≤ 9 ∧ rm2.locals ≤ 400 ∧ rm2.cells ≤ 2 ∧ rm2.slots ≤ 226)
    (hL : jO l yL wsL rm g (.ref x0 :: (As ++ [.ref out])) ((out, jaD g 1 o) :: Wc) (jOi kk) (fun w => w = (out, jaD g 1 o) :: Wc)) (hR : jO l yR wsR rm2 g (.ref m0 :: As) Wr (jOd b) (jRW g m0 N pn pf len row vv lk kk)) : jTurnD l g x0 m0 out yL wsL yR wsR As Wc Wr o :=
  ⟨kk, b, rm, rm2, N, pn, pf, len, row, vv, lk, hok, h1, h2, jO_imp (fun w h => ⟨o, Wc, h, hc, fun z => absurd z hkk⟩) hL, hR⟩
theorem jT_goodD {o : Nat → UInt64} {v : UInt64} (hok : jMok N pn pf len) (h1 : rm.frames ≤ 10 ∧ rm.locals ≤ 420 ∧ rm.cells ≤ 2 ∧ rm.slots ≤ 226) (h2 : rm2.frames ≤ 9 ∧ rm2.locals ≤ 400 ∧ rm2.cells ≤ 2 ∧ rm2.slots ≤ 226)
    (hL : jO l yL wsL rm g (.ref x0 :: (As ++ [.ref out])) ((out, jaD g 1 o) :: Wc) (jOi 0) (fun w => ∃ w1, jCW g x0 N pn pf len row vv lk w1 ∧ w = (out, jaD g 1 (vf_upd o 0 v)) :: w1)) (hR : jO l yR wsR rm2 g (.ref m0 :: As) Wr (jOd v) (jRW g m0 N pn pf len row vv lk 0)) : jTurnD l g x0 m0 out yL wsL yR wsR As Wc Wr o :=
  ⟨0, v, rm, rm2, N, pn, pf, len, row, vv, lk, hok, h1, h2, jO_imp (fun w ⟨w1, h, e⟩ => ⟨_, w1, e, h, fun _ => if_pos rfl⟩) hL, hR⟩
end JTURN2
/-- a contract over the world at hand but for what lies beside it -/
theorem jO_lP {l : Launch} {y : MethodName} {wsy : List Cond} {rm : Room} {g : jG} {As : List Value} {wc w1 W Rest : va_W} {z : Int64} (hM : jWl l y wsy rm g As wc w1 z) (hmc : rm.cells = 0) (hms : rm.slots = 0) (hp : W.Perm (Rest ++ wc)) (hfst : w1.map (·.1) = wc.map (·.1)) : jO l y wsy rm g As W (jOl z) (fun w => w = Rest ++ w1) := by
  intro sz p e ha hc hk' s m args below hf happ hP _
  rw [hmc, hms]
  obtain ⟨⟨h1, h2, h3, h4, h5⟩, hx, hz⟩ := hP
  obtain ⟨c2, c3⟩ := jW_cut hp h3 h5
  obtain ⟨n, o, q1, q2, q3, ⟨⟨r, u, e1, e2, e3⟩, hF⟩, L, hFr, hL⟩ := hM sz p e ha hc hk' s m args below hf happ ⟨h1, h2, c2, h4, c3⟩ trivial
  have hsub : ∀ q, va_A wc sz q → va_A W sz q := fun q hq => by
    rcases jA_mem.mp hq with h | h
    · obtain ⟨z9, z1, z2⟩ := List.mem_map.mp h
      exact jA_mem.mpr (Or.inl (List.mem_map.mpr ⟨z9, hp.mem_iff.mpr (List.mem_append_right _ z1), z2⟩))
    · exact jA_mem.mpr (Or.inr h)
  subst h2
  obtain ⟨j1, j2⟩ := jW_join (jP_perm hp h3) (jD_perm hp h5.self) hsub hF.2 e3 (jD_fst hfst c3.self)
  exact ⟨n, o, q1, q2, q3, ⟨⟨by rw [e1, e2], _, rfl, j1, j2⟩, jF_wide hsub hF⟩, L, hFr, fun q hq => hsub _ (hL q hq)⟩
theorem jpl_10 (F : Nat → Nat × va_E) {N : Nat} (hN : N ≤ 10) : jpl F 10 = jpl F N ++ ((List.range' N (10 - N)).map F) := by
  unfold jpl
  rw [← List.map_append]
  congr 1
  rw [List.range_eq_range', List.range_eq_range']
  have h := List.range'_append (s := 0) (m := N) (n := 10 - N) (step := 1)
  rw [show N + (10 - N) = 10 by omega] at h
  rw [← h]
  congr 2
  omega
theorem jP8 {α : Type} {a b c d e f u h : α} {X : List α} : ([a, b, c, d, e, f, u, h] ++ X).Perm ([c, e, f, h] ++ (a :: b :: d :: u :: X)) := by
  have h1 : ([a, b, c, d, e, f, u, h] ++ X).Perm ([a, b, d, u, c, e, f, h] ++ X) := by
    refine List.Perm.append_right X ?_
    refine List.Perm.cons _ (List.Perm.cons _ ((List.Perm.swap d c _).trans (List.Perm.cons _ ?_)))
    exact List.perm_middle (a := u) (l₁ := [c, e, f]) (l₂ := [h])
  refine h1.trans ?_
  show ([a, b, d, u] ++ ([c, e, f, h] ++ X)).Perm ([c, e, f, h] ++ ([a, b, d, u] ++ X))
  rw [← List.append_assoc, ← List.append_assoc]
  exact List.perm_append_comm.append_right X
theorem jP11 {α : Type} {R X : List α} {a b c d e : α} : ([a, b, c, d, e] ++ R ++ X).Perm (R ++ (a :: b :: c :: d :: e :: X)) := by
  show ([a, b, c, d, e] ++ R ++ X).Perm (R ++ ([a, b, c, d, e] ++ X))
  rw [← List.append_assoc]
  exact List.perm_append_comm.append_right X
theorem jBt_5c {x : Int32} (h : jBt x 0 5 = true) : x = 0 ∨ x = 1 ∨ x = 2 ∨ x = 3 ∨ x = 4 ∨ x = 5 := by
  rw [show (5 : Int32) = nI 6 - 1 from by decide] at h
  obtain ⟨k, hk, e⟩ := (jBt_nat (by decide)).mp h
  rcases (show k = 0 ∨ k = 1 ∨ k = 2 ∨ k = 3 ∨ k = 4 ∨ k = 5 by omega) with rfl | rfl | rfl | rfl | rfl | rfl
  · exact Or.inl (by rw [e]; rfl)
  · exact Or.inr (Or.inl (by rw [e]; rfl))
  · exact Or.inr (Or.inr (Or.inl (by rw [e]; rfl)))
  · exact Or.inr (Or.inr (Or.inr (Or.inl (by rw [e]; rfl))))
  · exact Or.inr (Or.inr (Or.inr (Or.inr (Or.inl (by rw [e]; rfl)))))
  · exact Or.inr (Or.inr (Or.inr (Or.inr (Or.inr (by rw [e]; rfl)))))
theorem jpow_le {d v : Nat} (hd : d ≤ 6) (hv : v ≤ 4) : v ^ d ≤ 1024 ∨ (d = 6 ∧ v = 4) :=
  (show ∀ d : Fin 7, ∀ v : Fin 5, v.1 ^ d.1 ≤ 1024 ∨ (d.1 = 6 ∧ v.1 = 4) by decide +kernel) ⟨d, by omega⟩ ⟨v, by omega⟩
theorem jPdg {F : Nat → Nat × va_E} {N : Nat} {a b c d e f u h : Nat × va_E} (hN : N ≤ 10) : ([a, b, c, d, e, f, u, h] ++ jpl F 10).Perm (([c, e, f, h] ++ (List.range' N (10 - N)).map F) ++ (a :: b :: d :: u :: jpl F N)) := by
  rw [jpl_10 F hN]
  refine jP8.trans ?_
  rw [List.append_assoc]
  refine List.Perm.append_left _ ?_
  show (([a, b, d, u] ++ jpl F N) ++ (List.range' N (10 - N)).map F).Perm ((List.range' N (10 - N)).map F ++ ([a, b, d, u] ++ jpl F N))
  exact List.perm_append_comm
