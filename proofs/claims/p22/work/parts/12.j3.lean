section JROWS3
variable {p : Program} {l : Launch} {e : Env} {R : Room} {s : State} {m : MethodId} {args : Array Value} {below : List Frame} {meth : Method} {c : Code} {Q : State → Prop} {A : Nat → Prop} {g : jG} {I : Heap → List Loc → Prop} {nL cells slots pc : Nat} {L : List (Nat × Value)} {st : List Value} {ws : va_W} {cc : ByteArray} {Ts : List Cond} {own : String}
theorem j_aldR {a n : Nat} {f : Nat → Option Nat} {i : Int32} {x : Nat} (q : Nat) (C : jC p s m args meth c cc Ts own nL A g) (hd : decode cc pc = .ok (.aaload, 1)) (hq : ws[q]? = some (a, jaR g n f)) (hi : i = nI x) (hx : x < n) (hn : n < 2 ^ 31) (k : jJ p l e R s m args below meth c Q A g I nL cells slots (pc + 1) L (va_rf (f x) :: st) ws) : jJ p l e R s m args below meth c Q A g I nL cells slots pc L (.int i :: .ref a :: st) ws := fun H locs ls h1 h2 h3 h4 => by
  subst hi
  have hin := vp_in_nI hx hn
  have hlt : (nI x).toNatClampNeg < n := by rw [nI_clamp (by omega)]; exact hx
  refine W.aald (v := va_rf (f (nI x).toNatClampNeg)) (ty := .array .int) C.1 C.2.1 (h2 q _ hq) ((C.2.2.2.2.2.2.1.1.2 4 _ rfl).1 n (fun j => va_rf (f j))) rfl (fun q => by cases q) (by show ¬ (nI x < 0 ∨ (arrV _ _ _).slots.size ≤ _); rw [arrV_size]; exact hin) (by show (arrV _ _ _).slots[_]? = _; rw [arrV_read _ _ hlt]) rfl rfl hd ?_
  rw [nI_clamp (by omega)]
  exact k H locs ls h1 h2 h3 h4
theorem j_aldPN {a n : Nat} {f : Nat → Option Nat} {i : Int32} {x : Nat} (q : Nat) (C : jC p s m args meth c cc Ts own nL A g) (hd : decode cc pc = .ok (.aaload, 1)) (hq : ws[q]? = some (a, jaP g n f)) (hi : i = nI x) (hx : x < n) (hn : n < 2 ^ 31) (k : jJ p l e R s m args below meth c Q A g I nL cells slots (pc + 1) L (va_rf (f x) :: st) ws) : jJ p l e R s m args below meth c Q A g I nL cells slots pc L (.int i :: .ref a :: st) ws := by
  subst hi
  refine j_aldP q C hd hq (vp_in_nI hx hn) ?_
  rw [nI_clamp (by omega)]
  exact k
/-- reading and writing the reference's row of a program -/
theorem j_ialdR {a n x y : Nat} {f : Nat → Int32} {i : Int32} (q : Nat) (C : jC p s m args meth c cc Ts own nL A g) (hd : decode cc pc = .ok (.iaload, 1)) (hq : ws[q]? = some (a, jaI g 253 (jrw n f))) (hi : i = nI x) (hy : x = y + 1) (hx : y < 252) (k : jJ p l e R s m args below meth c Q A g I nL cells slots (pc + 1) L (.int (f y) :: st) ws) : jJ p l e R s m args below meth c Q A g I nL cells slots pc L (.int i :: .ref a :: st) ws := by
  refine j_ialdN (x := x) q C hd hq hi (by omega) (by decide) ?_
  rw [jrw_s hy]
  exact k
theorem j_ialdR0 {a n : Nat} {f : Nat → Int32} {i : Int32} (q : Nat) (C : jC p s m args meth c cc Ts own nL A g) (hd : decode cc pc = .ok (.iaload, 1)) (hq : ws[q]? = some (a, jaI g 253 (jrw n f))) (hi : i = 0) (k : jJ p l e R s m args below meth c Q A g I nL cells slots (pc + 1) L (.int (nI n) :: st) ws) : jJ p l e R s m args below meth c Q A g I nL cells slots pc L (.int i :: .ref a :: st) ws :=
  j_ialdN (x := 0) q C hd hq hi (by decide) (by decide) k
theorem j_iastR {a n x y : Nat} {f : Nat → Int32} {i v : Int32} {ws' : va_W} (q : Nat) (C : jC p s m args meth c cc Ts own nL A g) (hd : decode cc pc = .ok (.iastore, 1)) (hq : ws[q]? = some (a, jaI g 253 (jrw n f))) (hi : i = nI x) (hy : x = y + 1) (hx : y < 252) (hs : ws.set q (a, jaI g 253 (jrw n (upd f y v))) = ws') (k : jJ p l e R s m args below meth c Q A g (va_S A s.heap) nL cells slots (pc + 1) L st ws') : jJ p l e R s m args below meth c Q A g (va_S A s.heap) nL cells slots pc L (.int v :: .int i :: .ref a :: st) ws := by
  refine j_iastN (x := x) q C hd hq hi (by omega) (by decide) ?_ k
  rw [jrw_u hy]
  exact hs
theorem j_iastR0 {a n n1 : Nat} {f : Nat → Int32} {i v : Int32} {ws' : va_W} (q : Nat) (C : jC p s m args meth c cc Ts own nL A g) (hd : decode cc pc = .ok (.iastore, 1)) (hq : ws[q]? = some (a, jaI g 253 (jrw n f))) (hi : i = 0) (hv : v = nI n1) (hs : ws.set q (a, jaI g 253 (jrw n1 f)) = ws') (k : jJ p l e R s m args below meth c Q A g (va_S A s.heap) nL cells slots (pc + 1) L st ws') : jJ p l e R s m args below meth c Q A g (va_S A s.heap) nL cells slots pc L (.int v :: .int i :: .ref a :: st) ws := by
  refine j_iastN (x := 0) q C hd hq hi (by decide) (by decide) ?_ k
  rw [hv, jrw_n]
  exact hs
theorem j_copyI {a0 a n0 n1 index sp dp n : Nat} {f f1 : Nat → Int32} {rest : List Value} {x y z : Int32} {ws' : va_W} (q0 q1 : Nat) (C : jC p s m args meth c cc Ts own nL A g) (hd : decode cc pc = .ok (.invokestatic index, 3)) (hl : Cond.methodLink own index arraycopyName ∈ Ts) (hnat : Cond.native arraycopyName ∈ Ts) (hstat : Cond.static arraycopyName ∈ Ts) (hini : Cond.initialized "java/lang/System" ∈ Ts) (hq0 : ws[q0]? = some (a0, jaI g n0 f)) (hq1 : ws[q1]? = some (a, jaI g n1 f1)) (hx : x = nI sp) (hy : y = nI dp) (hz : z = nI n) (h0 : sp + n ≤ n0) (h1 : dp + n ≤ n1) (hb0 : n0 < 2 ^ 31) (hb1 : n1 < 2 ^ 31) (hframes : 1 ≤ R.frames) (hlocals : (rest.map fun v => v.category).sum + (nativeFrameWords "java/lang/System" "arraycopy" 5 + 11) ≤ R.locals)
    (hs : ws.set q1 (a, jaI g n1 (va_cpy f f1 sp dp n)) = ws') (k : jJ p l e R s m args below meth c Q A g (va_S A s.heap) nL cells slots (pc + 3) L rest ws') : jJ p l e R s m args below meth c Q A g (va_S A s.heap) nL cells slots pc L (.int z :: .int y :: .ref a :: .int x :: .ref a0 :: rest) ws := fun H locs ls g1 g2 g3 g4 => by
  subst hx; subst hy; subst hz
  have e1 : (nI sp).toNatClampNeg = sp := nI_clamp (by omega)
  have e2 : (nI dp).toNatClampNeg = dp := nI_clamp (by omega)
  have e3 : (nI n).toNatClampNeg = n := nI_clamp (by omega)
  refine va_copyi (ty := .int) C.1 C.2.1 (C.2.2.1.trans g1.1.symm) C.2.2.2.1 (C.2.2.2.2.1 _ hl) (C.2.2.2.2.1 _ hnat) (C.2.2.2.2.1 _ hstat) (C.2.2.2.2.1 _ hini) C.2.2.2.2.2.2.1.1 g2 g3 g4 q0 q1 0 0 hq0 hq1 rfl rfl rfl (nI_pos (by omega)) (nI_pos (by omega)) (nI_pos (by omega)) (by rw [e1, e3]; exact h0) (by rw [e2, e3]; exact h1) (fun _ _ => rfl) hframes hlocals hd (fun H1 locs1 k2 k3 k4 => ?_)
  rw [e1, e2, e3, hs] at k2 k3
  exact k H1 locs1 ls g1 k2 k3 k4
theorem j_copyL {a0 a n0 n1 index sp dp n : Nat} {f f1 : Nat → Int64} {rest : List Value} {x y z : Int32} {ws' : va_W} (q0 q1 : Nat) (C : jC p s m args meth c cc Ts own nL A g) (hd : decode cc pc = .ok (.invokestatic index, 3)) (hl : Cond.methodLink own index arraycopyName ∈ Ts) (hnat : Cond.native arraycopyName ∈ Ts) (hstat : Cond.static arraycopyName ∈ Ts) (hini : Cond.initialized "java/lang/System" ∈ Ts) (hq0 : ws[q0]? = some (a0, jaL g n0 f)) (hq1 : ws[q1]? = some (a, jaL g n1 f1)) (hx : x = nI sp) (hy : y = nI dp) (hz : z = nI n) (h0 : sp + n ≤ n0) (h1 : dp + n ≤ n1) (hb0 : n0 < 2 ^ 31) (hb1 : n1 < 2 ^ 31) (hframes : 1 ≤ R.frames) (hlocals : (rest.map fun v => v.category).sum + (nativeFrameWords "java/lang/System" "arraycopy" 5 + 11) ≤ R.locals)
    (hs : ws.set q1 (a, jaL g n1 (va_cpy f f1 sp dp n)) = ws') (k : jJ p l e R s m args below meth c Q A g (va_S A s.heap) nL cells slots (pc + 3) L rest ws') : jJ p l e R s m args below meth c Q A g (va_S A s.heap) nL cells slots pc L (.int z :: .int y :: .ref a :: .int x :: .ref a0 :: rest) ws := fun H locs ls g1 g2 g3 g4 => by
  subst hx; subst hy; subst hz
  have e1 : (nI sp).toNatClampNeg = sp := nI_clamp (by omega)
  have e2 : (nI dp).toNatClampNeg = dp := nI_clamp (by omega)
  have e3 : (nI n).toNatClampNeg = n := nI_clamp (by omega)
  refine va_copyl (ty := .long) C.1 C.2.1 (C.2.2.1.trans g1.1.symm) C.2.2.2.1 (C.2.2.2.2.1 _ hl) (C.2.2.2.2.1 _ hnat) (C.2.2.2.2.1 _ hstat) (C.2.2.2.2.1 _ hini) C.2.2.2.2.2.2.1.1 g2 g3 g4 q0 q1 1 1 hq0 hq1 rfl rfl rfl (nI_pos (by omega)) (nI_pos (by omega)) (nI_pos (by omega)) (by rw [e1, e3]; exact h0) (by rw [e2, e3]; exact h1) (fun _ _ => rfl) hframes hlocals hd (fun H1 locs1 k2 k3 k4 => ?_)
  rw [e1, e2, e3, hs] at k2 k3
  exact k H1 locs1 ls g1 k2 k3 k4
end JROWS3
theorem jRm_c (f : Nat → Int32) {n k : Nat} (h : k < n) : va_cpy f f ((k + 1) * 28) (k * 28) (28 * (n - 1 - k)) = jRm f (k * 28) ((n - 1) * 28) := by
  funext i
  unfold va_cpy jRm
  by_cases e : k * 28 ≤ i ∧ i < (n - 1) * 28
  · rw [if_pos (by omega), if_pos e]
    congr 1
    omega
  · rw [if_neg (by omega), if_neg e]
theorem jRp_c (f : Nat → Int32) {n k : Nat} (h : k ≤ n) : va_cpy f f (k * 28) ((k + 1) * 28) (28 * (n - k)) = jRp f (n * 28) (k * 28) := by
  funext i
  unfold va_cpy jRp
  by_cases e : k * 28 + 28 ≤ i ∧ i < n * 28 + 28
  · rw [if_pos (by omega), if_pos e]
    congr 1
    omega
  · rw [if_neg (by omega), if_neg e]
theorem jRp_1 (f : Nat → Int32) {b x i : Nat} (h : i < x + 28) : jRp f b x i = f i := if_neg (by omega)
theorem jRp_2 (f : Nat → Int32) {b x i j : Nat} (h : i = j + 28) (h1 : x ≤ j) (h2 : j < b) : jRp f b x i = f j := by
  subst h
  unfold jRp
  rw [if_pos (by omega), Nat.add_sub_cancel]
theorem jReach_0 (f : Nat → Int32) (k : Nat) : ∀ m j, 0 < m + j → 0 < jReach f k m j
  | 0, j, h => by simpa [jReach] using h
  | m + 1, j, _ => by
    rw [jReach_s]
    split
    · omega
    · exact jReach_0 f k m (j + 1) (by omega)
/-- the steps' number in its place: it stays what it is where it was that already -/
theorem upd_self {f : Nat → Int32} {i : Nat} {v : Int32} (h : f i = v) : upd f i v = f := by
  funext j
  unfold upd
  by_cases e : j = i
  · rw [if_pos e, e, h]
  · rw [if_neg e]
theorem upd_upd {f : Nat → Int32} {i : Nat} {v w : Int32} : upd (upd f i v) i w = upd f i w := by
  funext j
  unfold upd
  by_cases e : j = i
  · rw [if_pos e, if_pos e]
  · rw [if_neg e, if_neg e, if_neg e]
