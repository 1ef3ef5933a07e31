/-! a run looks only at the numbers that are there -/
theorem jPl_cong {f : Nat → Int32} {k a u w len : Nat} {row row' : Nat → Int64} {up : Bool} (h : ∀ x, x < len → row x = row' x) : ∀ (m i : Nat) (vv : Nat → Int64) (lk cd : Int32), m = 0 ∨ i + m ≤ len → jPl f k a row up u w len m i vv lk cd = jPl f k a row' up u w len m i vv lk cd
  | 0, _, _, _, _, _ => rfl
  | m + 1, i, vv, lk, cd, hm => by
    have e : row (jPos up u w len i) = row' (jPos up u w len i) := h _ (by unfold jPos; split <;> omega)
    rw [jPl_s, jPl_s, e]
    split
    · exact jPl_cong h m (i + 1) _ _ _ (by omega)
    · rfl
theorem jLp_cong {f : Nat → Int32} {k len : Nat} {row row' : Nat → Int64} (h : ∀ x, x < len → row x = row' x) (vv : Nat → Int64) (lk cd : Int32) : jLp f k row len vv lk cd = jLp f k row' len vv lk cd := by
  unfold jLp
  exact jPl_cong h _ _ _ _ _ (by omega)
theorem jLs_cong {f : Nat → Int32} {len : Nat} {row row' : Nat → Int64} (h : ∀ x, x < len → row x = row' x) : ∀ (m k : Nat) (vv : Nat → Int64) (lk cd : Int32), jLs f row len m k vv lk cd = jLs f row' len m k vv lk cd
  | 0, _, _, _, _ => rfl
  | m + 1, k, vv, lk, cd => by
    rw [jLs_s, jLs_s, jLp_cong h]
    split
    · exact jLs_cong h m (k + 1) _ _ _
    · rfl
theorem jRn_cong {n len : Nat} {f : Nat → Int32} {row row' : Nat → Int64} (h : ∀ x, x < len → row x = row' x) : jRn n f row len = jRn n f row' len := jLs_cong h _ _ _ _ _
/-- the row of digits of a number -/
def jCs (d v x : Nat) : Nat → Int64 := jLy d v x 0 (fun _ => 0)
theorem jRn_cs {n d v x : Nat} {f : Nat → Int32} {cf : Nat → Int64} : jRn n f (jLy d v x 0 cf) d = jRn n f (jCs d v x) d := jRn_cong (fun i hi => by unfold jCs jLy; rw [if_pos (by omega), if_pos (by omega)])
/-- whether two programs answer the same over the x-th row -/
def jSm (n : Nat) (f : Nat → Int32) (n2 : Nat) (f2 : Nat → Int32) (d v x : Nat) : Bool := jAL (jRn n f (jCs d v x) d).1 (jRn n f (jCs d v x) d).2.2 (jRn n2 f2 (jCs d v x) d).1 (jRn n2 f2 (jCs d v x) d).2.2
def jDf (S : Nat → Bool) : Nat → Nat → Nat → Nat
  | 0, _, q => q
  | m + 1, x, q => jDf S m (x + 1) (if S x = true then q else q + 1)
theorem jDf_s (S : Nat → Bool) (m x q : Nat) : jDf S (m + 1) x q = jDf S m (x + 1) (if S x = true then q else q + 1) := rfl
def jFc (S : Nat → Bool) : Nat → Nat → Int32
  | 0, _ => -1
  | m + 1, x => if S x = true then jFc S m (x + 1) else nI x
theorem jFc_s (S : Nat → Bool) (m x : Nat) : jFc S (m + 1) x = if S x = true then jFc S m (x + 1) else nI x := rfl
def jCo (b : Bool) (K : Nat → Int32) : Nat → Nat → Int32 → Int32
  | 0, _, t => t
  | m + 1, x, t => jCo b K m (x + 1) (if b = true then (if t < K x then K x else t) else t + K x)
theorem jCo_s (b : Bool) (K : Nat → Int32) (m x : Nat) (t : Int32) : jCo b K (m + 1) x t = jCo b K m (x + 1) (if b = true then (if t < K x then K x else t) else t + K x) := rfl
def jKx (n : Nat) (f : Nat → Int32) (d v x : Nat) : Int32 := (jRn n f (jCs d v x) d).2.1
def jCx (n : Nat) (f : Nat → Int32) (d v x : Nat) : Bool := decide ((jRn n f (jCs d v x) d).2.2 = -1)
theorem jEq_all {vv v2 : Nat → Int64} : ∀ (m i : Nat) (b : Bool), (∀ x, i ≤ x → x < i + m → True) → True := fun _ _ _ _ => trivial
theorem jEqV_f {vv v2 : Nat → Int64} {m i : Nat} (h : ¬ vv i = v2 i) : jEqV vv v2 (m + 1) i = false := by rw [jEqV_s, if_neg h]
theorem jEqV_t {vv v2 : Nat → Int64} {m i : Nat} (h : vv i = v2 i) : jEqV vv v2 (m + 1) i = jEqV vv v2 m (i + 1) := by rw [jEqV_s, if_pos h]
theorem jdiv_n64 {x y : Int32} (hy : y ≠ 0) : vf_n64 (FP.ddiv (FP.i2d x) (FP.i2d y)) := by
  have h := FP.Core.ddiv_out (FP.Core.DFin.notNaN (FP.Core.i2d_fin x)) (FP.Core.i2d_fin y) (fun z => FP.Core.i2d_ne_zero hy ((FP.Core.zero_bits2 _).mp z))
  have h2 : ¬ 9218868437227405312 < (FP.ddiv (FP.i2d x) (FP.i2d y)).toNat % 2 ^ 63 := fun z => by
    rw [(FP.Core.isNaN_bits _).mpr z] at h
    cases h
  unfold vf_n64
  rw [UInt64.le_iff_toNat_le, UInt64.toNat_and, show (0x7fffffffffffffff : UInt64).toNat = 2 ^ 63 - 1 from rfl, Nat.and_two_pow_sub_one_eq_mod]
  show _ ≤ 9218868437227405312
  omega
