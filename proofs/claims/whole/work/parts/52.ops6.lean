theorem op_programs {l : Launch} {g : jG} {x0 m0 : Nat} {N : Nat} {pn : Nat → Nat} {pf : Nat → Nat → Int32} {len : Nat} {row vv : Nat → Int64} {lk th : Int32} {Wc Wr : va_W} (hok : jMok N pn pf len) (hc : jCW g x0 N pn pf len row vv lk Wc) (hr : jRW g m0 N pn pf len row vv lk th Wr) : jTurnP l g x0 m0 yX4_programs wsX4_programs yX5_programs wsX5_programs Wc Wr (jOi (nI N)) := by
  have hN : N ≤ 10 := hok.1
  have hl : len ≤ 40 := hok.2.1
  have hP := hok.2.2.1
  obtain ⟨mp, rp, lt, p1, p2, cz, vr, va1, va2, dg, cd, lka, cda, lkb, cdb, ln, gd, wa, wb, h0, T, qs, cs, hT1, hT2, hW⟩ := id hc
  obtain ⟨tb, md, rw0, csr, va, rn, kp, lkr, tr, n0, f0, cf, vw, kf, hR⟩ := id hr
  exact ⟨_, _, N, pn, pf, len, row, vv, lk, hok, ⟨by decide, by decide, by decide, by decide⟩, ⟨by decide, by decide, by decide, by decide⟩, (jO_perm hW (jO_imp (fun w hw => by subst hw; exact ⟨mp, rp, lt, p1, p2, cz, vr, va1, va2, dg, cd, lka, cda, lkb, cdb, ln, gd, wa, wb, h0, T, qs, cs, hT1, hT2, List.Perm.refl _⟩) (jO_ri [0] (c_X4_programs l g x0 mp N rp (nI len) lt p1 p2 cz) rfl rfl rfl rfl))), (jO_perm hR (jO_imp (fun w ⟨u, hw⟩ => by subst hw; exact ⟨tb, md, rw0, csr, va, rn, kp, lkr, tr, n0, f0, cf, vw, kf, List.Perm.refl _⟩) (jO_i (S := Unit) [0] (c_X5_programs l g m0 th (nI N) tb md rw0 (nI len) csr va lkr rn kp) rfl rfl rfl rfl (fun _ => rfl))))⟩
theorem op_empty {l : Launch} {g : jG} {x0 m0 : Nat} {N : Nat} {pn : Nat → Nat} {pf : Nat → Nat → Int32} {len : Nat} {row vv : Nat → Int64} {lk th : Int32} {Wc Wr : va_W} (hok : jMok N pn pf len) (hc : jCW g x0 N pn pf len row vv lk Wc) (hr : jRW g m0 N pn pf len row vv lk th Wr) : jTurnP l g x0 m0 yX4_empty wsX4_empty yX5_empty wsX5_empty Wc Wr (jOi (nI len)) := by
  have hN : N ≤ 10 := hok.1
  have hl : len ≤ 40 := hok.2.1
  have hP := hok.2.2.1
  obtain ⟨mp, rp, lt, p1, p2, cz, vr, va1, va2, dg, cd, lka, cda, lkb, cdb, ln, gd, wa, wb, h0, T, qs, cs, hT1, hT2, hW⟩ := id hc
  obtain ⟨tb, md, rw0, csr, va, rn, kp, lkr, tr, n0, f0, cf, vw, kf, hR⟩ := id hr
  exact ⟨_, _, N, pn, pf, (0), row, vv, lk, (jMok_l hok (by omega)), ⟨by decide, by decide, by decide, by decide⟩, ⟨by decide, by decide, by decide, by decide⟩, (jO_perm hW (jO_imp (fun w ⟨u, hw⟩ => by subst hw; exact ⟨mp, rp, lt, p1, p2, cz, vr, va1, va2, dg, cd, lka, cda, lkb, cdb, ln, gd, wa, wb, h0, T, qs, cs, hT1, hT2, List.Perm.refl _⟩) (jO_i (S := Unit) [0] (c_X4_empty l g x0 mp N rp (nI len) lt p1 p2 cz) rfl rfl rfl rfl (fun _ => rfl)))), (jO_perm hR (jO_imp (fun w ⟨u, hw⟩ => by subst hw; exact ⟨tb, md, rw0, csr, va, rn, kp, lkr, tr, n0, f0, cf, vw, kf, List.Perm.refl _⟩) (jO_i (S := Unit) [0] (c_X5_empty l g m0 th (nI N) tb md rw0 (nI len) csr va lkr rn kp) rfl rfl rfl rfl (fun _ => rfl))))⟩
theorem op_digest {l : Launch} {g : jG} {x0 m0 : Nat} {N : Nat} {pn : Nat → Nat} {pf : Nat → Nat → Int32} {len : Nat} {row vv : Nat → Int64} {lk th : Int32} {Wc Wr : va_W} (hok : jMok N pn pf len) (hc : jCW g x0 N pn pf len row vv lk Wc) (hr : jRW g m0 N pn pf len row vv lk th Wr) : jTurnP l g x0 m0 yX4_digest wsX4_digest yX5_digest wsX5_digest Wc Wr (jOl (jDG N pn pf row len (jRan vv lk))) := by
  have hN : N ≤ 10 := hok.1
  have hl : len ≤ 40 := hok.2.1
  have hP := hok.2.2.1
  obtain ⟨mp, rp, lt, p1, p2, cz, vr, va1, va2, dg, cd, lka, cda, lkb, cdb, ln, gd, wa, wb, h0, T, qs, cs, hT1, hT2, hW⟩ := id hc
  obtain ⟨tb, md, rw0, csr, va, rn, kp, lkr, tr, n0, f0, cf, vw, kf, hR⟩ := id hr
  have hw : ∀ i, i < N → pn i ≤ 8 ∧ ∀ k, k < pn i → ∃ a, a ≤ 6 ∧ pf i (k * 28 + 3) = nI a := fun i hi => ⟨(hP i hi).1, fun k hk => by obtain ⟨u9, w9, a9, -, -, q6, -, -, -, q7, -⟩ := (hP i hi).2 k hk; exact ⟨a9, q6, q7⟩⟩
  have hW1 : Wc.Perm (([(p1, .inr (2, [.ref va1, .int lka, .int cda])), (va1, jaL g 4 wa), (p2, .inr (2, [.ref va2, .int lkb, .int cdb])), (va2, jaL g 4 wb), (cz, .inr (0, [.ref dg, .int ln, .int gd])), (dg, jaL g 6 h0)] : va_W) ++ ((x0, .inr (3, [.ref mp, .int (nI N), .ref rp, .int (nI len), .ref lt, .ref p1, .ref p2, .ref cz])) :: (mp, jaP g 10 T) :: (rp, jaL g 40 row) :: (lt, .inr (2, [.ref vr, .int lk, .int cd])) :: (vr, jaL g 4 vv) :: (jpl (jFO qs cs pn) N ++ jpl (jFA g cs pf) N))) := hW.trans (jP11 (R := ([(p1, .inr (2, [.ref va1, .int lka, .int cda])), (va1, jaL g 4 wa), (p2, .inr (2, [.ref va2, .int lkb, .int cdb])), (va2, jaL g 4 wb), (cz, .inr (0, [.ref dg, .int ln, .int gd])), (dg, jaL g 6 h0)] : va_W)))
  have hR1 : Wr.Perm (([(md, jaI g 253 (jrw n0 f0)), (csr, jaL g 6 cf), (va, jaL g 4 vw), (kp, jaL g 4 kf)] ++ (List.range' N (10 - N)).map (jFR g tr pn pf)) ++ ((m0, .inr (4, [.int th, .int (nI N), .ref tb, .ref md, .ref rw0, .int (nI len), .ref csr, .ref va, .int lkr, .ref rn, .ref kp])) :: (tb, jaR g 10 (fun i => some (tr i))) :: (rw0, jaL g 40 row) :: (rn, jaL g 5 (jRan vv lk)) :: jpl (jFR g tr pn pf) N)) := hR.trans (jPdg hN)
  refine ⟨_, _, N, pn, pf, len, row, vv, lk, hok, ?_, ?_, jO_imp (fun w hw => ?_) (jO_lP (c_X4_digest l g x0 mp N rp len lt p1 p2 cz T vr lk cd vv row qs cs pn pf hN hl hT1 hw) rfl rfl hW1 rfl), jO_imp (fun w hw => ?_) (jO_lP (c_X5_digest l g m0 th N tb md rw0 len csr va lkr rn kp tr pn pf row (jRan vv lk) hN hl hw) rfl rfl hR1 rfl)⟩
  · exact ⟨by decide, by decide, by decide, by decide⟩
  · exact ⟨by decide, by decide, by decide, by decide⟩
  · subst hw
    exact ⟨mp, rp, lt, p1, p2, cz, vr, va1, va2, dg, cd, lka, cda, lkb, cdb, ln, gd, wa, wb, h0, T, qs, cs, hT1, hT2, (jP11 (R := ([(p1, .inr (2, [.ref va1, .int lka, .int cda])), (va1, jaL g 4 wa), (p2, .inr (2, [.ref va2, .int lkb, .int cdb])), (va2, jaL g 4 wb), (cz, .inr (0, [.ref dg, .int ln, .int gd])), (dg, jaL g 6 h0)] : va_W))).symm⟩
  · subst hw
    exact ⟨tb, md, rw0, csr, va, rn, kp, lkr, tr, n0, f0, cf, vw, kf, (jPdg hN).symm⟩
