theorem op_differ {l : Launch} {g : jG} {x0 m0 out : Nat} {N : Nat} {pn : Nat → Nat} {pf : Nat → Nat → Int32} {len : Nat} {row vv : Nat → Int64} {lk th : Int32} {Wc Wr : va_W} (hst : l.stackTraces = false) (hok : jMok N pn pf len) (hc : jCW g x0 N pn pf len row vv lk Wc) (hr : jRW g m0 N pn pf len row vv lk th Wr) (x : Int32) (y : Int32) (a : Int32) (b : Int32) (o : Nat → Int64) : jTurn l g x0 m0 out yL_differ wsL_differ yX5_differ wsX5_differ [.int x, .int y, .int a, .int b] Wc Wr o := by
  have hN : N ≤ 10 := hok.1
  have hl : len ≤ 40 := hok.2.1
  have hP := hok.2.2.1
  obtain ⟨mp, rp, lt, p1, p2, cz, vr, va1, va2, dg, cd, lka, cda, lkb, cdb, ln, gd, wa, wb, h0, T, qs, cs, hT1, hT2, hW⟩ := id hc
  obtain ⟨tb, md, rw0, csr, va, rn, kp, lkr, tr, n0, f0, cf, vw, kf, hR⟩ := id hr
  cases hxk : (jBt x 0 (nI N - 1)) with
  | false =>
    exact jT_bad (b := 0) (kk := 1) (by decide) hok hc ⟨by decide, by decide, by decide, by decide⟩ ⟨by decide, by decide, by decide, by decide⟩ (L_differ_x1 (jOx_perm hW (jOx_f [0, 1] (c_X4_differ_p l g hst x0 mp N rp (nI len) lt p1 p2 cz T x y a b hxk hN hT2) rfl rfl rfl rfl rfl)) ⟨by decide, by decide⟩ (jCW_x0 hc)) (jO_perm hR (jO_imp (fun w ⟨u, hw⟩ => by subst hw; exact ⟨tb, md, rw0, csr, va, rn, kp, lkr, tr, n0, f0, cf, vw, kf, List.Perm.refl _⟩) (jO_i (S := Unit) [0] (c_X5_differ_p l g m0 th N tb md rw0 (nI len) csr va lkr rn kp x y a b hxk) rfl rfl rfl rfl (fun _ => rfl))))
  | true =>
    obtain ⟨k, hk, rfl⟩ := (jBt_nat (show N < 2 ^ 30 by omega)).mp hxk
    have hk10 : k < 10 := by omega
    cases hxk2 : (jBt y 0 (nI N - 1)) with
    | false =>
      exact jT_bad (b := 0) (kk := 1) (by decide) hok hc ⟨by decide, by decide, by decide, by decide⟩ ⟨by decide, by decide, by decide, by decide⟩ (L_differ_x1 (jOx_perm hW (jOx_f [0, 1] (c_X4_differ_q l g hst x0 mp N rp (nI len) lt p1 p2 cz T k (qs k) y a b hk (hT1 k hk) hxk2 hN hT2) rfl rfl rfl rfl rfl)) ⟨by decide, by decide⟩ (jCW_x0 hc)) (jO_perm hR (jO_imp (fun w ⟨u, hw⟩ => by subst hw; exact ⟨tb, md, rw0, csr, va, rn, kp, lkr, tr, n0, f0, cf, vw, kf, List.Perm.refl _⟩) (jO_i (S := Unit) [0] (c_X5_differ_q l g m0 th N tb md rw0 (nI len) csr va lkr rn kp k y a b hk hN hxk2) rfl rfl rfl rfl (fun _ => rfl))))
    | true =>
      obtain ⟨k2, hk2, rfl⟩ := (jBt_nat (show N < 2 ^ 30 by omega)).mp hxk2
      have hk210 : k2 < 10 := by omega
      cases h1 : (jBt a 0 6) with
      | false =>
        exact jT_bad (b := 0) (kk := 2) (by decide) hok hc ⟨by decide, by decide, by decide, by decide⟩ ⟨by decide, by decide, by decide, by decide⟩ (L_differ_x2 (jOx_perm hW (jOx_f [0, 1] (c_X4_differ_1 l g hst x0 mp N rp (nI len) lt p1 p2 cz T k (qs k) k2 (qs k2) a b hk hN (hT1 k hk) hk2 (hT1 k2 hk2) h1) rfl rfl rfl rfl rfl)) ⟨by decide, by decide⟩ (jCW_x0 hc)) (jO_perm hR (jO_imp (fun w ⟨u, hw⟩ => by subst hw; exact ⟨tb, md, rw0, csr, va, rn, kp, lkr, tr, n0, f0, cf, vw, kf, List.Perm.refl _⟩) (jO_i (S := Unit) [0] (c_X5_differ_1 l g m0 th N tb md rw0 (nI len) csr va lkr rn kp k k2 a b hk hk2 hN h1) rfl rfl rfl rfl (fun _ => rfl))))
      | true =>
        cases h2 : (jBt b 1 4) with
        | false =>
          exact jT_bad (b := 0) (kk := 2) (by decide) hok hc ⟨by decide, by decide, by decide, by decide⟩ ⟨by decide, by decide, by decide, by decide⟩ (L_differ_x2 (jOx_perm hW (jOx_f [0, 1] (c_X4_differ_2 l g hst x0 mp N rp (nI len) lt p1 p2 cz T k (qs k) k2 (qs k2) a b hk hN (hT1 k hk) hk2 (hT1 k2 hk2) h2) rfl rfl rfl rfl rfl)) ⟨by decide, by decide⟩ (jCW_x0 hc)) (jO_perm hR (jO_imp (fun w ⟨u, hw⟩ => by subst hw; exact ⟨tb, md, rw0, csr, va, rn, kp, lkr, tr, n0, f0, cf, vw, kf, List.Perm.refl _⟩) (jO_i (S := Unit) [0] (c_X5_differ_2 l g m0 th N tb md rw0 (nI len) csr va lkr rn kp k k2 a b hk hk2 hN h2) rfl rfl rfl rfl (fun _ => rfl))))
        | true =>
          rw [show (6 : Int32) = nI 7 - 1 from by decide] at h1
          rw [show (4 : Int32) = nI 5 - 1 from by decide] at h2
          obtain ⟨d, hd7, rfl⟩ := (jBt_nat (by decide)).mp h1
          obtain ⟨v, hv1, hv5, rfl⟩ := jBt_1n (by decide) h2
          have hd : d ≤ 6 := by omega
          have hv : v ≤ 4 := by omega
          rcases jpow_le hd hv with hp | ⟨rfl, rfl⟩
          · skip
            by_cases hne : k2 = k
            · have hne9 := hne.symm
              subst hne9
              exact jT_good (v := (nI (jDf (jSm (pn k) (pf k) (pn k) (pf k) d v) (v ^ d) 0 0))) (N := N) (pn := pn) (pf := pf) (len := len) (row := row) (vv := vv) (lk := lk) hok ⟨by decide, by decide, by decide, by decide⟩ ⟨by decide, by decide, by decide, by decide⟩ (L_differ_g (jO_perm (hW.trans (jq_k hk)) (jO_imp (fun w ⟨u, hw⟩ => by subst hw; exact ⟨mp, rp, lt, p1, p2, cz, vr, va1, va2, dg, cd, (u.1), (u.2.1), (u.2.2.2.1), (u.2.2.2.2.1), ((nI d)), ((nI (v - 1))), (u.2.2.1), (u.2.2.2.2.2.1), (u.2.2.2.2.2.2), T, qs, cs, hT1, hT2, (jq_k (X := jcF g x0 mp N rp len lt p1 p2 cz vr va1 va2 dg lk cd (u.1) (u.2.1) (u.2.2.2.1) (u.2.2.2.2.1) ((nI d)) ((nI (v - 1))) row vv (u.2.2.1) (u.2.2.2.2.2.1) (u.2.2.2.2.2.2) T) (F := jFO qs cs pn) (G := jFA g cs pf) hk).symm⟩) (jO_i [0, 1, 11, 12, 9, 10, 5, 6, 7, 8] (c_X4_differ_e l g x0 mp N rp (nI len) lt p1 p2 cz T k (qs k) (cs k) (pn k) (pf k) dg ln gd h0 va1 lka cda wa va2 lkb cdb wb d v hk hN (hT1 k hk) (hP k hk) hd hv hv1 hp (fun _ => jInc_cs hv1 hv)) rfl rfl rfl rfl (fun _ => rfl)))) ⟨by decide, by decide⟩ (jCW_x0 hc)) (jO_perm (hR.trans (jr_k hk10)) (jO_imp (fun w ⟨u, hw⟩ => by subst hw; exact ⟨tb, md, rw0, csr, va, rn, kp, (u.1), tr, n0, f0, (u.2.2.2), (u.2.1), (u.2.2.1), (jr_k (X := jrF g m0 (0) N tb md rw0 len csr va (u.1) rn kp tr n0 f0 row (u.2.2.2) (u.2.1) (jRan vv lk) (u.2.2.1)) (F := jFR g tr pn pf) hk10).symm⟩) (jO_i [0, 1, 8, 5, 4, 7] (c_X5_differ_e l g m0 th N tb md rw0 (nI len) csr va lkr rn kp tr k (pn k) (pf k) vw cf kf d v hk hN (hP k hk) hd hv hv1 hp) rfl rfl rfl rfl (fun _ => rfl))))
            · exact jT_good (v := (nI (jDf (jSm (pn k) (pf k) (pn k2) (pf k2) d v) (v ^ d) 0 0))) (N := N) (pn := pn) (pf := pf) (len := len) (row := row) (vv := vv) (lk := lk) hok ⟨by decide, by decide, by decide, by decide⟩ ⟨by decide, by decide, by decide, by decide⟩ (L_differ_g (jO_perm (hW.trans (jq_2 hk hk2 hne)) (jO_imp (fun w ⟨u, hw⟩ => by subst hw; exact ⟨mp, rp, lt, p1, p2, cz, vr, va1, va2, dg, cd, (u.1), (u.2.1), (u.2.2.2.1), (u.2.2.2.2.1), ((nI d)), ((nI (v - 1))), (u.2.2.1), (u.2.2.2.2.2.1), (u.2.2.2.2.2.2), T, qs, cs, hT1, hT2, (jq_2 (X := jcF g x0 mp N rp len lt p1 p2 cz vr va1 va2 dg lk cd (u.1) (u.2.1) (u.2.2.2.1) (u.2.2.2.2.1) ((nI d)) ((nI (v - 1))) row vv (u.2.2.1) (u.2.2.2.2.2.1) (u.2.2.2.2.2.2) T) (F := jFO qs cs pn) (G := jFA g cs pf) hk hk2 hne).symm⟩) (jO_i [0, 1, 11, 12, 13, 14, 9, 10, 5, 6, 7, 8] (c_X4_differ l g x0 mp N rp (nI len) lt p1 p2 cz T k (qs k) (cs k) (pn k) (pf k) k2 (qs k2) (cs k2) (pn k2) (pf k2) dg ln gd h0 va1 lka cda wa va2 lkb cdb wb d v hk hN (hT1 k hk) (hP k hk) hk2 (hT1 k2 hk2) (hP k2 hk2) hd hv hv1 hp (fun _ => jInc_cs hv1 hv)) rfl rfl rfl rfl (fun _ => rfl)))) ⟨by decide, by decide⟩ (jCW_x0 hc)) (jO_perm (hR.trans (jr_2 hk10 hk210 hne)) (jO_imp (fun w ⟨u, hw⟩ => by subst hw; exact ⟨tb, md, rw0, csr, va, rn, kp, (u.1), tr, n0, f0, (u.2.2.2), (u.2.1), (u.2.2.1), (jr_2 (X := jrF g m0 (0) N tb md rw0 len csr va (u.1) rn kp tr n0 f0 row (u.2.2.2) (u.2.1) (jRan vv lk) (u.2.2.1)) (F := jFR g tr pn pf) hk10 hk210 hne).symm⟩) (jO_i [0, 1, 8, 9, 5, 4, 7] (c_X5_differ l g m0 th N tb md rw0 (nI len) csr va lkr rn kp tr k (pn k) (pf k) k2 (pn k2) (pf k2) vw cf kf d v hk hN (hP k hk) hk2 (hP k2 hk2) hd hv hv1 hp) rfl rfl rfl rfl (fun _ => rfl))))
          · exact jT_bad (b := 0) (kk := 2) (by decide) hok hc ⟨by decide, by decide, by decide, by decide⟩ ⟨by decide, by decide, by decide, by decide⟩ (L_differ_x2 (jOx_perm hW (jOx_f [0, 1] (c_X4_differ_3 l g hst x0 mp N rp (nI len) lt p1 p2 cz T k (qs k) k2 (qs k2) hk hN (hT1 k hk) hk2 (hT1 k2 hk2)) rfl rfl rfl rfl rfl)) ⟨by decide, by decide⟩ (jCW_x0 hc)) (jO_perm hR (jO_imp (fun w ⟨u, hw⟩ => by subst hw; exact ⟨tb, md, rw0, csr, va, rn, kp, lkr, tr, n0, f0, cf, vw, kf, List.Perm.refl _⟩) (jO_i (S := Unit) [0] (c_X5_differ_3 l g m0 th N tb md rw0 (nI len) csr va lkr rn kp k k2 hk hk2 hN) rfl rfl rfl rfl (fun _ => rfl))))
theorem op_firstCase {l : Launch} {g : jG} {x0 m0 out : Nat} {N : Nat} {pn : Nat → Nat} {pf : Nat → Nat → Int32} {len : Nat} {row vv : Nat → Int64} {lk th : Int32} {Wc Wr : va_W} (hst : l.stackTraces = false) (hok : jMok N pn pf len) (hc : jCW g x0 N pn pf len row vv lk Wc) (hr : jRW g m0 N pn pf len row vv lk th Wr) (x : Int32) (y : Int32) (a : Int32) (b : Int32) (o : Nat → Int64) : jTurn l g x0 m0 out yL_firstCase wsL_firstCase yX5_firstCase wsX5_firstCase [.int x, .int y, .int a, .int b] Wc Wr o := by
  have hN : N ≤ 10 := hok.1
  have hl : len ≤ 40 := hok.2.1
  have hP := hok.2.2.1
  obtain ⟨mp, rp, lt, p1, p2, cz, vr, va1, va2, dg, cd, lka, cda, lkb, cdb, ln, gd, wa, wb, h0, T, qs, cs, hT1, hT2, hW⟩ := id hc
  obtain ⟨tb, md, rw0, csr, va, rn, kp, lkr, tr, n0, f0, cf, vw, kf, hR⟩ := id hr
  cases hxk : (jBt x 0 (nI N - 1)) with
  | false =>
    exact jT_bad (b := 0) (kk := 1) (by decide) hok hc ⟨by decide, by decide, by decide, by decide⟩ ⟨by decide, by decide, by decide, by decide⟩ (L_firstCase_x1 (jOx_perm hW (jOx_f [0, 1] (c_X4_firstCase_p l g hst x0 mp N rp (nI len) lt p1 p2 cz T x y a b hxk hN hT2) rfl rfl rfl rfl rfl)) ⟨by decide, by decide⟩ (jCW_x0 hc)) (jO_perm hR (jO_imp (fun w ⟨u, hw⟩ => by subst hw; exact ⟨tb, md, rw0, csr, va, rn, kp, lkr, tr, n0, f0, cf, vw, kf, List.Perm.refl _⟩) (jO_i (S := Unit) [0] (c_X5_firstCase_p l g m0 th N tb md rw0 (nI len) csr va lkr rn kp x y a b hxk) rfl rfl rfl rfl (fun _ => rfl))))
  | true =>
    obtain ⟨k, hk, rfl⟩ := (jBt_nat (show N < 2 ^ 30 by omega)).mp hxk
    have hk10 : k < 10 := by omega
    cases hxk2 : (jBt y 0 (nI N - 1)) with
    | false =>
      exact jT_bad (b := 0) (kk := 1) (by decide) hok hc ⟨by decide, by decide, by decide, by decide⟩ ⟨by decide, by decide, by decide, by decide⟩ (L_firstCase_x1 (jOx_perm hW (jOx_f [0, 1] (c_X4_firstCase_q l g hst x0 mp N rp (nI len) lt p1 p2 cz T k (qs k) y a b hk (hT1 k hk) hxk2 hN hT2) rfl rfl rfl rfl rfl)) ⟨by decide, by decide⟩ (jCW_x0 hc)) (jO_perm hR (jO_imp (fun w ⟨u, hw⟩ => by subst hw; exact ⟨tb, md, rw0, csr, va, rn, kp, lkr, tr, n0, f0, cf, vw, kf, List.Perm.refl _⟩) (jO_i (S := Unit) [0] (c_X5_firstCase_q l g m0 th N tb md rw0 (nI len) csr va lkr rn kp k y a b hk hN hxk2) rfl rfl rfl rfl (fun _ => rfl))))
    | true =>
      obtain ⟨k2, hk2, rfl⟩ := (jBt_nat (show N < 2 ^ 30 by omega)).mp hxk2
      have hk210 : k2 < 10 := by omega
      cases h1 : (jBt a 0 6) with
      | false =>
        exact jT_bad (b := 0) (kk := 2) (by decide) hok hc ⟨by decide, by decide, by decide, by decide⟩ ⟨by decide, by decide, by decide, by decide⟩ (L_firstCase_x2 (jOx_perm hW (jOx_f [0, 1] (c_X4_firstCase_1 l g hst x0 mp N rp (nI len) lt p1 p2 cz T k (qs k) k2 (qs k2) a b hk hN (hT1 k hk) hk2 (hT1 k2 hk2) h1) rfl rfl rfl rfl rfl)) ⟨by decide, by decide⟩ (jCW_x0 hc)) (jO_perm hR (jO_imp (fun w ⟨u, hw⟩ => by subst hw; exact ⟨tb, md, rw0, csr, va, rn, kp, lkr, tr, n0, f0, cf, vw, kf, List.Perm.refl _⟩) (jO_i (S := Unit) [0] (c_X5_firstCase_1 l g m0 th N tb md rw0 (nI len) csr va lkr rn kp k k2 a b hk hk2 hN h1) rfl rfl rfl rfl (fun _ => rfl))))
      | true =>
        cases h2 : (jBt b 1 4) with
        | false =>
          exact jT_bad (b := 0) (kk := 2) (by decide) hok hc ⟨by decide, by decide, by decide, by decide⟩ ⟨by decide, by decide, by decide, by decide⟩ (L_firstCase_x2 (jOx_perm hW (jOx_f [0, 1] (c_X4_firstCase_2 l g hst x0 mp N rp (nI len) lt p1 p2 cz T k (qs k) k2 (qs k2) a b hk hN (hT1 k hk) hk2 (hT1 k2 hk2) h2) rfl rfl rfl rfl rfl)) ⟨by decide, by decide⟩ (jCW_x0 hc)) (jO_perm hR (jO_imp (fun w ⟨u, hw⟩ => by subst hw; exact ⟨tb, md, rw0, csr, va, rn, kp, lkr, tr, n0, f0, cf, vw, kf, List.Perm.refl _⟩) (jO_i (S := Unit) [0] (c_X5_firstCase_2 l g m0 th N tb md rw0 (nI len) csr va lkr rn kp k k2 a b hk hk2 hN h2) rfl rfl rfl rfl (fun _ => rfl))))
        | true =>
          rw [show (6 : Int32) = nI 7 - 1 from by decide] at h1
          rw [show (4 : Int32) = nI 5 - 1 from by decide] at h2
          obtain ⟨d, hd7, rfl⟩ := (jBt_nat (by decide)).mp h1
          obtain ⟨v, hv1, hv5, rfl⟩ := jBt_1n (by decide) h2
          have hd : d ≤ 6 := by omega
          have hv : v ≤ 4 := by omega
          rcases jpow_le hd hv with hp | ⟨rfl, rfl⟩
          · skip
            by_cases hne : k2 = k
            · have hne9 := hne.symm
              subst hne9
              exact jT_good (v := (jFc (jSm (pn k) (pf k) (pn k) (pf k) d v) (v ^ d) 0)) (N := N) (pn := pn) (pf := pf) (len := len) (row := row) (vv := vv) (lk := lk) hok ⟨by decide, by decide, by decide, by decide⟩ ⟨by decide, by decide, by decide, by decide⟩ (L_firstCase_g (jO_perm (hW.trans (jq_k hk)) (jO_imp (fun w ⟨u, hw⟩ => by subst hw; exact ⟨mp, rp, lt, p1, p2, cz, vr, va1, va2, dg, cd, (u.1), (u.2.1), (u.2.2.2.1), (u.2.2.2.2.1), ((nI d)), ((nI (v - 1))), (u.2.2.1), (u.2.2.2.2.2.1), (u.2.2.2.2.2.2), T, qs, cs, hT1, hT2, (jq_k (X := jcF g x0 mp N rp len lt p1 p2 cz vr va1 va2 dg lk cd (u.1) (u.2.1) (u.2.2.2.1) (u.2.2.2.2.1) ((nI d)) ((nI (v - 1))) row vv (u.2.2.1) (u.2.2.2.2.2.1) (u.2.2.2.2.2.2) T) (F := jFO qs cs pn) (G := jFA g cs pf) hk).symm⟩) (jO_i [0, 1, 11, 12, 9, 10, 5, 6, 7, 8] (c_X4_firstCase_e l g x0 mp N rp (nI len) lt p1 p2 cz T k (qs k) (cs k) (pn k) (pf k) dg ln gd h0 va1 lka cda wa va2 lkb cdb wb d v hk hN (hT1 k hk) (hP k hk) hd hv hv1 hp (fun _ => jInc_cs hv1 hv)) rfl rfl rfl rfl (fun _ => rfl)))) ⟨by decide, by decide⟩ (jCW_x0 hc)) (jO_perm (hR.trans (jr_k hk10)) (jO_imp (fun w ⟨u, hw⟩ => by subst hw; exact ⟨tb, md, rw0, csr, va, rn, kp, (u.1), tr, n0, f0, (u.2.2.2), (u.2.1), (u.2.2.1), (jr_k (X := jrF g m0 (0) N tb md rw0 len csr va (u.1) rn kp tr n0 f0 row (u.2.2.2) (u.2.1) (jRan vv lk) (u.2.2.1)) (F := jFR g tr pn pf) hk10).symm⟩) (jO_i [0, 1, 8, 5, 4, 7] (c_X5_firstCase_e l g m0 th N tb md rw0 (nI len) csr va lkr rn kp tr k (pn k) (pf k) vw cf kf d v hk hN (hP k hk) hd hv hv1 hp) rfl rfl rfl rfl (fun _ => rfl))))
            · exact jT_good (v := (jFc (jSm (pn k) (pf k) (pn k2) (pf k2) d v) (v ^ d) 0)) (N := N) (pn := pn) (pf := pf) (len := len) (row := row) (vv := vv) (lk := lk) hok ⟨by decide, by decide, by decide, by decide⟩ ⟨by decide, by decide, by decide, by decide⟩ (L_firstCase_g (jO_perm (hW.trans (jq_2 hk hk2 hne)) (jO_imp (fun w ⟨u, hw⟩ => by subst hw; exact ⟨mp, rp, lt, p1, p2, cz, vr, va1, va2, dg, cd, (u.1), (u.2.1), (u.2.2.2.1), (u.2.2.2.2.1), ((nI d)), ((nI (v - 1))), (u.2.2.1), (u.2.2.2.2.2.1), (u.2.2.2.2.2.2), T, qs, cs, hT1, hT2, (jq_2 (X := jcF g x0 mp N rp len lt p1 p2 cz vr va1 va2 dg lk cd (u.1) (u.2.1) (u.2.2.2.1) (u.2.2.2.2.1) ((nI d)) ((nI (v - 1))) row vv (u.2.2.1) (u.2.2.2.2.2.1) (u.2.2.2.2.2.2) T) (F := jFO qs cs pn) (G := jFA g cs pf) hk hk2 hne).symm⟩) (jO_i [0, 1, 11, 12, 13, 14, 9, 10, 5, 6, 7, 8] (c_X4_firstCase l g x0 mp N rp (nI len) lt p1 p2 cz T k (qs k) (cs k) (pn k) (pf k) k2 (qs k2) (cs k2) (pn k2) (pf k2) dg ln gd h0 va1 lka cda wa va2 lkb cdb wb d v hk hN (hT1 k hk) (hP k hk) hk2 (hT1 k2 hk2) (hP k2 hk2) hd hv hv1 hp (fun _ => jInc_cs hv1 hv)) rfl rfl rfl rfl (fun _ => rfl)))) ⟨by decide, by decide⟩ (jCW_x0 hc)) (jO_perm (hR.trans (jr_2 hk10 hk210 hne)) (jO_imp (fun w ⟨u, hw⟩ => by subst hw; exact ⟨tb, md, rw0, csr, va, rn, kp, (u.1), tr, n0, f0, (u.2.2.2), (u.2.1), (u.2.2.1), (jr_2 (X := jrF g m0 (0) N tb md rw0 len csr va (u.1) rn kp tr n0 f0 row (u.2.2.2) (u.2.1) (jRan vv lk) (u.2.2.1)) (F := jFR g tr pn pf) hk10 hk210 hne).symm⟩) (jO_i [0, 1, 8, 9, 5, 4, 7] (c_X5_firstCase l g m0 th N tb md rw0 (nI len) csr va lkr rn kp tr k (pn k) (pf k) k2 (pn k2) (pf k2) vw cf kf d v hk hN (hP k hk) hk2 (hP k2 hk2) hd hv hv1 hp) rfl rfl rfl rfl (fun _ => rfl))))
          · exact jT_bad (b := 0) (kk := 2) (by decide) hok hc ⟨by decide, by decide, by decide, by decide⟩ ⟨by decide, by decide, by decide, by decide⟩ (L_firstCase_x2 (jOx_perm hW (jOx_f [0, 1] (c_X4_firstCase_3 l g hst x0 mp N rp (nI len) lt p1 p2 cz T k (qs k) k2 (qs k2) hk hN (hT1 k hk) hk2 (hT1 k2 hk2)) rfl rfl rfl rfl rfl)) ⟨by decide, by decide⟩ (jCW_x0 hc)) (jO_perm hR (jO_imp (fun w ⟨u, hw⟩ => by subst hw; exact ⟨tb, md, rw0, csr, va, rn, kp, lkr, tr, n0, f0, cf, vw, kf, List.Perm.refl _⟩) (jO_i (S := Unit) [0] (c_X5_firstCase_3 l g m0 th N tb md rw0 (nI len) csr va lkr rn kp k k2 hk hk2 hN) rfl rfl rfl rfl (fun _ => rfl))))
theorem op_cost {l : Launch} {g : jG} {x0 m0 out : Nat} {N : Nat} {pn : Nat → Nat} {pf : Nat → Nat → Int32} {len : Nat} {row vv : Nat → Int64} {lk th : Int32} {Wc Wr : va_W} (hst : l.stackTraces = false) (hok : jMok N pn pf len) (hc : jCW g x0 N pn pf len row vv lk Wc) (hr : jRW g m0 N pn pf len row vv lk th Wr) (x : Int32) (a : Int32) (b : Int32) (ob : Bool) (o : Nat → Int64) : jTurn l g x0 m0 out yL_cost wsL_cost yX5_cost wsX5_cost [.int x, .int a, .int b, .int (jb ob)] Wc Wr o := by
  have hN : N ≤ 10 := hok.1
  have hl : len ≤ 40 := hok.2.1
  have hP := hok.2.2.1
  obtain ⟨mp, rp, lt, p1, p2, cz, vr, va1, va2, dg, cd, lka, cda, lkb, cdb, ln, gd, wa, wb, h0, T, qs, cs, hT1, hT2, hW⟩ := id hc
  obtain ⟨tb, md, rw0, csr, va, rn, kp, lkr, tr, n0, f0, cf, vw, kf, hR⟩ := id hr
  cases hxk : (jBt x 0 (nI N - 1)) with
  | false =>
    exact jT_bad (b := 0) (kk := 1) (by decide) hok hc ⟨by decide, by decide, by decide, by decide⟩ ⟨by decide, by decide, by decide, by decide⟩ (L_cost_x1 (jOx_perm hW (jOx_f [0, 1] (c_X4_cost_p l g hst x0 mp N rp (nI len) lt p1 p2 cz T x a b ob hxk hN hT2) rfl rfl rfl rfl rfl)) ⟨by decide, by decide⟩ (jCW_x0 hc)) (jO_perm hR (jO_imp (fun w ⟨u, hw⟩ => by subst hw; exact ⟨tb, md, rw0, csr, va, rn, kp, lkr, tr, n0, f0, cf, vw, kf, List.Perm.refl _⟩) (jO_i (S := Unit) [0] (c_X5_cost_p l g m0 th N tb md rw0 (nI len) csr va lkr rn kp x a b ob hxk) rfl rfl rfl rfl (fun _ => rfl))))
  | true =>
    obtain ⟨k, hk, rfl⟩ := (jBt_nat (show N < 2 ^ 30 by omega)).mp hxk
    have hk10 : k < 10 := by omega
    cases h1 : (jBt a 0 6) with
    | false =>
      exact jT_bad (b := 0) (kk := 2) (by decide) hok hc ⟨by decide, by decide, by decide, by decide⟩ ⟨by decide, by decide, by decide, by decide⟩ (L_cost_x2 (jOx_perm hW (jOx_f [0, 1] (c_X4_cost_1 l g hst x0 mp N rp (nI len) lt p1 p2 cz T k (qs k) a b ob hk hN (hT1 k hk) h1) rfl rfl rfl rfl rfl)) ⟨by decide, by decide⟩ (jCW_x0 hc)) (jO_perm hR (jO_imp (fun w ⟨u, hw⟩ => by subst hw; exact ⟨tb, md, rw0, csr, va, rn, kp, lkr, tr, n0, f0, cf, vw, kf, List.Perm.refl _⟩) (jO_i (S := Unit) [0] (c_X5_cost_1 l g m0 th N tb md rw0 (nI len) csr va lkr rn kp k a b ob hk hN h1) rfl rfl rfl rfl (fun _ => rfl))))
    | true =>
      cases h2 : (jBt b 1 4) with
      | false =>
        exact jT_bad (b := 0) (kk := 2) (by decide) hok hc ⟨by decide, by decide, by decide, by decide⟩ ⟨by decide, by decide, by decide, by decide⟩ (L_cost_x2 (jOx_perm hW (jOx_f [0, 1] (c_X4_cost_2 l g hst x0 mp N rp (nI len) lt p1 p2 cz T k (qs k) a b ob hk hN (hT1 k hk) h2) rfl rfl rfl rfl rfl)) ⟨by decide, by decide⟩ (jCW_x0 hc)) (jO_perm hR (jO_imp (fun w ⟨u, hw⟩ => by subst hw; exact ⟨tb, md, rw0, csr, va, rn, kp, lkr, tr, n0, f0, cf, vw, kf, List.Perm.refl _⟩) (jO_i (S := Unit) [0] (c_X5_cost_2 l g m0 th N tb md rw0 (nI len) csr va lkr rn kp k a b ob hk hN h2) rfl rfl rfl rfl (fun _ => rfl))))
      | true =>
        rw [show (6 : Int32) = nI 7 - 1 from by decide] at h1
        rw [show (4 : Int32) = nI 5 - 1 from by decide] at h2
        obtain ⟨d, hd7, rfl⟩ := (jBt_nat (by decide)).mp h1
        obtain ⟨v, hv1, hv5, rfl⟩ := jBt_1n (by decide) h2
        have hd : d ≤ 6 := by omega
        have hv : v ≤ 4 := by omega
        rcases jpow_le hd hv with hp | ⟨rfl, rfl⟩
        · skip
          cases ob with
          | true =>
            exact jT_good (v := (jCo true (jKx (pn k) (pf k) d v) (v ^ d) 0 0)) (N := N) (pn := pn) (pf := pf) (len := len) (row := row) (vv := vv) (lk := lk) hok ⟨by decide, by decide, by decide, by decide⟩ ⟨by decide, by decide, by decide, by decide⟩ (L_cost_g (jO_perm (hW.trans (jq_k hk)) (jO_imp (fun w ⟨u, hw⟩ => by subst hw; exact ⟨mp, rp, lt, p1, p2, cz, vr, va1, va2, dg, cd, (u.1), (u.2.1), lkb, cdb, ((nI d)), ((nI (v - 1))), (u.2.2.1), wb, (u.2.2.2), T, qs, cs, hT1, hT2, (jq_k (X := jcF g x0 mp N rp len lt p1 p2 cz vr va1 va2 dg lk cd (u.1) (u.2.1) lkb cdb ((nI d)) ((nI (v - 1))) row vv (u.2.2.1) wb (u.2.2.2) T) (F := jFO qs cs pn) (G := jFA g cs pf) hk).symm⟩) (jO_i [0, 1, 11, 12, 9, 10, 5, 6] (c_X4_cost_true l g x0 mp N rp (nI len) lt p1 p2 cz T k (qs k) (cs k) (pn k) (pf k) dg ln gd h0 va1 lka cda wa d v hk hN (hT1 k hk) (hP k hk) hd hv hv1 hp (fun _ => jInc_cs hv1 hv)) rfl rfl rfl rfl (fun _ => rfl)))) ⟨by decide, by decide⟩ (jCW_x0 hc)) (jO_perm (hR.trans (jr_k hk10)) (jO_imp (fun w ⟨u, hw⟩ => by subst hw; exact ⟨tb, md, rw0, csr, va, rn, kp, (u.1), tr, n0, f0, (u.2.2), (u.2.1), kf, (jr_k (X := jrF g m0 (0) N tb md rw0 len csr va (u.1) rn kp tr n0 f0 row (u.2.2) (u.2.1) (jRan vv lk) kf) (F := jFR g tr pn pf) hk10).symm⟩) (jO_i [0, 1, 8, 5, 4] (c_X5_cost_true l g m0 th N tb md rw0 (nI len) csr va lkr rn kp tr k (pn k) (pf k) vw cf d v hk hN (hP k hk) hd hv hv1 hp) rfl rfl rfl rfl (fun _ => rfl))))
          | false =>
            exact jT_good (v := (jCo false (jKx (pn k) (pf k) d v) (v ^ d) 0 0)) (N := N) (pn := pn) (pf := pf) (len := len) (row := row) (vv := vv) (lk := lk) hok ⟨by decide, by decide, by decide, by decide⟩ ⟨by decide, by decide, by decide, by decide⟩ (L_cost_g (jO_perm (hW.trans (jq_k hk)) (jO_imp (fun w ⟨u, hw⟩ => by subst hw; exact ⟨mp, rp, lt, p1, p2, cz, vr, va1, va2, dg, cd, (u.1), (u.2.1), lkb, cdb, ((nI d)), ((nI (v - 1))), (u.2.2.1), wb, (u.2.2.2), T, qs, cs, hT1, hT2, (jq_k (X := jcF g x0 mp N rp len lt p1 p2 cz vr va1 va2 dg lk cd (u.1) (u.2.1) lkb cdb ((nI d)) ((nI (v - 1))) row vv (u.2.2.1) wb (u.2.2.2) T) (F := jFO qs cs pn) (G := jFA g cs pf) hk).symm⟩) (jO_i [0, 1, 11, 12, 9, 10, 5, 6] (c_X4_cost_false l g x0 mp N rp (nI len) lt p1 p2 cz T k (qs k) (cs k) (pn k) (pf k) dg ln gd h0 va1 lka cda wa d v hk hN (hT1 k hk) (hP k hk) hd hv hv1 hp (fun _ => jInc_cs hv1 hv)) rfl rfl rfl rfl (fun _ => rfl)))) ⟨by decide, by decide⟩ (jCW_x0 hc)) (jO_perm (hR.trans (jr_k hk10)) (jO_imp (fun w ⟨u, hw⟩ => by subst hw; exact ⟨tb, md, rw0, csr, va, rn, kp, (u.1), tr, n0, f0, (u.2.2), (u.2.1), kf, (jr_k (X := jrF g m0 (0) N tb md rw0 len csr va (u.1) rn kp tr n0 f0 row (u.2.2) (u.2.1) (jRan vv lk) kf) (F := jFR g tr pn pf) hk10).symm⟩) (jO_i [0, 1, 8, 5, 4] (c_X5_cost_false l g m0 th N tb md rw0 (nI len) csr va lkr rn kp tr k (pn k) (pf k) vw cf d v hk hN (hP k hk) hd hv hv1 hp) rfl rfl rfl rfl (fun _ => rfl))))
        · exact jT_bad (b := 0) (kk := 2) (by decide) hok hc ⟨by decide, by decide, by decide, by decide⟩ ⟨by decide, by decide, by decide, by decide⟩ (L_cost_x2 (jOx_perm hW (jOx_f [0, 1] (c_X4_cost_3 l g hst x0 mp N rp (nI len) lt p1 p2 cz T k (qs k) ob hk hN (hT1 k hk)) rfl rfl rfl rfl rfl)) ⟨by decide, by decide⟩ (jCW_x0 hc)) (jO_perm hR (jO_imp (fun w ⟨u, hw⟩ => by subst hw; exact ⟨tb, md, rw0, csr, va, rn, kp, lkr, tr, n0, f0, cf, vw, kf, List.Perm.refl _⟩) (jO_i (S := Unit) [0] (c_X5_cost_3 l g m0 th N tb md rw0 (nI len) csr va lkr rn kp k ob hk hN) rfl rfl rfl rfl (fun _ => rfl))))
theorem op_exits {l : Launch} {g : jG} {x0 m0 out : Nat} {N : Nat} {pn : Nat → Nat} {pf : Nat → Nat → Int32} {len : Nat} {row vv : Nat → Int64} {lk th : Int32} {Wc Wr : va_W} (hst : l.stackTraces = false) (hok : jMok N pn pf len) (hc : jCW g x0 N pn pf len row vv lk Wc) (hr : jRW g m0 N pn pf len row vv lk th Wr) (x : Int32) (a : Int32) (b : Int32) (o : Nat → UInt64) : jTurnD l g x0 m0 out yL_exits wsL_exits yX5_exits wsX5_exits [.int x, .int a, .int b] Wc Wr o := by
  have hN : N ≤ 10 := hok.1
  have hl : len ≤ 40 := hok.2.1
  have hP := hok.2.2.1
  obtain ⟨mp, rp, lt, p1, p2, cz, vr, va1, va2, dg, cd, lka, cda, lkb, cdb, ln, gd, wa, wb, h0, T, qs, cs, hT1, hT2, hW⟩ := id hc
  obtain ⟨tb, md, rw0, csr, va, rn, kp, lkr, tr, n0, f0, cf, vw, kf, hR⟩ := id hr
  cases hxk : (jBt x 0 (nI N - 1)) with
  | false =>
    exact jT_badD (b := FP.dconst0) (kk := 1) (by decide) hok hc ⟨by decide, by decide, by decide, by decide⟩ ⟨by decide, by decide, by decide, by decide⟩ (L_exits_x1 (jOx_perm hW (jOx_f [0, 1] (c_X4_exits_p l g hst x0 mp N rp (nI len) lt p1 p2 cz T x a b hxk hN hT2) rfl rfl rfl rfl rfl)) ⟨by decide, by decide⟩ (jCW_x0 hc)) (jO_perm hR (jO_imp (fun w ⟨u, hw⟩ => by subst hw; exact ⟨tb, md, rw0, csr, va, rn, kp, lkr, tr, n0, f0, cf, vw, kf, List.Perm.refl _⟩) (jO_d (S := Unit) [0] (c_X5_exits_p l g m0 th N tb md rw0 (nI len) csr va lkr rn kp x a b hxk) rfl rfl rfl rfl (fun _ => rfl))))
  | true =>
    obtain ⟨k, hk, rfl⟩ := (jBt_nat (show N < 2 ^ 30 by omega)).mp hxk
    have hk10 : k < 10 := by omega
    cases h1 : (jBt a 0 6) with
    | false =>
      exact jT_badD (b := FP.dconst0) (kk := 2) (by decide) hok hc ⟨by decide, by decide, by decide, by decide⟩ ⟨by decide, by decide, by decide, by decide⟩ (L_exits_x2 (jOx_perm hW (jOx_f [0, 1] (c_X4_exits_1 l g hst x0 mp N rp (nI len) lt p1 p2 cz T k (qs k) a b hk hN (hT1 k hk) h1) rfl rfl rfl rfl rfl)) ⟨by decide, by decide⟩ (jCW_x0 hc)) (jO_perm hR (jO_imp (fun w ⟨u, hw⟩ => by subst hw; exact ⟨tb, md, rw0, csr, va, rn, kp, lkr, tr, n0, f0, cf, vw, kf, List.Perm.refl _⟩) (jO_d (S := Unit) [0] (c_X5_exits_1 l g m0 th N tb md rw0 (nI len) csr va lkr rn kp k a b hk hN h1) rfl rfl rfl rfl (fun _ => rfl))))
    | true =>
      cases h2 : (jBt b 1 4) with
      | false =>
        exact jT_badD (b := FP.dconst0) (kk := 2) (by decide) hok hc ⟨by decide, by decide, by decide, by decide⟩ ⟨by decide, by decide, by decide, by decide⟩ (L_exits_x2 (jOx_perm hW (jOx_f [0, 1] (c_X4_exits_2 l g hst x0 mp N rp (nI len) lt p1 p2 cz T k (qs k) a b hk hN (hT1 k hk) h2) rfl rfl rfl rfl rfl)) ⟨by decide, by decide⟩ (jCW_x0 hc)) (jO_perm hR (jO_imp (fun w ⟨u, hw⟩ => by subst hw; exact ⟨tb, md, rw0, csr, va, rn, kp, lkr, tr, n0, f0, cf, vw, kf, List.Perm.refl _⟩) (jO_d (S := Unit) [0] (c_X5_exits_2 l g m0 th N tb md rw0 (nI len) csr va lkr rn kp k a b hk hN h2) rfl rfl rfl rfl (fun _ => rfl))))
      | true =>
        rw [show (6 : Int32) = nI 7 - 1 from by decide] at h1
        rw [show (4 : Int32) = nI 5 - 1 from by decide] at h2
        obtain ⟨d, hd7, rfl⟩ := (jBt_nat (by decide)).mp h1
        obtain ⟨v, hv1, hv5, rfl⟩ := jBt_1n (by decide) h2
        have hd : d ≤ 6 := by omega
        have hv : v ≤ 4 := by omega
        rcases jpow_le hd hv with hp | ⟨rfl, rfl⟩
        · skip
          exact jT_goodD (v := (FP.ddiv (FP.i2d (nI (jDf (jCx (pn k) (pf k) d v) (v ^ d) 0 0))) (FP.i2d (nI (v ^ d))))) (N := N) (pn := pn) (pf := pf) (len := len) (row := row) (vv := vv) (lk := lk) hok ⟨by decide, by decide, by decide, by decide⟩ ⟨by decide, by decide, by decide, by decide⟩ (L_exits_g (jO_perm (hW.trans (jq_k hk)) (jO_imp (fun w ⟨u, hw⟩ => by subst hw; exact ⟨mp, rp, lt, p1, p2, cz, vr, va1, va2, dg, cd, (u.1), (u.2.1), lkb, cdb, ((nI d)), ((nI (v - 1))), (u.2.2.1), wb, (u.2.2.2), T, qs, cs, hT1, hT2, (jq_k (X := jcF g x0 mp N rp len lt p1 p2 cz vr va1 va2 dg lk cd (u.1) (u.2.1) lkb cdb ((nI d)) ((nI (v - 1))) row vv (u.2.2.1) wb (u.2.2.2) T) (F := jFO qs cs pn) (G := jFA g cs pf) hk).symm⟩) (jO_d [0, 1, 11, 12, 9, 10, 5, 6] (c_X4_exits l g x0 mp N rp (nI len) lt p1 p2 cz T k (qs k) (cs k) (pn k) (pf k) dg ln gd h0 va1 lka cda wa d v hk hN (hT1 k hk) (hP k hk) hd hv hv1 hp (fun _ => jInc_cs hv1 hv)) rfl rfl rfl rfl (fun _ => rfl)))) ⟨by decide, by decide⟩ (jCW_x0 hc)) (jO_perm (hR.trans (jr_k hk10)) (jO_imp (fun w ⟨u, hw⟩ => by subst hw; exact ⟨tb, md, rw0, csr, va, rn, kp, (u.1), tr, n0, f0, (u.2.2), (u.2.1), kf, (jr_k (X := jrF g m0 (0) N tb md rw0 len csr va (u.1) rn kp tr n0 f0 row (u.2.2) (u.2.1) (jRan vv lk) kf) (F := jFR g tr pn pf) hk10).symm⟩) (jO_d [0, 1, 8, 5, 4] (c_X5_exits l g m0 th N tb md rw0 (nI len) csr va lkr rn kp tr k (pn k) (pf k) vw cf d v hk hN (hP k hk) hd hv hv1 hp) rfl rfl rfl rfl (fun _ => rfl))))
        · exact jT_badD (b := FP.dconst0) (kk := 2) (by decide) hok hc ⟨by decide, by decide, by decide, by decide⟩ ⟨by decide, by decide, by decide, by decide⟩ (L_exits_x2 (jOx_perm hW (jOx_f [0, 1] (c_X4_exits_3 l g hst x0 mp N rp (nI len) lt p1 p2 cz T k (qs k) hk hN (hT1 k hk)) rfl rfl rfl rfl rfl)) ⟨by decide, by decide⟩ (jCW_x0 hc)) (jO_perm hR (jO_imp (fun w ⟨u, hw⟩ => by subst hw; exact ⟨tb, md, rw0, csr, va, rn, kp, lkr, tr, n0, f0, cf, vw, kf, List.Perm.refl _⟩) (jO_d (S := Unit) [0] (c_X5_exits_3 l g m0 th N tb md rw0 (nI len) csr va lkr rn kp k hk hN) rfl rfl rfl rfl (fun _ => rfl))))
