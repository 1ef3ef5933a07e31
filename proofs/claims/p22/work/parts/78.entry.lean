/-! LAW 8: what the tables give at the entry -/
section ENTRY
variable {s : State} {b : Nat}
theorem en_AO (hts : ∀ w ∈ lw_tbl, w.before #[Value.ref b] s = true) : va_AO "LoopJoiner$Program" s ∧ va_AOA .int s := ⟨va_AO.of (hts (.arrayOver (.object "LoopJoiner$Program")) (wl1 (List.mem_of_getElem? (i := 21) rfl))), hts (.arrayOver (.array .int)) (wl2 (List.mem_of_getElem? (i := 221) rfl))⟩
theorem en_E (hts : ∀ w ∈ lw_tbl, w.before #[Value.ref b] s = true) : ∃ g : jG, jE g s := by
  obtain ⟨c0, iS0, hKn0⟩ := u_known (C := RX0) (T := TX0) (N := 3) (n := 3) hts inX0 (hts (.instantiable RX0 3) (wl1 (List.mem_of_getElem? (i := 40) rfl)))
  obtain ⟨c1, iS1, hKn1⟩ := u_known (C := RX1) (T := TX1) (N := 2) (n := 2) hts inX1 (hts (.instantiable RX1 2) (wl1 (List.mem_of_getElem? (i := 177) rfl)))
  obtain ⟨c2, iS2, hKn2⟩ := u_known (C := RX3) (T := TX3) (N := 3) (n := 3) hts inX3 (hts (.instantiable RX3 3) (wl1 (List.mem_of_getElem? (i := 23) rfl)))
  obtain ⟨c3, iS3, hKn3⟩ := u_known (C := RX4) (T := TX4) (N := 8) (n := 8) hts inX4 (hts (.instantiable RX4 8) (wl1 (List.mem_of_getElem? (i := 13) rfl)))
  obtain ⟨cI, kI, compI, fI, hI, kdI⟩ := Cond.arrayClass_spec (type := .int) (hts (.arrayClass .int) (wl2 (List.mem_of_getElem? (i := 65) rfl)))
  obtain ⟨cJ, kJ, compJ, fJ, hJ, kdJ⟩ := Cond.arrayClass_spec (type := .long) (hts (.arrayClass .long) (wl1 (List.mem_of_getElem? (i := 38) rfl)))
  obtain ⟨compP, cP, kP, p1, p2, p3, p4, p5⟩ := Cond.arrayOver_spec (n := "LoopJoiner$Program") (en_AO hts).1
  obtain ⟨compR, cR, kR, r1, r2, r3, r4⟩ := Cond.arrayOver_specA (t := .int) (en_AO hts).2
  obtain ⟨dC, dI, hKc⟩ : ∃ (dC : Nat → ClassId) (dI : Nat → Nat → Nat), ∀ (k : Nat) (q : vw_C), vwCl[k]? = some q → u_Kn s q.1 q.2.1 q.2.2 (dC k) (dI k) := by
    refine ⟨fun k => if k = 0 then c0 else if k = 1 then c1 else if k = 2 then c2 else c3, fun k => if k = 0 then iS0 else if k = 1 then iS1 else if k = 2 then iS2 else iS3, ?_⟩
    intro k q hq
    match k, hq with
    | 0, hq => cases hq; exact hKn0
    | 1, hq => cases hq; exact hKn1
    | 2, hq => cases hq; exact hKn2
    | 3, hq => cases hq; exact hKn3
    | k + 4, hq => simp [vwCl] at hq
  refine ⟨((dC, dI), cI, cJ, cJ, cP, cR), ⟨⟨hKc, fun k q h => ?_⟩, ?_⟩⟩
  · match k, h with
    | 0, h => cases h; exact ⟨fun N z => ⟨(fun k h => by cases h), kI, hI, compI, kdI⟩, fI⟩
    | 1, h => cases h; exact ⟨fun N z => ⟨(fun k h => by cases h), kJ, hJ, compJ, kdJ⟩, fJ⟩
    | 2, h => cases h; exact ⟨fun N z => ⟨(fun k h => by cases h), kJ, hJ, compJ, kdJ⟩, fJ⟩
    | 3, h => cases h; exact ⟨fun N z => ⟨(fun k h => by cases h), kP, p3, compP, p4⟩, kP, compP, p3, p4, p1, p5⟩
    | 4, h => cases h; exact ⟨fun N z => ⟨(fun k h => by cases h), kR, r2, compR, r3⟩, r4⟩
    | k + 5, h => simp [jT] at h
  · exact ⟨va_Nw.of rfl (hts (.methodLinkNest "LoopJoiner" 28 ⟨"LoopJoiner$Runner", "<init>", "()V"⟩ "LoopJoiner") (wl1 (List.mem_of_getElem? (i := 24) rfl))), va_Nw.of rfl (hts (.methodLinkNest "LoopJoiner" 41 ⟨"LoopJoiner$Cases", "<init>", "()V"⟩ "LoopJoiner") (wl1 (List.mem_of_getElem? (i := 41) rfl))), va_Nw.of rfl (hts (.methodLinkNest "LoopJoiner" 49 ⟨"LoopJoiner$Program", "<init>", "()V"⟩ "LoopJoiner") (wl2 (List.mem_of_getElem? (i := 54) rfl))), va_Nw.of rfl (hts (.methodLinkNest "LoopJoiner$Runner" 60 ⟨"LoopJoiner", "isVariable", "(I)Z"⟩ "LoopJoiner") (wl2 (List.mem_of_getElem? (i := 164) rfl))), va_Nw.of rfl (hts (.methodLinkNest "LoopJoiner$Runner" 60 ⟨"LoopJoiner", "isVariable", "(I)Z"⟩ "LoopJoiner") (wl2 (List.mem_of_getElem? (i := 164) rfl))), va_Nw.of rfl (hts (.methodLinkNest "LoopJoiner$Reasons" 68 ⟨"LoopJoiner", "isVariable", "(I)Z"⟩ "LoopJoiner") (wl2 (List.mem_of_getElem? (i := 13) rfl))), va_Nw.of rfl (hts (.fieldLinkNest "LoopJoiner" 174 "LoopJoiner$Cases" "digits" "[J" "LoopJoiner") (wl1 (List.mem_of_getElem? (i := 46) rfl))), va_Nw.of rfl (hts (.fieldLinkNest "LoopJoiner" 177 "LoopJoiner$Cases" "length" "I" "LoopJoiner") (wl1 (List.mem_of_getElem? (i := 48) rfl)))⟩
end ENTRY
