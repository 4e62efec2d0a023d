/-! What the law's start gives. -/
theorem law_K {s : State} {args : Array Value} (hts : ∀ w ∈ lw_tbl, w.before args s = true) : ∃ (D : va_G) (cB cI cJ cO : ClassId), va_K D vwCl [(cB, .byte), (cI, .int), (cJ, .long), (cO, .object "LevelScores$Score")] s := by
  obtain ⟨c0, i0, h0⟩ := u_known (C := RX0) (T := TX0) (N := 3) (n := 3) hts inX0 (hts (.instantiable RX0 3) (by decide +kernel))
  obtain ⟨c1, i1, h1⟩ := u_known (C := RX1) (T := TX1) (N := 9) (n := 9) hts inX1 (hts (.instantiable RX1 9) (by decide +kernel))
  obtain ⟨c2, i2, h2⟩ := u_known (C := RX2) (T := TX2) (N := 4) (n := 4) hts inX2 (hts (.instantiable RX2 4) (by decide +kernel))
  obtain ⟨c3, i3, h3⟩ := u_known (C := RX3) (T := TX3) (N := 3) (n := 3) hts inX3 (hts (.instantiable RX3 3) (by decide +kernel))
  obtain ⟨c4, i4, h4⟩ := u_known (C := RX4) (T := TX4) (N := 2) (n := 2) hts inX4 (hts (.instantiable RX4 2) (by decide +kernel))
  obtain ⟨c5, i5, h5⟩ := u_known (C := RX5) (T := TX5) (N := 6) (n := 6) hts inX5 (hts (.instantiable RX5 6) (by decide +kernel))
  obtain ⟨c6, i6, h6⟩ := u_known (C := RX6) (T := TX6) (N := 24) (n := 24) hts inX6 (hts (.instantiable RX6 24) (by decide +kernel))
  obtain ⟨cB, kB, mB, fB, gB, eB⟩ := Cond.arrayClass_spec (hts (.arrayClass .byte) (by decide +kernel))
  obtain ⟨cI, kI, mI, fI, gI, eI⟩ := Cond.arrayClass_spec (hts (.arrayClass .int) (by decide +kernel))
  obtain ⟨cJ, kJ, mJ, fJ, gJ, eJ⟩ := Cond.arrayClass_spec (hts (.arrayClass .long) (by decide +kernel))
  obtain ⟨mO, cO, kO, fO, -, gO, eO, nO⟩ := Cond.arrayOver_spec (hts (.arrayOver (.object "LevelScores$Score")) (by decide +kernel))
  refine ⟨(fun k => if k = 0 then c0 else if k = 1 then c1 else if k = 2 then c2 else if k = 3 then c3 else if k = 4 then c4 else if k = 5 then c5 else c6, fun k => if k = 0 then i0 else if k = 1 then i1 else if k = 2 then i2 else if k = 3 then i3 else if k = 4 then i4 else if k = 5 then i5 else i6), cB, cI, cJ, cO, ?_, ?_⟩
  · intro k q hq
    match k, hq with
    | 0, hq => cases hq; exact h0
    | 1, hq => cases hq; exact h1
    | 2, hq => cases hq; exact h2
    | 3, hq => cases hq; exact h3
    | 4, hq => cases hq; exact h4
    | 5, hq => cases hq; exact h5
    | 6, hq => cases hq; exact h6
    | k + 7, hq => simp [vwCl] at hq
  · intro k q hq
    match k, hq with
    | 0, hq => cases hq; exact ⟨fun n z => ⟨fun k h => (by cases h), kB, gB, mB, eB⟩, fB⟩
    | 1, hq => cases hq; exact ⟨fun n z => ⟨fun k h => (by cases h), kI, gI, mI, eI⟩, fI⟩
    | 2, hq => cases hq; exact ⟨fun n z => ⟨fun k h => (by cases h), kJ, gJ, mJ, eJ⟩, fJ⟩
    | 3, hq => cases hq; exact ⟨fun n z => ⟨fun k h => (by cases h), kO, gO, mO, eO⟩, kO, mO, gO, eO, fO, nO⟩
    | k + 4, hq => simp at hq
theorem law_nK5 {s : State} {args : Array Value} (hts : ∀ w ∈ lw_tbl, w.before args s = true) : nK5 s :=
  ⟨⟨va_AO.of (hts (.arrayOver (.object "LevelScores$Score")) (by decide +kernel)), va_Nw.of rfl (hts (.methodLinkNest RX1 11 yX2_init "LevelScores") (by decide +kernel)), va_Nw.of rfl (hts (.methodLinkNest RX1 34 yX4_init "LevelScores") (by decide +kernel))⟩, va_Nw.of rfl (hts (.methodLinkNest RX5 15 yX2_init "LevelScores") (by decide +kernel)), va_Nw.of rfl (hts (.methodLinkNest RX5 18 yX3_init "LevelScores") (by decide +kernel)), va_Nw.of rfl (hts (.methodLinkNest RX5 25 yX0_init "LevelScores") (by decide +kernel)), va_Nw.of rfl (hts (.methodLinkNest RX5 39 yX4_init "LevelScores") (by decide +kernel))⟩
theorem xB1_in : ∀ w ∈ xB1, w ∈ lw_tbl := by decide +kernel
theorem xB2_in : ∀ w ∈ xB2, w ∈ lw_tbl := by decide +kernel
def tmS (i : Nat) : Term := .string RX0 (([42, 48, 50, 52, 61, 66] : List Nat).getD i 0)
