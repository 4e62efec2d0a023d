/-! Class and reference read the same. -/
def sm (c s : Nat × Bool) : Prop := s = (c.1, !c.2)
def sr (h : Nat → Int32) (c s : Nat × Bool) : Prop := sm c s ∨ (c.2 = true ∧ s = (c.1, true) ∧ dig (h c.1))
theorem num_3 {h : Nat → Int32} {tl p : Nat} : (num h tl p).2.2 = 0 ∨ (num h tl p).2.2 = 1 ∨ (num h tl p).2.2 = 2 := by
  unfold num
  split
  · exact Or.inl rfl
  · split
    · exact Or.inr (Or.inl rfl)
    · show (if (gN0 h tl p).2.2 then 2 else 1) = 0 ∨ (if (gN0 h tl p).2.2 then 2 else 1) = 1 ∨ (if (gN0 h tl p).2.2 then 2 else 1) = 2
      cases (gN0 h tl p).2.2 with
      | true => exact Or.inr (Or.inr rfl)
      | false => exact Or.inr (Or.inl rfl)
theorem fM_n {h : Nat → Int32} {tl p : Nat} (z : ¬ (num h tl p).2.2 = 1) : fM h tl (p, false) = ((num h tl p).1, true) := by
  rw [fM_u rfl]
  show ((num h tl p).1, !decide ((num h tl p).2.2 = 1)) = _
  rw [decide_eq_false z]
  rfl
theorem fM_y {h : Nat → Int32} {tl p : Nat} (z : (num h tl p).2.2 = 1) : fM h tl (p, false) = ((num h tl p).1, false) := by
  rw [fM_u rfl]
  show ((num h tl p).1, !decide ((num h tl p).2.2 = 1)) = _
  rw [decide_eq_true z]
  rfl
theorem dig_ne {x c : Int32} (hd : dig x) (hc : ¬ dig c) : ¬ x = c := fun y => hc (y ▸ hd)
theorem ls_same {T : Nat → Int32} {tl : Nat} : ∀ (n p : Nat), p ≤ tl → sr (hr T tl) ((lsC (hr T tl) tl (n + 1) p).1, (lsC (hr T tl) tl (n + 1) p).2.1) (lpM (hr T tl) tl n (fM (hr T tl) tl (p, false))).1 ∧ ((lpM (hr T tl) tl n (fM (hr T tl) tl (p, false))).1.2 = false → (lsC (hr T tl) tl (n + 1) p).2.2 = nV (hr T tl) tl p :: (lpM (hr T tl) tl n (fM (hr T tl) tl (p, false))).2) := by
  intro n
  induction n with
  | zero =>
    intro p hp
    rw [lsC_s]
    rcases num_3 (h := hr T tl) (tl := tl) (p := p) with z | z | z
    · rw [if_pos z, fM_n (by omega)]
      exact ⟨Or.inl rfl, fun y => absurd (show true = false from y) (by decide)⟩
    · rw [if_neg (by omega), if_neg (fun y => absurd y.1 (Nat.lt_irrefl 0)), fM_y z]
      exact ⟨Or.inl rfl, fun _ => rfl⟩
    · rw [if_neg (by omega), if_neg (fun y => absurd y.1 (Nat.lt_irrefl 0)), fM_n (by omega)]
      exact ⟨Or.inr ⟨rfl, rfl, (num_le hp).2 z⟩, fun y => absurd (show true = false from y) (by decide)⟩
  | succ n ih =>
    intro p hp
    rw [lsC_s]
    rcases num_3 (h := hr T tl) (tl := tl) (p := p) with z | z | z
    · rw [if_pos z, fM_n (by omega), lpM_st rfl]
      exact ⟨Or.inl rfl, fun y => absurd (show true = false from y) (by decide)⟩
    · rw [if_neg (by omega), fM_y z]
      by_cases y : hr T tl (num (hr T tl) tl p).1 = 47
      · rw [if_pos ⟨Nat.succ_pos n, y⟩, lpM_go rfl y]
        have e := ih ((num (hr T tl) tl p).1 + 1) (hr_47 (by decide) y)
        exact ⟨e.1, fun x => by rw [e.2 x]⟩
      · rw [if_neg (fun x => y x.2), lpM_ne y]
        exact ⟨Or.inl rfl, fun _ => rfl⟩
    · have hd := (num_le hp).2 z
      rw [if_neg (by omega), if_neg (fun y => dig_ne hd (by decide) y.2), fM_n (by omega), lpM_st rfl]
      exact ⟨Or.inr ⟨rfl, rfl, hd⟩, fun y => absurd (show true = false from y) (by decide)⟩
theorem row_same {T : Nat → Int32} {tl p : Nat} (hp : p ≤ tl) : sr (hr T tl) ((rowC (hr T tl) tl p).1, (rowC (hr T tl) tl p).2.1) (rwM (hr T tl) tl (p, false)).1 ∧ ((rwM (hr T tl) tl (p, false)).1.2 = false → (rowC (hr T tl) tl p).2.2 = (rwM (hr T tl) tl (p, false)).2) := by
  unfold rowC
  by_cases q : hr T tl p = 93
  · rw [if_pos q, rwM_0 ⟨rfl, q⟩]
    exact ⟨Or.inl rfl, fun _ => rfl⟩
  · rw [if_neg q, rwM_1 (fun y => q y.2)]
    exact ls_same 5 p hp
theorem rwM_st {h : Nat → Int32} {tl : Nat} {s : Nat × Bool} (q : s.2 = true) : (rwM h tl s).1 = s := by
  rw [rwM_1 (fun y => absurd (y.1.symm.trans q) Bool.false_ne_true), fM_s q, lpM_st q]
theorem wd_same {h : Nat → Int32} {i a : Nat} {s : Nat × Bool} {c : Int32} {w : List Int32} (hw : sTx i = c :: w) (hc : ¬ dig c) (hs : s = (a, false) ∨ (s = (a, true) ∧ dig (h a))) : wM h (sTx i) s = ((wrd h (sTx i) a).1, !(wrd h (sTx i) a).2) := by
  rcases hs with rfl | ⟨rfl, hd⟩
  · exact wM_u rfl
  · rw [wM_s rfl, hw, wrd_dig hc hd]
    rfl
theorem sr_of {h : Nat → Int32} {a : Nat} {b : Bool} {s : Nat × Bool} (k : sr h (a, b) s) (hb : b = true) : s = (a, false) ∨ (s = (a, true) ∧ dig (h a)) := by
  subst hb
  rcases k with k | k
  · exact Or.inl k
  · exact Or.inr k.2
theorem sr_no {h : Nat → Int32} {a : Nat} {b : Bool} {s : Nat × Bool} (k : sr h (a, b) s) (hb : ¬ b = true) : s = (a, true) := by
  rcases k with k | k
  · rw [Bool.not_eq_true] at hb
    rw [hb] at k
    exact k
  · exact k.2.1
theorem s4M_st {h : Nat → Int32} {tl q : Nat} {s : Nat × Bool} (k : (s3M h tl s) = (q, true)) : s4M h tl s = (q, true) := by
  show wM h (sTx 5) (s3M h tl s) = _
  rw [k]
  exact wM_s rfl
theorem s3M_st {h : Nat → Int32} {tl q : Nat} {s : Nat × Bool} (k : (r2M h tl s).1 = (q, true)) : s3M h tl s = (q, true) := by
  show ((r2M h tl s).1.1, (r2M h tl s).1.2 || decide ((r1M h tl s).2.length + (r2M h tl s).2.length = 0)) = _
  rw [k]
  rfl
theorem bent_same {T : Nat → Int32} {tl : Nat} (h0 : hr T tl 0 = 91) : sm ((bentC (hr T tl) tl 0).1, (bentC (hr T tl) tl 0).2.1) (s4M (hr T tl) tl (0, false)) ∧ ((s4M (hr T tl) tl (0, false)).2 = false → (bentC (hr T tl) tl 0).2.2.1 = (r1M (hr T tl) tl (0, false)).2 ∧ (bentC (hr T tl) tl 0).2.2.2 = (r2M (hr T tl) tl (0, false)).2) := by
  have hlt : 0 + 1 ≤ tl := hr_47 (by decide) h0
  have hw : wM (hr T tl) [91] (0, false) = (0 + 1, false) := by
    rw [wM_u rfl, wrd_c, if_pos h0]
    rfl
  have e1 : r1M (hr T tl) tl (0, false) = rwM (hr T tl) tl (0 + 1, false) := by
    show rwM (hr T tl) tl (wM (hr T tl) [91] (0, false)) = _
    rw [hw]
  have ha := row_same (T := T) hlt
  rw [← e1] at ha
  have hale : (rowC (hr T tl) tl (0 + 1)).1 ≤ tl := by
    have e2 : (r1M (hr T tl) tl (0, false)).1.1 ≤ tl := by rw [e1]; exact rwM_le hlt
    rcases ha.1 with k | k
    · rw [k] at e2; exact e2
    · rw [k.2.1] at e2; exact e2
  by_cases c1 : (rowC (hr T tl) tl (0 + 1)).2.1 = true
  · have s1 := sr_of ha.1 c1
    have w4 := wd_same (h := hr T tl) (i := 4) (c := 93) (w := (sTx 4).tail) rfl (by decide) s1
    have hq : (wrd (hr T tl) (sTx 4) (rowC (hr T tl) tl (0 + 1)).1).1 ≤ tl := pw_le (by decide) hale
    by_cases c2 : (wrd (hr T tl) (sTx 4) (rowC (hr T tl) tl (0 + 1)).1).2 = true
    · have e2 : r2M (hr T tl) tl (0, false) = rwM (hr T tl) tl ((wrd (hr T tl) (sTx 4) (rowC (hr T tl) tl (0 + 1)).1).1, false) := by
        show rwM (hr T tl) tl (wM (hr T tl) (sTx 4) (r1M (hr T tl) tl (0, false)).1) = _
        rw [w4, c2]
        rfl
      have u1 : (r1M (hr T tl) tl (0, false)).1.2 = false := by
        rcases s1 with k | k
        · rw [k]
        · rw [k.1, wM_s rfl, c2] at w4
          exact absurd (show true = false from congrArg Prod.snd w4) (by decide)
      have l1 := ha.2 u1
      have hb := row_same (T := T) hq
      rw [← e2] at hb
      by_cases c3 : ¬ (rowC (hr T tl) tl (wrd (hr T tl) (sTx 4) (rowC (hr T tl) tl (0 + 1)).1).1).2.1 = true ∨ (rowC (hr T tl) tl (0 + 1)).2.2.length + (rowC (hr T tl) tl (wrd (hr T tl) (sTx 4) (rowC (hr T tl) tl (0 + 1)).1).1).2.2.length = 0
      · have eB : bentC (hr T tl) tl 0 = ((rowC (hr T tl) tl (wrd (hr T tl) (sTx 4) (rowC (hr T tl) tl (0 + 1)).1).1).1, false, [], []) := (if_neg (not_not_intro c1)).trans ((if_neg (not_not_intro c2)).trans (if_pos c3))
        have s3 : s3M (hr T tl) tl (0, false) = ((rowC (hr T tl) tl (wrd (hr T tl) (sTx 4) (rowC (hr T tl) tl (0 + 1)).1).1).1, true) := by
          by_cases c4 : (rowC (hr T tl) tl (wrd (hr T tl) (sTx 4) (rowC (hr T tl) tl (0 + 1)).1).1).2.1 = true
          · rcases sr_of hb.1 c4 with k | k
            · have l2 := hb.2 (by rw [k])
              have c5 := c3.resolve_left (not_not_intro c4)
              rw [l1, l2] at c5
              show ((r2M (hr T tl) tl (0, false)).1.1, (r2M (hr T tl) tl (0, false)).1.2 || decide ((r1M (hr T tl) tl (0, false)).2.length + (r2M (hr T tl) tl (0, false)).2.length = 0)) = _
              rw [decide_eq_true c5, Bool.or_true, k]
            · exact s3M_st k.1
          · exact s3M_st (sr_no hb.1 c4)
        rw [s4M_st s3, eB]
        exact ⟨rfl, fun y => absurd (show true = false from y) (by decide)⟩
      · have c4 : (rowC (hr T tl) tl (wrd (hr T tl) (sTx 4) (rowC (hr T tl) tl (0 + 1)).1).1).2.1 = true := Classical.byContradiction fun y => c3 (Or.inl y)
        have eB : bentC (hr T tl) tl 0 = ((wrd (hr T tl) (sTx 5) (rowC (hr T tl) tl (wrd (hr T tl) (sTx 4) (rowC (hr T tl) tl (0 + 1)).1).1).1).1, (wrd (hr T tl) (sTx 5) (rowC (hr T tl) tl (wrd (hr T tl) (sTx 4) (rowC (hr T tl) tl (0 + 1)).1).1).1).2, (rowC (hr T tl) tl (0 + 1)).2.2, (rowC (hr T tl) tl (wrd (hr T tl) (sTx 4) (rowC (hr T tl) tl (0 + 1)).1).1).2.2) := (if_neg (not_not_intro c1)).trans ((if_neg (not_not_intro c2)).trans (if_neg c3))
        have s3 : s3M (hr T tl) tl (0, false) = ((rowC (hr T tl) tl (wrd (hr T tl) (sTx 4) (rowC (hr T tl) tl (0 + 1)).1).1).1, false) ∨ (s3M (hr T tl) tl (0, false) = ((rowC (hr T tl) tl (wrd (hr T tl) (sTx 4) (rowC (hr T tl) tl (0 + 1)).1).1).1, true) ∧ dig (hr T tl (rowC (hr T tl) tl (wrd (hr T tl) (sTx 4) (rowC (hr T tl) tl (0 + 1)).1).1).1)) := by
          rcases sr_of hb.1 c4 with k | k
          · have l2 := hb.2 (by rw [k])
            have c5 : ¬ (r1M (hr T tl) tl (0, false)).2.length + (r2M (hr T tl) tl (0, false)).2.length = 0 := fun y => c3 (Or.inr (by rw [l1, l2]; exact y))
            refine Or.inl ?_
            show ((r2M (hr T tl) tl (0, false)).1.1, (r2M (hr T tl) tl (0, false)).1.2 || decide ((r1M (hr T tl) tl (0, false)).2.length + (r2M (hr T tl) tl (0, false)).2.length = 0)) = _
            rw [decide_eq_false c5, Bool.or_false, k]
          · exact Or.inr ⟨s3M_st k.1, k.2⟩
        have w5 := wd_same (h := hr T tl) (i := 5) (c := 93) (w := (sTx 5).tail) rfl (by decide) s3
        refine ⟨?_, fun y => ?_⟩
        · rw [eB]
          exact w5
        · have y2 : (r2M (hr T tl) tl (0, false)).1.2 = false := (s3M_un (wM_un y)).1
          rw [eB]
          exact ⟨l1, hb.2 y2⟩
    · have eB : bentC (hr T tl) tl 0 = ((wrd (hr T tl) (sTx 4) (rowC (hr T tl) tl (0 + 1)).1).1, false, [], []) := (if_neg (not_not_intro c1)).trans (if_pos c2)
      have c2' : (wrd (hr T tl) (sTx 4) (rowC (hr T tl) tl (0 + 1)).1).2 = false := by rw [Bool.not_eq_true] at c2; exact c2
      have e2 : (r2M (hr T tl) tl (0, false)).1 = ((wrd (hr T tl) (sTx 4) (rowC (hr T tl) tl (0 + 1)).1).1, true) := by
        show (rwM (hr T tl) tl (wM (hr T tl) (sTx 4) (r1M (hr T tl) tl (0, false)).1)).1 = _
        rw [w4, c2']
        exact rwM_st rfl
      rw [s4M_st (s3M_st e2), eB]
      exact ⟨rfl, fun y => absurd (show true = false from y) (by decide)⟩
  · have s1 := sr_no ha.1 c1
    have eB : bentC (hr T tl) tl 0 = ((rowC (hr T tl) tl (0 + 1)).1, false, [], []) := if_pos c1
    have e2 : (r2M (hr T tl) tl (0, false)).1 = ((rowC (hr T tl) tl (0 + 1)).1, true) := by
      show (rwM (hr T tl) tl (wM (hr T tl) (sTx 4) (r1M (hr T tl) tl (0, false)).1)).1 = _
      rw [s1, wM_s rfl]
      exact rwM_st rfl
    rw [s4M_st (s3M_st e2), eB]
    exact ⟨rfl, fun y => absurd (show true = false from y) (by decide)⟩
/-- a number, then what the two sides hold -/
theorem nm_same {T : Nat → Int32} {tl p : Nat} (hp : p ≤ tl) (z : ¬ (num (hr T tl) tl p).2.2 = 0) : (fM (hr T tl) tl (p, false) = ((num (hr T tl) tl p).1, false)) ∨ (fM (hr T tl) tl (p, false) = ((num (hr T tl) tl p).1, true) ∧ dig (hr T tl (num (hr T tl) tl p).1)) := by
  rcases num_3 (h := hr T tl) (tl := tl) (p := p) with y | y | y
  · exact absurd y z
  · exact Or.inl (fM_y y)
  · exact Or.inr ⟨fM_n (by omega), (num_le hp).2 y⟩
theorem plain_same {T : Nat → Int32} {tl : Nat} : sm ((plainC (hr T tl) tl 0).1, (plainC (hr T tl) tl 0).2.1) (pnM (hr T tl) tl (0, false)).1 ∧ ((pnM (hr T tl) tl (0, false)).1.2 = false → (plainC (hr T tl) tl 0).2.2 = (pnM (hr T tl) tl (0, false)).2) := by
  have no : ∀ {P : Prop} {q : Nat}, ((q, true) : Nat × Bool).2 = false → P := fun y => absurd (show true = false from y) (by decide)
  have hp1 : pn (hr T tl) tl 0 ≤ tl := (num_le (Nat.zero_le _)).1
  by_cases z0 : (num (hr T tl) tl 0).2.2 = 0
  · have eC : plainC (hr T tl) tl 0 = (pn (hr T tl) tl 0, false, 0, []) := if_pos z0
    have eF := fM_n (h := hr T tl) (tl := tl) (p := 0) (by omega)
    rw [eC, pnM_0 (by rw [eF]; exact fun y => no y.1), eF]
    exact ⟨rfl, no⟩
  · by_cases z1 : pn (hr T tl) tl 0 = tl
    · have eC : plainC (hr T tl) tl 0 = (pn (hr T tl) tl 0, true, 0, [nV (hr T tl) tl 0]) := (if_neg z0).trans (if_pos z1)
      rcases nm_same (T := T) (Nat.zero_le tl) z0 with eF | eF
      · rw [eC, pnM_0 (by rw [eF]; exact fun y => absurd (show pn (hr T tl) tl 0 < tl from y.2) (by omega)), eF]
        exact ⟨rfl, fun _ => rfl⟩
      · exact absurd (hr_dig eF.2) (by have : (num (hr T tl) tl 0).1 = tl := z1; omega)
    · by_cases z2 : (wrd (hr T tl) (sTx 0) (pn (hr T tl) tl 0)).2 = true
      · have eF : fM (hr T tl) tl (0, false) = (pn (hr T tl) tl 0, false) := by
          rcases nm_same (T := T) (Nat.zero_le tl) z0 with eF | eF
          · exact eF
          · have e := wrd_dig (h := hr T tl) (c := 104) (w := (sTx 0).tail) (p := pn (hr T tl) tl 0) (by decide) eF.2
            have e : wrd (hr T tl) (sTx 0) (pn (hr T tl) tl 0) = (pn (hr T tl) tl 0, false) := e
            rw [e] at z2
            exact absurd z2 (show ¬ false = true by decide)
        have hq : (fM (hr T tl) tl (0, false)).2 = false ∧ (fM (hr T tl) tl (0, false)).1 < tl := by rw [eF]; exact ⟨rfl, by show pn (hr T tl) tl 0 < tl; omega⟩
        have hp2 : pw_ (hr T tl) 0 (pn (hr T tl) tl 0) ≤ tl := pw_le (by decide) hp1
        have e2 : p2M (hr T tl) tl (0, false) = (pw_ (hr T tl) 0 (pn (hr T tl) tl 0), false) := by
          show wM (hr T tl) (sTx 0) (fM (hr T tl) tl (0, false)) = _
          rw [eF, wM_u rfl]
          show (_, !(wrd (hr T tl) (sTx 0) (pn (hr T tl) tl 0)).2) = _
          rw [z2]
          rfl
        have hp3 : pn (hr T tl) tl (pw_ (hr T tl) 0 (pn (hr T tl) tl 0)) ≤ tl := (num_le hp2).1
        by_cases z3 : (num (hr T tl) tl (pw_ (hr T tl) 0 (pn (hr T tl) tl 0))).2.2 = 0
        · have eC : plainC (hr T tl) tl 0 = (pn (hr T tl) tl (pw_ (hr T tl) 0 (pn (hr T tl) tl 0)), false, 0, []) := (if_neg z0).trans ((if_neg z1).trans ((if_neg (not_not_intro z2)).trans (if_pos z3)))
          have e3 : p3M (hr T tl) tl (0, false) = (pn (hr T tl) tl (pw_ (hr T tl) 0 (pn (hr T tl) tl 0)), true) := by
            show fM (hr T tl) tl (p2M (hr T tl) tl (0, false)) = _
            rw [e2]
            exact fM_n (by omega)
          rw [eC, pnM_1 hq (by rw [e3]; exact fun y => no y.1), e3, wM_s rfl]
          exact ⟨rfl, no⟩
        · have e3 : p3M (hr T tl) tl (0, false) = fM (hr T tl) tl (pw_ (hr T tl) 0 (pn (hr T tl) tl 0), false) := by
            show fM (hr T tl) tl (p2M (hr T tl) tl (0, false)) = _
            rw [e2]
          have h3 := nm_same (T := T) hp2 z3
          rw [← e3] at h3
          by_cases z4 : hr T tl (pn (hr T tl) tl (pw_ (hr T tl) 0 (pn (hr T tl) tl 0))) = 109
          · have e3' : p3M (hr T tl) tl (0, false) = (pn (hr T tl) tl (pw_ (hr T tl) 0 (pn (hr T tl) tl 0)), false) := by
              rcases h3 with k | k
              · exact k
              · exact absurd z4 (dig_ne k.2 (by decide))
            have hq3 : (p3M (hr T tl) tl (0, false)).2 = false ∧ hr T tl (p3M (hr T tl) tl (0, false)).1 = 109 := by rw [e3']; exact ⟨rfl, z4⟩
            have hp4 : pw_ (hr T tl) 1 (pn (hr T tl) tl (pw_ (hr T tl) 0 (pn (hr T tl) tl 0))) ≤ tl := pw_le (by decide) hp3
            have e4 : p4M (hr T tl) tl (0, false) = (pw_ (hr T tl) 1 (pn (hr T tl) tl (pw_ (hr T tl) 0 (pn (hr T tl) tl 0))), !(wrd (hr T tl) (sTx 1) (pn (hr T tl) tl (pw_ (hr T tl) 0 (pn (hr T tl) tl 0)))).2) := by
              show wM (hr T tl) (sTx 1) (p3M (hr T tl) tl (0, false)) = _
              rw [e3', wM_u rfl]
            by_cases z5 : (wrd (hr T tl) (sTx 1) (pn (hr T tl) tl (pw_ (hr T tl) 0 (pn (hr T tl) tl 0)))).2 = true
            · rw [z5] at e4
              have e4 : p4M (hr T tl) tl (0, false) = (pw_ (hr T tl) 1 (pn (hr T tl) tl (pw_ (hr T tl) 0 (pn (hr T tl) tl 0))), false) := e4
              have e5 : p5M (hr T tl) tl (0, false) = fM (hr T tl) tl (pw_ (hr T tl) 1 (pn (hr T tl) tl (pw_ (hr T tl) 0 (pn (hr T tl) tl 0))), false) := by
                show fM (hr T tl) tl (p4M (hr T tl) tl (0, false)) = _
                rw [e4]
              by_cases z6 : (num (hr T tl) tl (pw_ (hr T tl) 1 (pn (hr T tl) tl (pw_ (hr T tl) 0 (pn (hr T tl) tl 0))))).2.2 = 0
              · have eC : plainC (hr T tl) tl 0 = (pn (hr T tl) tl (pw_ (hr T tl) 1 (pn (hr T tl) tl (pw_ (hr T tl) 0 (pn (hr T tl) tl 0)))), false, 0, []) := (if_neg z0).trans ((if_neg z1).trans ((if_neg (not_not_intro z2)).trans ((if_neg z3).trans ((if_pos z4).trans ((if_neg (not_not_intro z5)).trans (if_pos z6))))))
                rw [eC, pnM_2 hq hq3, e5, fM_n (by omega), wM_s rfl]
                exact ⟨rfl, no⟩
              · have eC : plainC (hr T tl) tl 0 = (pw_ (hr T tl) 2 (pn (hr T tl) tl (pw_ (hr T tl) 1 (pn (hr T tl) tl (pw_ (hr T tl) 0 (pn (hr T tl) tl 0))))), (wrd (hr T tl) (sTx 2) (pn (hr T tl) tl (pw_ (hr T tl) 1 (pn (hr T tl) tl (pw_ (hr T tl) 0 (pn (hr T tl) tl 0)))))).2, 2, [nV (hr T tl) tl 0, nV (hr T tl) tl (pw_ (hr T tl) 0 (pn (hr T tl) tl 0)), nV (hr T tl) tl (pw_ (hr T tl) 1 (pn (hr T tl) tl (pw_ (hr T tl) 0 (pn (hr T tl) tl 0))))]) := (if_neg z0).trans ((if_neg z1).trans ((if_neg (not_not_intro z2)).trans ((if_neg z3).trans ((if_pos z4).trans ((if_neg (not_not_intro z5)).trans (if_neg z6))))))
                have h5 := nm_same (T := T) hp4 z6
                rw [← e5] at h5
                have w2 := wd_same (h := hr T tl) (i := 2) (c := 115) (w := (sTx 2).tail) rfl (by decide) h5
                rw [eC, pnM_2 hq hq3, e2, e4]
                exact ⟨w2, fun _ => rfl⟩
            · have eC : plainC (hr T tl) tl 0 = (pw_ (hr T tl) 1 (pn (hr T tl) tl (pw_ (hr T tl) 0 (pn (hr T tl) tl 0))), false, 0, []) := (if_neg z0).trans ((if_neg z1).trans ((if_neg (not_not_intro z2)).trans ((if_neg z3).trans ((if_pos z4).trans (if_pos z5)))))
              rw [Bool.not_eq_true] at z5
              rw [z5] at e4
              have e4 : p4M (hr T tl) tl (0, false) = (pw_ (hr T tl) 1 (pn (hr T tl) tl (pw_ (hr T tl) 0 (pn (hr T tl) tl 0))), true) := e4
              have e5 : p5M (hr T tl) tl (0, false) = (pw_ (hr T tl) 1 (pn (hr T tl) tl (pw_ (hr T tl) 0 (pn (hr T tl) tl 0))), true) := by
                show fM (hr T tl) tl (p4M (hr T tl) tl (0, false)) = _
                rw [e4]
                exact fM_s rfl
              rw [eC, pnM_2 hq hq3, e5, wM_s rfl]
              exact ⟨rfl, no⟩
          · have eC : plainC (hr T tl) tl 0 = (pw_ (hr T tl) 2 (pn (hr T tl) tl (pw_ (hr T tl) 0 (pn (hr T tl) tl 0))), (wrd (hr T tl) (sTx 2) (pn (hr T tl) tl (pw_ (hr T tl) 0 (pn (hr T tl) tl 0)))).2, 1, [nV (hr T tl) tl 0, nV (hr T tl) tl (pw_ (hr T tl) 0 (pn (hr T tl) tl 0))]) := (if_neg z0).trans ((if_neg z1).trans ((if_neg (not_not_intro z2)).trans ((if_neg z3).trans (if_neg z4))))
            have w2 := wd_same (h := hr T tl) (i := 2) (c := 115) (w := (sTx 2).tail) rfl (by decide) h3
            have hn3 : ¬ ((p3M (hr T tl) tl (0, false)).2 = false ∧ hr T tl (p3M (hr T tl) tl (0, false)).1 = 109) := by
              rcases h3 with k | k
              · rw [k]; exact fun y => z4 y.2
              · rw [k.1]; exact fun y => no y.1
            rw [eC, pnM_1 hq hn3, e2]
            exact ⟨w2, fun _ => rfl⟩
      · have eC : plainC (hr T tl) tl 0 = (pw_ (hr T tl) 0 (pn (hr T tl) tl 0), false, 0, []) := (if_neg z0).trans ((if_neg z1).trans (if_pos z2))
        rw [Bool.not_eq_true] at z2
        rcases nm_same (T := T) (Nat.zero_le tl) z0 with eF | eF
        · have hq : (fM (hr T tl) tl (0, false)).2 = false ∧ (fM (hr T tl) tl (0, false)).1 < tl := by rw [eF]; exact ⟨rfl, by show pn (hr T tl) tl 0 < tl; omega⟩
          have e2 : p2M (hr T tl) tl (0, false) = (pw_ (hr T tl) 0 (pn (hr T tl) tl 0), true) := by
            show wM (hr T tl) (sTx 0) (fM (hr T tl) tl (0, false)) = _
            rw [eF, wM_u rfl]
            show (_, !(wrd (hr T tl) (sTx 0) (pn (hr T tl) tl 0)).2) = _
            rw [z2]
            rfl
          have e3 : p3M (hr T tl) tl (0, false) = (pw_ (hr T tl) 0 (pn (hr T tl) tl 0), true) := by
            show fM (hr T tl) tl (p2M (hr T tl) tl (0, false)) = _
            rw [e2]
            exact fM_s rfl
          rw [eC, pnM_1 hq (by rw [e3]; exact fun y => no y.1), e3, wM_s rfl]
          exact ⟨rfl, no⟩
        · have e := wrd_dig (h := hr T tl) (c := 104) (w := (sTx 0).tail) (p := pn (hr T tl) tl 0) (by decide) eF.2
          have e : wrd (hr T tl) (sTx 0) (pn (hr T tl) tl 0) = (pn (hr T tl) tl 0, false) := e
          have e9 : pw_ (hr T tl) 0 (pn (hr T tl) tl 0) = pn (hr T tl) tl 0 := congrArg Prod.fst e
          rw [eC, e9, pnM_0 (by rw [eF.1]; exact fun y => no y.1), eF.1]
          exact ⟨rfl, no⟩
theorem rd_same (T : Nat → Int32) (tl : Nat) : sm ((rdC (hr T tl) tl).1, (rdC (hr T tl) tl).2.1) (rdM (hr T tl) tl).1 ∧ ((rdM (hr T tl) tl).1.2 = false → (rdC (hr T tl) tl).2.2 = (rdM (hr T tl) tl).2) := by
  by_cases q : hr T tl 0 = 91
  · have e := bent_same q
    rw [rdC_b q, rdM_b q]
    exact ⟨e.1, fun y => by rw [(e.2 y).1, (e.2 y).2]⟩
  · have e := plain_same (T := T) (tl := tl)
    rw [rdC_p q, rdM_p q]
    exact ⟨e.1, fun y => by rw [e.2 y]⟩
/-- what both read: fine and all of it, the place, and the score -/
theorem rd_ok (T : Nat → Int32) (tl : Nat) : (((rdC (hr T tl) tl).2.1 = true ∧ (rdC (hr T tl) tl).1 = tl) ↔ ((rdM (hr T tl) tl).1.2 = false ∧ (rdM (hr T tl) tl).1.1 = tl)) ∧ (rdC (hr T tl) tl).1 = (rdM (hr T tl) tl).1.1 := by
  have e := (rd_same T tl).1
  have e1 : (rdM (hr T tl) tl).1.1 = (rdC (hr T tl) tl).1 := congrArg Prod.fst e
  have e2 : (rdM (hr T tl) tl).1.2 = !(rdC (hr T tl) tl).2.1 := congrArg Prod.snd e
  refine ⟨?_, e1.symm⟩
  rw [e1, e2]
  cases (rdC (hr T tl) tl).2.1 <;> simp
theorem rdC_len (T : Nat → Int32) (tl : Nat) (h : (rdC (hr T tl) tl).2.1 = true ∧ (rdC (hr T tl) tl).1 = tl) : (rdC (hr T tl) tl).2.2 = (rdM (hr T tl) tl).2 := (rd_same T tl).2 ((rd_ok T tl).1.mp h).1
