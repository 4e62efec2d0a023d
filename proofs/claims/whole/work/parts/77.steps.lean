/-! Call by call: the same answer, and the pools stay side by side. -/
theorem toNat_nI {k : Nat} (h : k < 2 ^ 31) : (nI k).toInt.toNat = k := by rw [nI_toInt h]; omega
theorem mk_ok {sh h s : Int32} (h1 : inN sh 4) (h2 : ¬ (sh = 3 ∧ (6 < h.toInt ∨ 6 < s.toInt ∨ (h = 0 ∧ s = 0)))) (h3 : ¬ (sh = 3 ∧ (h.toInt < 0 ∨ s.toInt < 0))) : jn (mkZ sh h s) ≤ 12 ∧ shOk sh (mkH sh h) (nI (jn (mkZ sh h s))) := by
  have g1 := h1.1
  have g2 := h1.2
  by_cases q : sh = 3
  · have a1 : ¬ 6 < h.toInt := fun y => h2 ⟨q, Or.inl y⟩
    have a2 : ¬ 6 < s.toInt := fun y => h2 ⟨q, Or.inr (Or.inl y)⟩
    have a3 : ¬ h.toInt < 0 := fun y => h3 ⟨q, Or.inl y⟩
    have a4 : ¬ s.toInt < 0 := fun y => h3 ⟨q, Or.inr y⟩
    have e : mkZ sh h s = h + s := if_pos q
    have e2 : mkH sh h = h := if_pos q
    have hz : jn (h + s) = (h.toInt + s.toInt).toNat := by unfold jn; rw [i32_add (by omega) (by omega)]
    rw [e, e2, hz]
    refine ⟨by omega, ?_⟩
    unfold shOk
    rw [jn_nI (by omega), nI_toInt (by omega)]
    unfold jn
    refine ⟨⟨by omega, by omega⟩, ⟨by omega, by omega⟩, by omega, fun _ => ⟨by omega, by omega⟩, fun _ => by omega, fun _ z => absurd q z⟩
  · have q3 : sh.toInt ≠ 3 := fun y => q (Int32.toInt_inj.mp y)
    have e : mkZ sh h s = sh + 1 := if_neg q
    have hz : jn (sh + 1) = sh.toInt.toNat + 1 := by unfold jn; rw [i32_add (by rw [i32_1]; omega) (by rw [i32_1]; omega), i32_1]; omega
    have hh : (mkH sh h).toInt = 0 ∨ ((mkH sh h).toInt = 1 ∧ 1 ≤ sh.toInt) := by
      unfold mkH
      rw [if_neg q]
      by_cases z : sh = 0
      · rw [if_pos z]; exact Or.inl rfl
      · have z3 : sh.toInt ≠ 0 := fun y => z (Int32.toInt_inj.mp y)
        rw [if_neg z]; exact Or.inr ⟨rfl, by omega⟩
    rw [e, hz]
    refine ⟨by omega, ?_⟩
    unfold shOk
    rw [jn_nI (by omega), nI_toInt (by omega)]
    unfold jn
    refine ⟨⟨by omega, by omega⟩, ⟨by omega, by omega⟩, by omega, fun z => absurd z q, fun _ => by omega, fun _ _ => rfl⟩
section ST
variable {S T S2 T2 : PS} {n nr nh z tl pl : Nat} {wr br : Nat → Nat} {sp : Nat} {v v' : Int32}
theorem RR.same (h : REL S T n nr nh z tl pl wr br sp) (e : S2 = S) (e' : T2 = T) : RR S2 T2 := by rw [e, e']; exact h.rl
theorem st_make (h : REL S T n nr nh z tl pl wr br sp) {sh h2 s2 : Int32} (p1 : spMake n sh h2 s2 v (S2 = S) (nw S S2 n sh (mkH sh h2) (jn (mkZ sh h2 s2)) (fun _ => 0))) (p2 : spMake n sh h2 s2 v' (T2 = T) (nwM T T2 n sh (mkH sh h2) (jn (mkZ sh h2 s2)) (fun _ => 0))) : v = v' ∧ RR S2 T2 := by
  unfold spMake at p1 p2
  have hn := h.nm.2.2
  by_cases c1 : inN sh 4
  · rw [if_pos c1] at p1 p2
    by_cases c2 : sh = 3 ∧ (6 < h2.toInt ∨ 6 < s2.toInt ∨ (h2 = 0 ∧ s2 = 0))
    · rw [if_pos c2] at p1 p2
      exact ⟨p1.1.trans p2.1.symm, RR.same h p1.2 p2.2⟩
    · rw [if_neg c2] at p1 p2
      by_cases c3 : n = 60
      · rw [if_pos c3] at p1 p2
        exact ⟨p1.1.trans p2.1.symm, RR.same h p1.2 p2.2⟩
      · rw [if_neg c3] at p1 p2
        by_cases c4 : sh = 3 ∧ (h2.toInt < 0 ∨ s2.toInt < 0)
        · rw [if_pos c4] at p1 p2
          exact ⟨p1.1.trans p2.1.symm, RR.same h p1.2 p2.2⟩
        · rw [if_neg c4] at p1 p2
          have k := mk_ok c1 c2 c4
          exact ⟨p1.1.trans p2.1.symm, (h.nw (by omega) k.1 p1.2 p2.2 (fun _ _ => rfl) k.2).rl⟩
  · rw [if_neg c1] at p1 p2
    exact ⟨p1.1.trans p2.1.symm, RR.same h p1.2 p2.2⟩
theorem shOk_no : shOk (-1) 0 (nI 0) := by
  unfold shOk jn
  exact ⟨by decide, by decide, by decide, fun x => absurd x (by decide), fun x => absurd rfl x, fun x => absurd rfl x⟩
theorem st_nothing (h : REL S T n nr nh z tl pl wr br sp) (p1 : spNothing n v (S2 = S) (nw S S2 n (-1) 0 0 (fun _ => 0))) (p2 : spNothing n v' (T2 = T) (nwM T T2 n (-1) 0 0 (fun _ => 0))) : v = v' ∧ RR S2 T2 := by
  unfold spNothing at p1 p2
  have hn := h.nm.2.2
  by_cases c3 : n = 60
  · rw [if_pos c3] at p1 p2
    exact ⟨p1.1.trans p2.1.symm, RR.same h p1.2 p2.2⟩
  · rw [if_neg c3] at p1 p2
    exact ⟨p1.1.trans p2.1.symm, (h.nw (by omega) (by decide) p1.2 p2.2 (fun _ _ => rfl) shOk_no).rl⟩
theorem st_set (h : REL S T n nr nh z tl pl wr br sp) {i k : Int32} {x : Int64} (p1 : spSet n (fun j => sI S 2 j 0) (fun j => sI S 2 j 2) i k v (S2 = S) (S2 = uJ S 9 (jn i) (jn k) x)) (p2 : spSet n (sI T 8 0) (sI T 8 2) i k v' (T2 = T) (T2 = uJ T 9 0 (12 * jn i + jn k) x)) : v = v' ∧ RR S2 T2 := by
  unfold spSet at p1 p2
  by_cases c1 : inN i n
  · have hj := jn_lt c1
    obtain ⟨⟨e0, e1, e2⟩, e3, e4⟩ := h.s _ hj
    rw [if_pos c1] at p1 p2
    rw [e0, e2] at p2
    by_cases c2 : sI S 2 (jn i) 0 = -1
    · rw [if_pos c2] at p1 p2
      exact ⟨p1.1.trans p2.1.symm, RR.same h p1.2 p2.2⟩
    · rw [if_neg c2] at p1 p2
      by_cases c3 : inN k (sI S 2 (jn i) 2).toInt
      · rw [if_pos c3] at p1 p2
        refine ⟨p1.1.trans p2.1.symm, ?_⟩
        obtain ⟨-, rfl⟩ := p1
        obtain ⟨-, rfl⟩ := p2
        have hk : jn k < 12 := by have := c3.1; have := c3.2; have := e3.2.1; unfold jn; omega
        have hn := h.nm.2.2
        have a : ag S (uJ S 9 (jn i) (jn k) x) (fun _ _ _ => False) (fun c r j => c = 9 ∧ r = jn i ∧ j = jn k) := ⟨fun _ _ _ _ => rfl, fun c r j q => by rw [sJ_uJ, if_neg q]⟩
        have b : ag T (uJ T 9 0 (12 * jn i + jn k) x) (fun _ _ _ => False) (fun c r j => c = 9 ∧ r = 0 ∧ j = 12 * jn i + jn k) := ⟨fun _ _ _ _ => rfl, fun c r j q => by rw [sJ_uJ, if_neg q]⟩
        obtain ⟨d1, d2, -⟩ := h.d
        have hnr := h.p.2.2.1
        have hnh := h.p.2.2.2.2.2.1
        have hz := h.p.z12
        refine REL.rl (n := n) (nr := nr) (nh := nh) (z := z) (tl := tl) (pl := pl) (wr := wr) (br := br) (sp := sp) ⟨h.lk, h.lm, h.nm, fun i' hi' => ?_, h.q, h.d, h.p, h.w.fr a b hz (fun _ _ y => y.elim) (fun i' k' hi' y => by have := d1 i' (by omega); have := y.2.1; omega) (fun _ _ y => y.elim) (fun i' k' _ _ y => absurd y.2.1 (by decide)), h.b.fr a b hz (fun _ _ _ y => y.elim) (fun _ y => y.elim) (fun j k' hj' y => by have := d2 j (by omega); have := y.2.1; omega) (fun j k' _ _ y => absurd y.2.1 (by decide)), h.t⟩
        obtain ⟨f0, f3, f4⟩ := h.s i' hi'
        refine ⟨f0, f3, fun k' hk' => ?_⟩
        have hk12 : k' < 12 := by have hk' : k' < jn (sI S 2 i' 2) := hk'; have := f3.2.1; unfold jn at hk'; omega
        rw [sJ_uJ, sJ_uJ]
        by_cases y : i' = jn i ∧ k' = jn k
        · rw [if_pos ⟨rfl, rfl, by omega⟩, if_pos ⟨rfl, y⟩]
        · rw [if_neg (by omega), if_neg (fun u => y u.2)]
          exact f4 k' hk'
      · rw [if_neg c3] at p1 p2
        exact ⟨p1.1.trans p2.1.symm, RR.same h p1.2 p2.2⟩
  · rw [if_neg c1] at p1 p2
    exact ⟨p1.1.trans p2.1.symm, RR.same h p1.2 p2.2⟩
theorem st_told (h : REL S T n nr nh z tl pl wr br sp) {i w2 : Int32} (p1 : spTold n (fun j => sI S 2 j 0) (fun j => sI S 2 j 1) (fun j => sI S 2 j 2) (∀ k, k < jn (sI S 2 (jn i) 1) → ¬ sJ S 9 (jn i) k < 0) i w2 v (S2 = S)) (p2 : spTold n (sI T 8 0) (sI T 8 1) (sI T 8 2) (∀ j, j < jn (sI T 8 1 (jn i)) → ¬ sJ T 9 0 (12 * jn i + j) < 0) i w2 v' (T2 = T)) : v = v' ∧ RR S2 T2 := by
  unfold spTold at p1 p2
  by_cases c1 : inN i n
  · have hj := jn_lt c1
    obtain ⟨⟨e0, e1, e2⟩, e3, e4⟩ := h.s _ hj
    have hF : (∀ j, j < jn (sI T 8 1 (jn i)) → ¬ sJ T 9 0 (12 * jn i + j) < 0) ↔ (∀ k, k < jn (sI S 2 (jn i) 1) → ¬ sJ S 9 (jn i) k < 0) := by
      rw [e1]
      exact ⟨fun y k hk => by rw [← e4 k (Nat.lt_of_lt_of_le hk e3.2.2.1)]; exact y k hk, fun y k hk => by rw [e4 k (Nat.lt_of_lt_of_le hk e3.2.2.1)]; exact y k hk⟩
    rw [if_pos c1] at p1 p2
    by_cases c2 : inN w2 4
    · rw [if_pos c2] at p1 p2
      rw [e0, e1, e2] at p2
      by_cases c3 : sI S 2 (jn i) 0 = -1
      · rw [if_pos c3] at p1 p2
        exact ⟨p1.1.trans p2.1.symm, RR.same h p1.2 p2.2⟩
      · rw [if_neg c3] at p1 p2
        by_cases c4 : w2 = 0
        · rw [if_pos c4] at p1 p2
          exact ⟨p1.1.trans p2.1.symm, RR.same h p1.2 p2.2⟩
        · rw [if_neg c4] at p1 p2
          by_cases c5 : w2 = 1
          · rw [if_pos c5] at p1 p2
            exact ⟨p1.1.trans p2.1.symm, RR.same h p1.2 p2.2⟩
          · rw [if_neg c5] at p1 p2
            by_cases c6 : w2 = 2
            · rw [if_pos c6] at p1 p2
              exact ⟨p1.1.trans p2.1.symm, RR.same h p1.2 p2.2⟩
            · rw [if_neg c6] at p1 p2
              rw [e1] at hF
              rw [hF] at p2
              refine ⟨?_, RR.same h p1.2 p2.2⟩
              rcases p1.1 with y | y <;> rcases p2.1 with u | u
              · exact y.1.trans u.1.symm
              · exact absurd y.2 u.2
              · exact absurd u.2 y.2
              · exact y.1.trans u.1.symm
    · rw [if_neg c2] at p1 p2
      exact ⟨p1.1.trans p2.1.symm, RR.same h p1.2 p2.2⟩
  · rw [if_neg c1] at p1 p2
    exact ⟨p1.1.trans p2.1.symm, RR.same h p1.2 p2.2⟩
end ST
