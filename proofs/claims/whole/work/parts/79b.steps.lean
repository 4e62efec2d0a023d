/-! Rules, weights, the best ones. -/
theorem sJ_rwk_o {S : PS} {r : Nat} {g o : Nat → Int64} {k c' r' j : Nat} (h : ¬ (c' = 9 ∧ r' = r)) : sJ (rwk S r g o k) c' r' j = sJ S c' r' j := by unfold rwk; rw [sJ_rw9, if_neg h]
section ST
variable {S T S2 T2 : PS} {n nr nh z tl pl : Nat} {wr br : Nat → Nat} {sp : Nat} {v v' : Int32}
theorem st_rule (h : REL S T n nr nh z tl pl wr br sp) {a : Int32} (p1 : spRule n nr (fun j => sI S 2 j 0) (fun j => sI S 2 j 1) (fun j => sI S 2 j 2) (sI S 2 78 0) (sI S 2 78 1) (sI S 2 78 2) a v (S2 = S) (S2 = uI (uI (rwk (fm S (wr nr) (sI S 2 (jn a) 0) (sI S 2 (jn a) 1) (sI S 2 (jn a) 2)) (wr nr) (sJ S 9 (jn a)) (sJ S 9 (wr nr)) (jn (sI S 2 (jn a) 2))) 8 0 nr 0) 1 0 3 (nI (nr + 1)))) (p2 : spRule n nr (sI T 8 0) (sI T 8 1) (sI T 8 2) (sI T 6 0 5) (sI T 6 0 6) (sI T 6 0 7) a v' (T2 = T) (T2 = uI (uI (rko T 1 (12 * nr) (fun k => sJ T 9 0 (12 * jn a + k)) (sJ T 9 1) 12) 8 3 nr 0) 6 0 8 (nI (nr + 1)))) : v = v' ∧ RR S2 T2 := by
  obtain ⟨g1, g2, hnr, g3, g4, hnh, pz, mz, hz, g5, g6, ok, hne⟩ := h.p
  rw [g5, g6, mz, ← pz] at p2
  have hn := h.nm.2.2
  unfold spRule at p1 p2
  dsimp only at p1 p2
  by_cases c1 : inN a n
  · obtain ⟨⟨e0, e1, e2⟩, e3, e4⟩ := h.s _ (jn_lt c1)
    rw [if_pos c1] at p1 p2
    rw [e0, e1, e2] at p2
    by_cases c2 : nr = 12
    · rw [if_pos c2] at p1 p2
      exact ⟨p1.1.trans p2.1.symm, RR.same h p1.2 p2.2⟩
    · rw [if_neg c2] at p1 p2
      by_cases c3 : pairF (sI S 2 (jn a) 0) (sI S 2 (jn a) 1) (sI S 2 (jn a) 2) (sI S 2 78 0) (sI S 2 78 1) (sI S 2 78 2) = 0
      · rw [if_pos c3] at p1 p2
        refine ⟨p1.1.trans p2.1.symm, ?_⟩
        have hp := pairF_0 c3
        have hza : jn (sI S 2 (jn a) 2) = z := by rw [hp.2.2.2.2, pz, jn_nI (by omega)]
        rw [hza] at p1 e4
        have hja := jn_lt c1
        generalize sI S 2 (jn a) 0 = x0 at *
        generalize sI S 2 (jn a) 1 = x1 at *
        generalize sI S 2 (jn a) 2 = x2 at *
        obtain ⟨-, rfl⟩ := p1
        obtain ⟨-, rfl⟩ := p2
        obtain ⟨d1, d2, d3, d4, d5, d6, d7, d8⟩ := h.d
        have dn := d1 nr (by omega)
        have a1 : ag S (uI (uI (rwk (fm S (wr nr) x0 x1 x2) (wr nr) (sJ S 9 (jn a)) (sJ S 9 (wr nr)) z) 8 0 nr 0) 1 0 3 (nI (nr + 1))) (fun c r k => (c = 2 ∧ r = wr nr) ∨ (c = 8 ∧ r = 0 ∧ k = nr) ∨ (c = 1 ∧ r = 0 ∧ k = 3)) (fun c r _ => c = 9 ∧ r = wr nr) :=
          ⟨fun c r k q => by rw [sI_uI, if_neg (fun x => q (Or.inr (Or.inr x))), sI_uI, if_neg (fun x => q (Or.inr (Or.inl x))), sI_rwk, sI_fm_r (fun x => q (Or.inl x))], fun c r k q => by rw [sJ_uI, sJ_uI, sJ_rwk_o q, sJ_fm]⟩
        have b1 : ag T (uI (uI (rko T 1 (12 * nr) (fun k => sJ T 9 0 (12 * jn a + k)) (sJ T 9 1) 12) 8 3 nr 0) 6 0 8 (nI (nr + 1))) (fun c r k => (c = 8 ∧ r = 3 ∧ k = nr) ∨ (c = 6 ∧ r = 0 ∧ k = 8)) (fun c r k => c = 9 ∧ r = 1 ∧ 12 * nr ≤ k ∧ k < 12 * nr + 12) :=
          ⟨fun c r k q => by rw [sI_uI, if_neg (fun x => q (Or.inr x)), sI_uI, if_neg (fun x => q (Or.inl x)), sI_rko], fun c r k q => by
            rw [sJ_uI, sJ_uI]
            by_cases y : c = 9 ∧ r = 1
            · obtain ⟨rfl, rfl⟩ := y
              rw [sJ_rko_out (by omega)]
            · rw [sJ_rko_n y]⟩
        refine REL.rl (n := n) (nr := nr + 1) (nh := nh) (z := z) (tl := tl) (pl := pl) (wr := wr) (br := br) (sp := sp) ⟨h.lk, h.lm, h.nm.fr a1 b1 (by omega) (by omega), h.s.fr a1 b1 (fun i k hi x => by omega) (fun i k hi x => by omega) (fun r i hr hi x => by omega) (fun i k hi hk x => by omega), h.q, h.d, ⟨?_, ?_, by omega, ?_, ?_, hnh, ?_, ?_, hz, ?_, ?_, ?_, ?_⟩, fun i hi => ?_, h.b.fr a1 b1 hz (fun j k hj x => by have := d6 nr j (by omega) (by omega); omega) (fun k x => by omega) (fun j k hj x => by have := d6 nr j (by omega) (by omega); omega) (fun j k hj hk x => by omega), h.t.fr a1 b1 (by omega) (by omega) (fun k x => by omega) (fun k x => by omega) (by omega) (by omega) (fun k x => by omega) (fun k x => by omega)⟩
        · rw [sI_uI, if_pos ⟨rfl, rfl, rfl⟩]
        · rw [sI_uI, if_pos ⟨rfl, rfl, rfl⟩]
        · rw [a1.1 1 0 5 (by omega)]; exact g3
        · rw [b1.1 6 0 11 (by omega)]; exact g4
        · rw [a1.1 2 78 2 (by omega)]; exact pz
        · rw [b1.1 6 0 7 (by omega)]; exact mz
        · rw [a1.1 2 78 0 (by omega), b1.1 6 0 5 (by omega)]; exact g5
        · rw [a1.1 2 78 1 (by omega), b1.1 6 0 6 (by omega)]; exact g6
        · rw [a1.1 2 78 0 (by omega), a1.1 2 78 1 (by omega), a1.1 2 78 2 (by omega)]; exact ok
        · rw [a1.1 2 78 0 (by omega)]; exact hne
        · by_cases y : i = nr
          · subst y
            refine ⟨?_, ?_, fun k hk => ?_⟩
            · rw [sI_uI, if_neg (by simp), sI_uI, if_pos ⟨rfl, rfl, rfl⟩, sI_uI, if_neg (by simp), sI_uI, if_pos ⟨rfl, rfl, rfl⟩]
            · rw [sI_uI, if_neg (by simp), sI_uI, if_pos ⟨rfl, rfl, rfl⟩]; exact ⟨by decide, by decide⟩
            · rw [sJ_uI, sJ_uI, sJ_uI, sJ_uI, sJ_rko_in (by omega), sJ_rwk_s, if_pos hk]
              exact e4 k hk
          · obtain ⟨w1, w2, w3⟩ := h.w i (by omega)
            rw [a1.1 8 0 i (by omega), b1.1 8 3 i (by omega)]
            refine ⟨w1, w2, fun k hk => ?_⟩
            rw [a1.2 9 (wr i) k (fun x => y (d4 i nr (by omega) (by omega) x.2)), b1.2 9 1 (12 * i + k) (by omega)]
            exact w3 k hk
      · rw [if_neg c3] at p1 p2
        exact ⟨p1.1.trans p2.1.symm, RR.same h p1.2 p2.2⟩
  · rw [if_neg c1] at p1 p2
    exact ⟨p1.1.trans p2.1.symm, RR.same h p1.2 p2.2⟩
/-- the spare counts for nothing -/
theorem REL.sp1 (h : REL S T n nr nh z tl pl wr br sp) (x0 x1 x2 : Int32) (g o : Nat → Int64) (k0 : Nat) : REL (rwk (fm S sp x0 x1 x2) sp g o k0) T n nr nh z tl pl wr br sp := by
  obtain ⟨d1, d2, d3, d4, d5, d6, d7, d8⟩ := h.d
  have hn := h.nm.2.2
  have hz := h.p.z12
  have hnr := h.p.2.2.1
  have hnh := h.p.2.2.2.2.2.1
  have a1 : ag S (rwk (fm S sp x0 x1 x2) sp g o k0) (fun c r _ => c = 2 ∧ r = sp) (fun c r _ => c = 9 ∧ r = sp) := ⟨fun c r k q => by rw [sI_rwk, sI_fm_r q], fun c r k q => by rw [sJ_rwk_o q, sJ_fm]⟩
  have b1 := ag.rf T
  exact ⟨h.lk, h.lm, h.nm.fr a1 b1 (by omega) (fun x => x.elim), h.s.fr a1 b1 (fun i k hi x => by omega) (fun i k hi x => by omega) (fun _ _ _ _ x => x.elim) (fun _ _ _ _ x => x.elim), h.q, h.d, h.p.fr a1 b1 (by omega) (by omega) (fun k x => by omega) (fun _ _ _ x => x.elim), h.w.fr a1 b1 hz (fun i hi x => by omega) (fun i k hi x => d7 i (by omega) x.2) (fun _ _ x => x.elim) (fun _ _ _ _ x => x.elim), h.b.fr a1 b1 hz (fun j k hj x => d8 j (by omega) x.2) (fun k x => by omega) (fun j k hj x => d8 j (by omega) x.2) (fun _ _ _ _ x => x.elim), h.t.fr a1 b1 (by omega) (by omega) (fun k x => by omega) (fun k x => by omega) (fun x => x.elim) (fun x => x.elim) (fun _ x => x.elim) (fun _ x => x.elim)⟩
theorem REL.wt (h : REL S T n nr nh z tl pl wr br sp) {i a : Nat} (hi : i < nr) {x0 x1 x2 : Int32} {o : Nat → Int64} (hlv : ∀ k, k < z → sJ T 9 0 (12 * a + k) = sJ S 9 a k) : REL (trd (rwk (fm S sp x0 x1 x2) sp (sJ S 9 a) o z) i (wr i) sp) (rko T 1 (12 * i) (fun k => sJ T 9 0 (12 * a + k)) (sJ T 9 1) 12) n nr nh z tl pl (va_up wr i sp) br (wr i) := by
  obtain ⟨d1, d2, d3, d4, d5, d6, d7, d8⟩ := h.d
  have hn := h.nm.2.2
  have hz := h.p.z12
  have hnr := h.p.2.2.1
  have hnh := h.p.2.2.2.2.2.1
  have hP := (h.sp1 x0 x1 x2 (sJ S 9 a) o z).plX.trade (i := i) (x := wr i) (y := sp) (by omega)
  have a1 : ag S (trd (rwk (fm S sp x0 x1 x2) sp (sJ S 9 a) o z) i (wr i) sp) (fun c r _ => c = 2 ∧ r = sp) (fun c r _ => c = 9 ∧ r = sp) := ⟨fun c r k q => by show sI (rwk (fm S sp x0 x1 x2) sp (sJ S 9 a) o z) c r k = _; rw [sI_rwk, sI_fm_r q], fun c r k q => by show sJ (rwk (fm S sp x0 x1 x2) sp (sJ S 9 a) o z) c r k = _; rw [sJ_rwk_o q, sJ_fm]⟩
  have b1 : ag T (rko T 1 (12 * i) (fun k => sJ T 9 0 (12 * a + k)) (sJ T 9 1) 12) (fun _ _ _ => False) (fun c r k => c = 9 ∧ r = 1 ∧ 12 * i ≤ k ∧ k < 12 * i + 12) :=
    ⟨fun c r k _ => by rw [sI_rko], fun c r k q => by
      by_cases y : c = 9 ∧ r = 1
      · obtain ⟨rfl, rfl⟩ := y
        rw [sJ_rko_out (by omega)]
      · rw [sJ_rko_n y]⟩
  have u1 : ∀ j, va_up wr i sp j = if j = i then sp else wr j := fun j => rfl
  refine ⟨hP.lk, h.lm, h.nm.fr a1 b1 (by omega) (fun x => x.elim), h.s.fr a1 b1 (fun i k hi x => by omega) (fun i k hi x => by omega) (fun _ _ _ _ x => x.elim) (fun _ _ _ _ x => by omega), ⟨fun j hj => hP.w hj, fun j hj => ?_, ?_⟩, ⟨fun j hj => ?_, d2, d1 i (by omega), fun j j' hj hj' e => ?_, d5, fun j j' hj hj' => ?_, fun j hj => ?_, fun j hj e => d6 i j (by omega) hj e.symm⟩, h.p.fr a1 b1 (by omega) (by omega) (fun k x => by omega) (fun _ _ _ x => x.elim), fun j hj => ?_, h.b.fr a1 b1 hz (fun j k hj x => d8 j (by omega) x.2) (fun k x => by omega) (fun j k hj x => d8 j (by omega) x.2) (fun _ _ _ _ x => by omega), h.t.fr a1 b1 (by omega) (by omega) (fun k x => by omega) (fun k x => by omega) (fun x => x.elim) (fun x => x.elim) (fun _ x => x.elim) (fun _ x => x.elim)⟩
  · show sQ (uQ (uQ _ 10 1 i (some sp)) 1 0 6 (some (wr i))) 10 2 j = _
    rw [sQ_uQ, if_neg (by simp), sQ_uQ, if_neg (by simp)]
    exact h.q.2.1 j hj
  · show sQ (uQ (uQ _ 10 1 i (some sp)) 1 0 6 (some (wr i))) 1 0 6 = _
    rw [sQ_uQ, if_pos ⟨rfl, rfl, rfl⟩]
  · rw [u1]
    split
    · exact d3
    · exact d1 j hj
  · rw [u1, u1] at e
    by_cases y : j = i
    · rw [if_pos y] at e
      by_cases y' : j' = i
      · omega
      · rw [if_neg y'] at e; exact absurd e.symm (d7 j' hj')
    · rw [if_neg y] at e
      by_cases y' : j' = i
      · rw [if_pos y'] at e; exact absurd e (d7 j hj)
      · rw [if_neg y'] at e; exact d4 j j' hj hj' e
  · rw [u1]
    split
    · exact fun e => d8 j' hj' e.symm
    · exact d6 j j' hj hj'
  · rw [u1]
    by_cases y : j = i
    · rw [if_pos y]; exact fun e => d7 i (by omega) e.symm
    · rw [if_neg y]; exact fun e => y (d4 j i hj (by omega) e)
  · obtain ⟨w1, w2, w3⟩ := h.w j hj
    rw [a1.1 8 0 j (by omega), b1.1 8 3 j (fun x => x.elim)]
    refine ⟨w1, w2, fun k hk => ?_⟩
    rw [u1]
    by_cases y : j = i
    · rw [if_pos y, y, sJ_rko_in (by omega)]
      show _ = sJ (rwk (fm S sp x0 x1 x2) sp (sJ S 9 a) o z) 9 sp k
      rw [sJ_rwk_s, if_pos hk]
      exact hlv k hk
    · rw [if_neg y, a1.2 9 (wr j) k (fun x => d7 j (by omega) x.2), b1.2 9 1 (12 * j + k) (by omega)]
      exact w3 k hk
theorem st_weight (h : REL S T n nr nh z tl pl wr br sp) {i a : Int32} (p1 : spWeight n nr (fun j => sI S 2 j 0) (fun j => sI S 2 j 1) (fun j => sI S 2 j 2) (sI S 2 78 0) (sI S 2 78 1) (sI S 2 78 2) (fitS (trd (rwk (fm S sp (sI S 2 (jn a) 0) (sI S 2 (jn a) 1) (sI S 2 (jn a) 2)) sp (sJ S 9 (jn a)) (sJ S 9 sp) z) (jn i) (wr (jn i)) sp) nr (va_up wr (jn i) sp) z) i a v (S2 = S ∨ eq4 (rwk (fm S sp (sI S 2 (jn a) 0) (sI S 2 (jn a) 1) (sI S 2 (jn a) 2)) sp (sJ S 9 (jn a)) (sJ S 9 sp) z) S2) (eq4 (trd (rwk (fm S sp (sI S 2 (jn a) 0) (sI S 2 (jn a) 1) (sI S 2 (jn a) 2)) sp (sJ S 9 (jn a)) (sJ S 9 sp) z) (jn i) (wr (jn i)) sp) S2)) (p2 : spWeight n nr (sI T 8 0) (sI T 8 1) (sI T 8 2) (sI T 6 0 5) (sI T 6 0 6) (sI T 6 0 7) (fitM (rko T 1 (12 * jn i) (fun k => sJ T 9 0 (12 * jn a + k)) (sJ T 9 1) 12) nr z) i a v' (eqM T T2 n) (eqM (rko T 1 (12 * jn i) (fun k => sJ T 9 0 (12 * jn a + k)) (sJ T 9 1) 12) T2 n)) : v = v' ∧ RR S2 T2 := by
  obtain ⟨g1, g2, hnr, g3, g4, hnh, pz, mz, hz, g5, g6, ok, hne⟩ := h.p
  rw [g5, g6, mz, ← pz] at p2
  have sm : ∀ {x : Prop}, (S2 = S ∨ eq4 (rwk (fm S sp (sI S 2 (jn a) 0) (sI S 2 (jn a) 1) (sI S 2 (jn a) 2)) sp (sJ S 9 (jn a)) (sJ S 9 sp) z) S2) → eqM T T2 n → RR S2 T2 := fun y u => by
    rcases y with y | y
    · rw [y]; exact (h.eX (eq4.rf S) u).rl
    · exact ((h.sp1 _ _ _ _ _ _).eX y u).rl
  unfold spWeight at p1 p2
  dsimp only at p1 p2
  by_cases c1 : inN i nr ∧ inN a n
  · obtain ⟨⟨e0, e1, e2⟩, e3, e4⟩ := h.s _ (jn_lt c1.2)
    rw [if_pos c1] at p1 p2
    rw [e0, e1, e2] at p2
    by_cases c3 : pairF (sI S 2 (jn a) 0) (sI S 2 (jn a) 1) (sI S 2 (jn a) 2) (sI S 2 78 0) (sI S 2 78 1) (sI S 2 78 2) = 0
    · rw [if_pos c3] at p1 p2
      have hp := pairF_0 c3
      have hza : jn (sI S 2 (jn a) 2) = z := by rw [hp.2.2.2.2, pz, jn_nI (by omega)]
      have k := h.wt (i := jn i) (a := jn a) (jn_lt c1.1) (x0 := sI S 2 (jn a) 0) (x1 := sI S 2 (jn a) 1) (x2 := sI S 2 (jn a) 2) (o := sJ S 9 sp) (fun k hk => e4 k (by omega))
      have hF := fitSM k
      rcases p1 with y | y <;> rcases p2 with u | u
      · exact ⟨y.2.1.trans u.2.1.symm, (k.eX y.2.2 u.2.2).rl⟩
      · exact absurd (hF.mp y.1) u.1
      · exact absurd (hF.mpr u.1) y.1
      · exact ⟨y.2.1.trans u.2.1.symm, sm (x := True) y.2.2 u.2.2⟩
    · rw [if_neg c3] at p1 p2
      exact ⟨p1.1.trans p2.1.symm, sm (x := True) p1.2 p2.2⟩
  · rw [if_neg c1] at p1 p2
    exact ⟨p1.1.trans p2.1.symm, sm (x := True) p1.2 p2.2⟩
/-- where the best ones go when one comes to place p of m -/
def sg (m p j : Nat) : Nat := if j = p then m - 1 else if p < j ∧ j < m then j - 1 else j
theorem sg_lt {m p j : Nat} (hm : m ≤ 5) (hp : p < m) (hj : j < 5) : sg m p j < 5 := by unfold sg; split; omega; split <;> omega
theorem sg_inj {m p j j' : Nat} (hm : m ≤ 5) (hp : p < m) (e : sg m p j = sg m p j') : j = j' := by
  unfold sg at e
  split at e <;> split at e <;> (try split at e) <;> (try split at e) <;> omega
theorem st_keep (h : REL S T n nr nh z tl pl wr br sp) {a : Int32} (p1 : spKeep n (fun j => sI S 2 j 0) (fun j => sI S 2 j 1) (fun j => sI S 2 j 2) (sI S 2 78 0) (sI S 2 78 1) (sI S 2 78 2) (plc (fun j => cmpG (sJ S 9 (br j)) (sJ S 9 (jn a)) z 0) nh 0) a v (S2 = S) (fun p => ∃ m, m = (if nh < 5 then nh + 1 else 5) ∧ S2 = rwk (fm (admS S br m p) (br (m - 1)) (sI S 2 (jn a) 0) (sI S 2 (jn a) 1) (sI S 2 (jn a) 2)) (br (m - 1)) (sJ S 9 (jn a)) (sJ S 9 (br (m - 1))) z)) (p2 : spKeep n (sI T 8 0) (sI T 8 1) (sI T 8 2) (sI T 6 0 5) (sI T 6 0 6) (sI T 6 0 7) (plc (fun j => cmpG (fun k => sJ T 9 2 (12 * j + k)) (fun k => sJ T 9 0 (12 * jn a + k)) z 0) nh 0) a v' (T2 = T) (fun p => ∃ m, m = (if nh < 5 then nh + 1 else 5) ∧ T2 = kpS T m p (jn a))) : v = v' ∧ RR S2 T2 := by
  obtain ⟨g1, g2, hnr, g3, g4, hnh, pz, mz, hz, g5, g6, ok, hne⟩ := h.p
  rw [g5, g6, mz, ← pz] at p2
  have hn := h.nm.2.2
  unfold spKeep at p1 p2
  dsimp only at p1 p2
  by_cases c1 : inN a n
  · obtain ⟨⟨e0, e1, e2⟩, e3, e4⟩ := h.s _ (jn_lt c1)
    rw [if_pos c1] at p1 p2
    rw [e0, e1, e2] at p2
    by_cases c3 : pairF (sI S 2 (jn a) 0) (sI S 2 (jn a) 1) (sI S 2 (jn a) 2) (sI S 2 78 0) (sI S 2 78 1) (sI S 2 78 2) = 0
    · rw [if_pos c3] at p1 p2
      have hp := pairF_0 c3
      have hza : jn (sI S 2 (jn a) 2) = z := by rw [hp.2.2.2.2, pz, jn_nI (by omega)]
      have hja := jn_lt c1
      rw [hza] at e4
      have hpl : plc (fun j => cmpG (sJ S 9 (br j)) (sJ S 9 (jn a)) z 0) nh 0 = plc (fun j => cmpG (fun k => sJ T 9 2 (12 * j + k)) (fun k => sJ T 9 0 (12 * jn a + k)) z 0) nh 0 := plc_eq nh 0 (fun j _ hj => cmpG_eq z 0 (fun k _ hk => ⟨((h.b j (by omega)).2 k (by omega)).symm, (e4 k (by omega)).symm⟩))
      rw [← hpl] at p2
      have hle := (plc_le (fun j => cmpG (sJ S 9 (br j)) (sJ S 9 (jn a)) z 0) nh 0).2
      generalize plc (fun j => cmpG (sJ S 9 (br j)) (sJ S 9 (jn a)) z 0) nh 0 = p at p1 p2 hle
      by_cases c4 : p = 5
      · rw [if_pos c4] at p1 p2
        exact ⟨p1.1.trans p2.1.symm, RR.same h p1.2 p2.2⟩
      · rw [if_neg c4] at p1 p2
        refine ⟨p1.1.trans p2.1.symm, ?_⟩
        obtain ⟨-, m, hm, q1⟩ := p1
        obtain ⟨-, m', hm', q2⟩ := p2
        have em : m' = m := hm'.trans hm.symm
        subst em
        have hm5 : m' ≤ 5 := by rw [hm]; split <;> omega
        have hmn : m' ≤ nh + 1 := by rw [hm]; split <;> omega
        have hpm : p < m' := by rw [hm]; split <;> omega
        generalize hx0 : sI S 2 (jn a) 0 = x0 at *
        generalize hx1 : sI S 2 (jn a) 1 = x1 at *
        generalize hx2 : sI S 2 (jn a) 2 = x2 at *
        subst q1
        subst q2
        obtain ⟨d1, d2, d3, d4, d5, d6, d7, d8⟩ := h.d
        have dm := d2 (m' - 1) (by omega)
        have a1 : ag S (rwk (fm (admS S br m' p) (br (m' - 1)) x0 x1 x2) (br (m' - 1)) (sJ S 9 (jn a)) (sJ S 9 (br (m' - 1))) z) (fun c r k => (c = 2 ∧ r = br (m' - 1)) ∨ (c = 1 ∧ r = 0 ∧ k = 5)) (fun c r _ => c = 9 ∧ r = br (m' - 1)) :=
          ⟨fun c r k q => by rw [sI_rwk, sI_fm_r (fun x => q (Or.inl x))]; show sI (uI S 1 0 5 (nI m')) c r k = _; rw [sI_uI, if_neg (fun x => q (Or.inr x))], fun c r k q => by rw [sJ_rwk_o q, sJ_fm]; rfl⟩
        have b1 : ag T (kpS T m' p (jn a)) (fun c r k => c = 6 ∧ r = 0 ∧ k = 11) (fun c r _ => c = 9 ∧ r = 2) :=
          ⟨fun c r k q => by show sI (uI T 6 0 11 (nI m')) c r k = _; rw [sI_uI, if_neg q], fun c r k q => by unfold kpS; rw [sJ_rko_n q, sJ_shf_n q]; rfl⟩
        have bS : ∀ j, (if j = p then some (br (m' - 1)) else if p < j ∧ j < m' then some (br (j - 1)) else some (br j)) = some (br (sg m' p j)) := fun j => by
          unfold sg
          by_cases y : j = p
          · rw [if_pos y, if_pos y]
          · rw [if_neg y, if_neg y]
            by_cases y2 : p < j ∧ j < m'
            · rw [if_pos y2, if_pos y2]
            · rw [if_neg y2, if_neg y2]
        have eQ : ∀ c r k, sQ (rwk (fm (admS S br m' p) (br (m' - 1)) x0 x1 x2) (br (m' - 1)) (sJ S 9 (jn a)) (sJ S 9 (br (m' - 1))) z) c r k = if c = 10 ∧ r = 2 then (if k = p then some (br (m' - 1)) else if p < k ∧ k < m' then some (br (k - 1)) else sQ S 10 2 k) else sQ S c r k := fun _ _ _ => rfl
        have lkq : lkX (rwk (fm (admS S br m' p) (br (m' - 1)) x0 x1 x2) (br (m' - 1)) (sJ S 9 (jn a)) (sJ S 9 (br (m' - 1))) z) := lkX_rq2 (S := uI S 1 0 5 (nI m')) h.lk (fun j => if j = p then some (br (m' - 1)) else if p < j ∧ j < m' then some (br (j - 1)) else sQ S 10 2 j)
        refine REL.rl (n := n) (nr := nr) (nh := m') (z := z) (tl := tl) (pl := pl) (wr := wr) (br := fun j => br (sg m' p j)) (sp := sp) ⟨lkq, h.lm, h.nm.fr a1 b1 (by omega) (by omega), h.s.fr a1 b1 (fun i k hi x => by omega) (fun i k hi x => by omega) (fun r i hr hi x => by omega) (fun i k hi hk x => by omega), ⟨fun i hi => ?_, fun j hj => ?_, ?_⟩, ⟨d1, fun j hj => d2 _ (sg_lt hm5 hpm hj), d3, d4, fun j j' hj hj' e => sg_inj hm5 hpm (d5 _ _ (sg_lt hm5 hpm hj) (sg_lt hm5 hpm hj') e), fun i j hi hj => d6 i _ hi (sg_lt hm5 hpm hj), d7, fun j hj => d8 _ (sg_lt hm5 hpm hj)⟩, ⟨?_, ?_, hnr, ?_, ?_, hm5, ?_, ?_, hz, ?_, ?_, ?_, ?_⟩, h.w.fr a1 b1 hz (fun i hi x => by omega) (fun i k hi x => d6 i _ (by omega) (by omega) x.2) (fun i hi x => by omega) (fun i k hi hk x => by omega), fun j hj => ?_, h.t.fr a1 b1 (by omega) (by omega) (fun k x => by omega) (fun k x => by omega) (by omega) (by omega) (fun k x => by omega) (fun k x => by omega)⟩
        · rw [eQ, if_neg (by decide)]; exact h.q.1 i hi
        · rw [eQ, if_pos ⟨rfl, rfl⟩, h.q.2.1 j hj]; exact bS j
        · rw [eQ, if_neg (by decide)]; exact h.q.2.2
        · rw [a1.1 1 0 3 (by omega)]; exact g1
        · rw [b1.1 6 0 8 (by omega)]; exact g2
        · rw [sI_rwk, sI_fm_r (by omega)]; show sI (uI S 1 0 5 (nI m')) 1 0 5 = _; rw [sI_uI, if_pos ⟨rfl, rfl, rfl⟩]
        · show sI (uI T 6 0 11 (nI m')) 6 0 11 = _; rw [sI_uI, if_pos ⟨rfl, rfl, rfl⟩]
        · rw [a1.1 2 78 2 (by omega)]; exact pz
        · rw [b1.1 6 0 7 (by omega)]; exact mz
        · rw [a1.1 2 78 0 (by omega), b1.1 6 0 5 (by omega)]; exact g5
        · rw [a1.1 2 78 1 (by omega), b1.1 6 0 6 (by omega)]; exact g6
        · rw [a1.1 2 78 0 (by omega), a1.1 2 78 1 (by omega), a1.1 2 78 2 (by omega)]; exact ok
        · rw [a1.1 2 78 0 (by omega)]; exact hne
        · dsimp only
          by_cases y : j = p
          · have es : sg m' p j = m' - 1 := if_pos y
            rw [es, a1.1 2 78 0 (by omega), a1.1 2 78 1 (by omega)]
            refine ⟨⟨?_, ?_, ?_⟩, fun k hk => ?_⟩
            · rw [sI_rwk, sI_fm0]; exact hp.2.2.1
            · rw [sI_rwk, sI_fm1]; exact hp.2.2.2.1
            · rw [sI_rwk, sI_fm2, hp.2.2.2.2]; exact pz
            · rw [sJ_rwk_s, if_pos hk, y]
              unfold kpS
              rw [sJ_rko_in (by omega)]
              exact e4 k hk
          · have es : sg m' p j = if p < j ∧ j < m' then j - 1 else j := if_neg y
            have hs1 : sg m' p j < nh ∧ sg m' p j < m' - 1 := by rw [es]; split <;> omega
            have hsb : br (sg m' p j) ≠ br (m' - 1) := fun e => by have := d5 _ _ (by omega) (by omega) e; omega
            obtain ⟨⟨b0, b1', b2⟩, b3⟩ := h.b _ hs1.1
            rw [a1.1 2 (br (sg m' p j)) 0 (by omega), a1.1 2 (br (sg m' p j)) 1 (by omega), a1.1 2 (br (sg m' p j)) 2 (by omega), a1.1 2 78 0 (by omega), a1.1 2 78 1 (by omega)]
            refine ⟨⟨b0, b1', b2⟩, fun k hk => ?_⟩
            rw [a1.2 9 (br (sg m' p j)) k (fun x => hsb x.2), ← b3 k hk]
            unfold kpS
            rw [sJ_rko_out (by omega), sJ_shf]
            by_cases y2 : p < j ∧ j < m'
            · rw [es, if_pos y2, if_pos (by omega), show 12 * j + k - 12 = 12 * (j - 1) + k by omega]; rfl
            · rw [es, if_neg y2, if_neg (by omega)]; rfl
    · rw [if_neg c3] at p1 p2
      exact ⟨p1.1.trans p2.1.symm, RR.same h p1.2 p2.2⟩
  · rw [if_neg c1] at p1 p2
    exact ⟨p1.1.trans p2.1.symm, RR.same h p1.2 p2.2⟩
end ST
