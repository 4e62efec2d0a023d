/-! More calls. -/
theorem cG_eq {t : Int32} {x y x' y' : Nat → Int64} {zz : Nat} (h : ∀ k, k < zz → x k = x' k ∧ y k = y' k) : ∀ k, k < zz → cG t x y zz k = cG t x' y' zz k := by
  have hc : cmpG x y zz 0 = cmpG x' y' zz 0 := cmpG_eq zz 0 (fun j _ hj => h j (by omega))
  intro k hk
  obtain ⟨e1, e2⟩ := h k hk
  unfold cG
  rw [hc]
  by_cases t0 : t = 0
  · rw [if_pos t0, if_pos t0]; show x k + y k = x' k + y' k; rw [e1, e2]
  · rw [if_neg t0, if_neg t0]
    by_cases t1 : t = 1
    · rw [if_pos t1, if_pos t1]; show x k - y k = x' k - y' k; rw [e1, e2]
    · rw [if_neg t1, if_neg t1]
      by_cases t2 : t = 2
      · rw [if_pos t2, if_pos t2]
        by_cases q : cmpG x' y' zz 0 < 0
        · rw [if_pos q, if_pos q]; exact e2
        · rw [if_neg q, if_neg q]; exact e1
      · rw [if_neg t2, if_neg t2]
        by_cases t3 : t = 3
        · rw [if_pos t3, if_pos t3]
          by_cases q : 0 < cmpG x' y' zz 0
          · rw [if_pos q, if_pos q]; exact e2
          · rw [if_neg q, if_neg q]; exact e1
        · rw [if_neg t3, if_neg t3]
          by_cases t4 : t = 4
          · rw [if_pos t4, if_pos t4]; show (if y k < x k then x k else y k) = if y' k < x' k then x' k else y' k; rw [e1, e2]
          · rw [if_neg t4, if_neg t4]; show (if y k < x k then y k else x k) = if y' k < x' k then y' k else x' k; rw [e1, e2]
theorem ovP_eq {t : Int32} {x y x' y' : Nat → Int64} {zz : Nat} (h : ∀ k, k < zz → x k = x' k ∧ y k = y' k) : ovP t x y zz ↔ ovP t x' y' zz := by
  have f1 : (∃ k, k < zz ∧ ¬ in64 ((x k).toInt + (y k).toInt)) ↔ (∃ k, k < zz ∧ ¬ in64 ((x' k).toInt + (y' k).toInt)) := exists_congr fun k => and_congr_right fun hk => by rw [(h k hk).1, (h k hk).2]
  have f2 : (∃ k, k < zz ∧ ¬ in64 ((x k).toInt - (y k).toInt)) ↔ (∃ k, k < zz ∧ ¬ in64 ((x' k).toInt - (y' k).toInt)) := exists_congr fun k => and_congr_right fun hk => by rw [(h k hk).1, (h k hk).2]
  unfold ovP
  rw [f1, f2]
section ST
variable {S T S2 T2 : PS} {n nr nh z tl pl : Nat} {wr br : Nat → Nat} {sp : Nat} {v v' : Int32}
theorem REL.sm (h : REL S T n nr nh z tl pl wr br sp) (p : eqN S S2 n ∧ (n = 60 → S2 = S)) (e' : eqM T T2 n) : RR S2 T2 := by
  by_cases q : n = 60
  · rw [p.2 q]; exact (h.eX (eq4.rf S) e').rl
  · exact (h.eN (by have := h.nm.2.2; omega) p.1 e').rl
theorem shOk_nI {a b c : Int32} (h : shOk a b c) : jn c ≤ 12 ∧ shOk a b (nI (jn c)) := ⟨by have := h.2.1; unfold jn; omega, by rw [← nI_jn h.2.1.1]; exact h⟩
theorem st_act (h : REL S T n nr nh z tl pl wr br sp) {t a b : Int32} (p1 : spAct n (fun j => sI S 2 j 0) (fun j => sI S 2 j 1) (fun j => sI S 2 j 2) (fun j => sJ S 9 j) t a b v (eqN S S2 n ∧ (n = 60 → S2 = S)) (fun g => nw S S2 n (sI S 2 (jn a) 0) (sI S 2 (jn a) 1) (jn (sI S 2 (jn a) 2)) g)) (p2 : spAct n (sI T 8 0) (sI T 8 1) (sI T 8 2) (fun j k => sJ T 9 0 (12 * j + k)) t a b v' (eqM T T2 n) (fun g => nwM T T2 n (sI T 8 0 (jn a)) (sI T 8 1 (jn a)) (jn (sI T 8 2 (jn a))) g)) : v = v' ∧ RR S2 T2 := by
  unfold spAct at p1 p2
  dsimp only at p1 p2
  by_cases c1 : inN a n ∧ inN b n
  · obtain ⟨⟨e0, e1, e2⟩, e3, e4⟩ := h.s _ (jn_lt c1.1)
    obtain ⟨⟨f0, f1, f2⟩, f3, f4⟩ := h.s _ (jn_lt c1.2)
    rw [if_pos c1] at p1 p2
    rw [e0, e1, e2, f0, f1, f2] at p2
    by_cases c2 : inN t 6
    · rw [if_pos c2] at p1 p2
      by_cases c3 : n = 60
      · rw [if_pos c3] at p1 p2
        exact ⟨p1.1.trans p2.1.symm, h.sm p1.2 p2.2⟩
      · rw [if_neg c3] at p1 p2
        by_cases c4 : pairF (sI S 2 (jn a) 0) (sI S 2 (jn a) 1) (sI S 2 (jn a) 2) (sI S 2 (jn b) 0) (sI S 2 (jn b) 1) (sI S 2 (jn b) 2) = 0
        · rw [if_pos c4] at p1 p2
          have hp := pairF_0 c4
          have hz2 : jn (sI S 2 (jn b) 2) = jn (sI S 2 (jn a) 2) := by rw [hp.2.2.2.2]
          have hlv : ∀ k, k < jn (sI S 2 (jn a) 2) → sJ S 9 (jn a) k = (fun k => sJ T 9 0 (12 * jn a + k)) k ∧ sJ S 9 (jn b) k = (fun k => sJ T 9 0 (12 * jn b + k)) k := fun k hk => ⟨(e4 k hk).symm, (f4 k (by rw [hz2]; exact hk)).symm⟩
          have hov := ovP_eq (t := t) hlv
          rcases p1 with y | y <;> rcases p2 with u | u
          · exact ⟨y.2.1.trans u.2.1.symm, (h.nw (by have := h.nm.2.2; omega) (shOk_nI e3).1 y.2.2 u.2.2 (cG_eq hlv) (shOk_nI e3).2).rl⟩
          · exact absurd (hov.mpr u.1) y.1
          · exact absurd (hov.mp y.1) u.1
          · exact ⟨y.2.1.trans u.2.1.symm, h.sm y.2.2 u.2.2⟩
        · rw [if_neg c4] at p1 p2
          exact ⟨p1.1.trans p2.1.symm, h.sm p1.2 p2.2⟩
    · rw [if_neg c2] at p1 p2
      exact ⟨p1.1.trans p2.1.symm, h.sm p1.2 p2.2⟩
  · rw [if_neg c1] at p1 p2
    exact ⟨p1.1.trans p2.1.symm, h.sm p1.2 p2.2⟩
theorem st_times (h : REL S T n nr nh z tl pl wr br sp) {a u d : Int32} (p1 : spTimes n (fun j => sI S 2 j 0) (fun j => sI S 2 j 2) (fun j => sJ S 9 j) a u d v (eqN S S2 n ∧ (n = 60 → S2 = S)) (fun g => nw S S2 n (sI S 2 (jn a) 0) (sI S 2 (jn a) 1) (jn (sI S 2 (jn a) 2)) g)) (p2 : spTimes n (sI T 8 0) (sI T 8 2) (fun j k => sJ T 9 0 (12 * j + k)) a u d v' (eqM T T2 n) (fun g => nwM T T2 n (sI T 8 0 (jn a)) (sI T 8 1 (jn a)) (jn (sI T 8 2 (jn a))) g)) : v = v' ∧ RR S2 T2 := by
  unfold spTimes at p1 p2
  dsimp only at p1 p2
  by_cases c1 : inN a n
  · obtain ⟨⟨e0, e1, e2⟩, e3, e4⟩ := h.s _ (jn_lt c1)
    rw [if_pos c1] at p1 p2
    rw [e0, e1, e2] at p2
    by_cases c3 : n = 60
    · rw [if_pos c3] at p1 p2
      exact ⟨p1.1.trans p2.1.symm, h.sm p1.2 p2.2⟩
    · rw [if_neg c3] at p1 p2
      by_cases c4 : sI S 2 (jn a) 0 = -1
      · rw [if_pos c4] at p1 p2
        exact ⟨p1.1.trans p2.1.symm, h.sm p1.2 p2.2⟩
      · rw [if_neg c4] at p1 p2
        by_cases c5 : d = 0
        · rw [if_pos c5] at p1 p2
          exact ⟨p1.1.trans p2.1.symm, h.sm p1.2 p2.2⟩
        · rw [if_neg c5] at p1 p2
          have hF : (∀ k, k < jn (sI S 2 (jn a) 2) → in64 (qG u d (sJ S 9 (jn a) k))) ↔ (∀ k, k < jn (sI S 2 (jn a) 2) → in64 (qG u d (sJ T 9 0 (12 * jn a + k)))) := ⟨fun y k hk => by rw [e4 k hk]; exact y k hk, fun y k hk => by rw [← e4 k hk]; exact y k hk⟩
          rcases p1 with y | y <;> rcases p2 with w | w
          · exact ⟨y.2.1.trans w.2.1.symm, (h.nw (by have := h.nm.2.2; omega) (shOk_nI e3).1 y.2.2 w.2.2 (fun k hk => by rw [e4 k hk]) (shOk_nI e3).2).rl⟩
          · exact absurd (hF.mp y.1) w.1
          · exact absurd (hF.mpr w.1) y.1
          · exact ⟨y.2.1.trans w.2.1.symm, h.sm y.2.2 w.2.2⟩
  · rw [if_neg c1] at p1 p2
    exact ⟨p1.1.trans p2.1.symm, h.sm p1.2 p2.2⟩
theorem st_order (h : REL S T n nr nh z tl pl wr br sp) {a b : Int32} (p1 : spOrder n (fun j => sI S 2 j 0) (fun j => sI S 2 j 1) (fun j => sI S 2 j 2) (fun j => sJ S 9 j) a b v (S2 = S)) (p2 : spOrder n (sI T 8 0) (sI T 8 1) (sI T 8 2) (fun j k => sJ T 9 0 (12 * j + k)) a b v' (T2 = T)) : v = v' ∧ RR S2 T2 := by
  unfold spOrder at p1 p2
  dsimp only at p1 p2
  by_cases c1 : inN a n ∧ inN b n
  · obtain ⟨⟨e0, e1, e2⟩, e3, e4⟩ := h.s _ (jn_lt c1.1)
    obtain ⟨⟨f0, f1, f2⟩, f3, f4⟩ := h.s _ (jn_lt c1.2)
    rw [if_pos c1] at p1 p2
    rw [e0, e1, e2, f0, f1, f2] at p2
    by_cases c4 : pairF (sI S 2 (jn a) 0) (sI S 2 (jn a) 1) (sI S 2 (jn a) 2) (sI S 2 (jn b) 0) (sI S 2 (jn b) 1) (sI S 2 (jn b) 2) = 0
    · rw [if_pos c4] at p1 p2
      have hp := pairF_0 c4
      have hz2 : jn (sI S 2 (jn b) 2) = jn (sI S 2 (jn a) 2) := by rw [hp.2.2.2.2]
      have hc : cmpG (sJ S 9 (jn a)) (sJ S 9 (jn b)) (jn (sI S 2 (jn a) 2)) 0 = cmpG (fun k => sJ T 9 0 (12 * jn a + k)) (fun k => sJ T 9 0 (12 * jn b + k)) (jn (sI S 2 (jn a) 2)) 0 := cmpG_eq _ 0 (fun k _ hk => ⟨(e4 k (by omega)).symm, (f4 k (by omega)).symm⟩)
      rw [hc] at p1
      exact ⟨p1.1.trans p2.1.symm, RR.same h p1.2 p2.2⟩
    · rw [if_neg c4] at p1 p2
      exact ⟨p1.1.trans p2.1.symm, RR.same h p1.2 p2.2⟩
  · rw [if_neg c1] at p1 p2
    exact ⟨p1.1.trans p2.1.symm, RR.same h p1.2 p2.2⟩
theorem st_put (h : REL S T n nr nh z tl pl wr br sp) {c2 : Int32} (p1 : spPut tl c2 v (S2 = S) (S2 = uI (uI S 7 0 tl c2) 3 0 1 (nI (tl + 1)))) (p2 : spPut tl c2 v' (T2 = T) (T2 = uI (uI T 8 4 tl c2) 6 0 13 (nI (tl + 1)))) : v = v' ∧ RR S2 T2 := by
  unfold spPut at p1 p2
  by_cases c1 : inN c2 128
  · rw [if_pos c1] at p1 p2
    by_cases c3 : tl = 300
    · rw [if_pos c3] at p1 p2
      exact ⟨p1.1.trans p2.1.symm, RR.same h p1.2 p2.2⟩
    · rw [if_neg c3] at p1 p2
      refine ⟨p1.1.trans p2.1.symm, ?_⟩
      obtain ⟨-, rfl⟩ := p1
      obtain ⟨-, rfl⟩ := p2
      have a : ag S (uI (uI S 7 0 tl c2) 3 0 1 (nI (tl + 1))) (fun c r k => (c = 3 ∧ r = 0 ∧ k = 1) ∨ (c = 7 ∧ r = 0 ∧ k = tl)) (fun _ _ _ => False) := ⟨fun c r k q => by rw [sI_uI, if_neg (fun x => q (Or.inl x)), sI_uI, if_neg (fun x => q (Or.inr x))], fun _ _ _ _ => rfl⟩
      have b : ag T (uI (uI T 8 4 tl c2) 6 0 13 (nI (tl + 1))) (fun c r k => (c = 6 ∧ r = 0 ∧ k = 13) ∨ (c = 8 ∧ r = 4 ∧ k = tl)) (fun _ _ _ => False) := ⟨fun c r k q => by rw [sI_uI, if_neg (fun x => q (Or.inl x)), sI_uI, if_neg (fun x => q (Or.inr x))], fun _ _ _ _ => rfl⟩
      have hz := h.p.z12
      obtain ⟨⟨t1, t2, t3⟩, t4, ⟨t5, t6, t7⟩, t8⟩ := h.t
      refine REL.rl (n := n) (nr := nr) (nh := nh) (z := z) (tl := tl + 1) (pl := pl) (wr := wr) (br := br) (sp := sp) ⟨h.lk, h.lm, h.nm.fr a b (by omega) (by omega), h.s.fr a b (fun i k hi x => by omega) (fun _ _ _ x => x.elim) (fun r i hr hi x => by omega) (fun _ _ _ _ x => x.elim), h.q, h.d, h.p.fr a b (by omega) (by omega) (fun k x => by omega) (fun k k1 k2 x => by omega), h.w.fr a b hz (fun i hi x => by omega) (fun _ _ _ x => x.elim) (fun i hi x => by omega) (fun _ _ _ _ x => x.elim), h.b.fr a b hz (fun j k hj x => by omega) (fun k x => by omega) (fun _ _ _ x => x.elim) (fun _ _ _ _ x => x.elim), ⟨?_, ?_, by omega⟩, fun k hk => ?_, ⟨?_, ?_, t7⟩, fun k hk => ?_⟩
      · rw [sI_uI, if_pos ⟨rfl, rfl, rfl⟩]
      · rw [sI_uI, if_pos ⟨rfl, rfl, rfl⟩]
      · have eT : sI (uI (uI T 8 4 tl c2) 6 0 13 (nI (tl + 1))) 8 4 k = sI (uI T 8 4 tl c2) 8 4 k := by rw [sI_uI, if_neg (by simp)]
        have eS : sI (uI (uI S 7 0 tl c2) 3 0 1 (nI (tl + 1))) 7 0 k = sI (uI S 7 0 tl c2) 7 0 k := by rw [sI_uI, if_neg (by simp)]
        rw [eT, eS, sI_uI, sI_uI]
        by_cases q : k = tl
        · rw [if_pos ⟨rfl, rfl, q⟩, if_pos ⟨rfl, rfl, q⟩]
        · rw [if_neg (fun x => q x.2.2), if_neg (fun x => q x.2.2)]
          exact t4 k (by omega)
      · rw [a.1 0 0 1 (by omega)]; exact t5
      · rw [b.1 6 0 15 (by omega)]; exact t6
      · rw [a.1 7 1 k (by omega), b.1 8 5 k (by omega)]; exact t8 k hk
  · rw [if_neg c1] at p1 p2
    exact ⟨p1.1.trans p2.1.symm, RR.same h p1.2 p2.2⟩
theorem st_out (h : REL S T n nr nh z tl pl wr br sp) {i : Int32} (p1 : spOut pl (sI S 7 1) i v (S2 = S)) (p2 : spOut pl (sI T 8 5) i v' (T2 = T)) : v = v' ∧ RR S2 T2 := by
  unfold spOut at p1 p2
  refine ⟨?_, RR.same h p1.2 p2.2⟩
  by_cases c1 : inN i pl
  · rw [if_pos c1] at p1 p2
    exact p1.1.trans ((h.t.2.2.2 (jn i) (jn_lt c1)).symm.trans p2.1.symm)
  · rw [if_neg c1] at p1 p2
    exact p1.1.trans p2.1.symm
theorem st_many (h : REL S T n nr nh z tl pl wr br sp) {i : Int32} (p1 : spMany n nr nh tl pl i v (S2 = S)) (p2 : spMany n nr nh tl pl i v' (T2 = T)) : v = v' ∧ RR S2 T2 := by
  unfold spMany at p1 p2
  refine ⟨?_, RR.same h p1.2 p2.2⟩
  by_cases c0 : i = 0
  · rw [if_pos c0] at p1 p2; exact p1.1.trans p2.1.symm
  · rw [if_neg c0] at p1 p2
    by_cases c1 : i = 1
    · rw [if_pos c1] at p1 p2; exact p1.1.trans p2.1.symm
    · rw [if_neg c1] at p1 p2
      by_cases c2 : i = 2
      · rw [if_pos c2] at p1 p2; exact p1.1.trans p2.1.symm
      · rw [if_neg c2] at p1 p2
        by_cases c3 : i = 3
        · rw [if_pos c3] at p1 p2; exact p1.1.trans p2.1.symm
        · rw [if_neg c3] at p1 p2
          by_cases c4 : i = 4
          · rw [if_pos c4] at p1 p2; exact p1.1.trans p2.1.symm
          · rw [if_neg c4] at p1 p2; exact p1.1.trans p2.1.symm
theorem st_drop (h : REL S T n nr nh z tl pl wr br sp) (p1 : spDrop n v (S2 = S) (S2 = uI S 5 0 1 (nI (n - 1)))) (p2 : spDrop n v' (T2 = T) (T2 = uI T 6 0 0 (nI (n - 1)))) : v = v' ∧ RR S2 T2 := by
  unfold spDrop at p1 p2
  by_cases c1 : n = 0
  · rw [if_pos c1] at p1 p2
    exact ⟨p1.1.trans p2.1.symm, RR.same h p1.2 p2.2⟩
  · rw [if_neg c1] at p1 p2
    refine ⟨p1.1.trans p2.1.symm, ?_⟩
    obtain ⟨-, rfl⟩ := p1
    obtain ⟨-, rfl⟩ := p2
    have a : ag S (uI S 5 0 1 (nI (n - 1))) (fun c r k => c = 5 ∧ r = 0 ∧ k = 1) (fun _ _ _ => False) := ⟨fun c r k q => by rw [sI_uI, if_neg q], fun _ _ _ _ => rfl⟩
    have b : ag T (uI T 6 0 0 (nI (n - 1))) (fun c r k => c = 6 ∧ r = 0 ∧ k = 0) (fun _ _ _ => False) := ⟨fun c r k q => by rw [sI_uI, if_neg q], fun _ _ _ _ => rfl⟩
    have hz := h.p.z12
    have hn := h.nm.2.2
    refine REL.rl (n := n - 1) (nr := nr) (nh := nh) (z := z) (tl := tl) (pl := pl) (wr := wr) (br := br) (sp := sp) ⟨h.lk, h.lm, ⟨?_, ?_, by omega⟩, rS.fr (fun i hi => h.s i (by omega)) a b (fun i k hi x => by omega) (fun _ _ _ x => x.elim) (fun r i hr hi x => by omega) (fun _ _ _ _ x => x.elim), h.q, h.d, h.p.fr a b (by omega) (by omega) (fun k x => by omega) (fun k k1 k2 x => by omega), h.w.fr a b hz (fun i hi x => by omega) (fun _ _ _ x => x.elim) (fun i hi x => by omega) (fun _ _ _ _ x => x.elim), h.b.fr a b hz (fun j k hj x => by omega) (fun k x => by omega) (fun _ _ _ x => x.elim) (fun _ _ _ _ x => x.elim), h.t.fr a b (by omega) (by omega) (fun k x => by omega) (fun k x => by omega) (by omega) (by omega) (fun k x => by omega) (fun k x => by omega)⟩
    · rw [sI_uI, if_pos ⟨rfl, rfl, rfl⟩]
    · rw [sI_uI, if_pos ⟨rfl, rfl, rfl⟩]
end ST
