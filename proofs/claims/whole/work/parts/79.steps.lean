/-! Reading and printing; the plan. -/
theorem rdM_ok {h : Nat → Int32} {tl : Nat} (q : (rdM h tl).1.2 = false) : (rdM h tl).2.2.2.length ≤ 12 ∧ shOk (rdM h tl).2.1 (nI (rdM h tl).2.2.1) (nI (rdM h tl).2.2.2.length) := by
  refine ⟨(rdM_len h tl).1, ?_⟩
  by_cases b : h 0 = 91
  · rw [rdM_b b]
    have h1 : (r1M h tl (0, false)).2.length ≤ 6 := rwM_len _
    have h2 : (r2M h tl (0, false)).2.length ≤ 6 := rwM_len _
    show shOk 3 (nI (r1M h tl (0, false)).2.length) (nI ((r1M h tl (0, false)).2 ++ (r2M h tl (0, false)).2).length)
    rw [List.length_append]
    generalize (r1M h tl (0, false)).2.length = x1 at *
    generalize (r2M h tl (0, false)).2.length = x2 at *
    unfold shOk
    rw [jn_nI (by omega), jn_nI (by omega), nI_toInt (by omega), nI_toInt (by omega)]
    exact ⟨⟨by omega, by omega⟩, ⟨by omega, by omega⟩, by omega, fun _ => ⟨by omega, by omega⟩, fun _ => by decide, fun _ y => absurd rfl y⟩
  · rw [rdM_p b]
    show shOk (pnM h tl (0, false)).2.1 (nI (if (pnM h tl (0, false)).2.1 = 0 then 0 else 1)) (nI (pnM h tl (0, false)).2.2.length)
    unfold pnM
    split
    · split
      · show shOk (nI 2) (nI (if nI 2 = 0 then 0 else 1)) (nI 3)
        rw [if_neg (by decide)]
        unfold shOk jn
        exact ⟨by decide, by decide, by decide, fun x => absurd x (by decide), fun _ => by decide, fun _ _ => by decide⟩
      · show shOk (nI 1) (nI (if nI 1 = 0 then 0 else 1)) (nI 2)
        rw [if_neg (by decide)]
        unfold shOk jn
        exact ⟨by decide, by decide, by decide, fun x => absurd x (by decide), fun _ => by decide, fun _ _ => by decide⟩
    · show shOk (nI 0) (nI (if nI 0 = 0 then 0 else 1)) (nI 1)
      rw [if_pos (by decide)]
      unfold shOk jn
      exact ⟨by decide, by decide, by decide, fun x => absurd x (by decide), fun _ => by decide, fun _ _ => by decide⟩
theorem prT_eq {sh : Int32} {hd sz : Nat} {f g : Nat → Int64} (h3 : sh = 3 → hd ≤ sz) (h0 : ¬ sh = 3 → sz = jn sh + 1) (hp : 0 ≤ sh.toInt) (h : ∀ k, k < sz → f k = g k) : prT sh hd sz f = prT sh hd sz g := by
  unfold prT
  by_cases q : sh = 3
  · rw [if_pos q, if_pos q, lsT_congr (a := 0) hd (fun k hk => h _ (by have := h3 q; omega)), lsT_congr (a := hd) (sz - hd) (fun k hk => h _ (by have := h3 q; omega))]
  · rw [if_neg q, if_neg q]
    have e := h0 q
    by_cases q0 : sh = 0
    · rw [if_pos q0, if_pos q0, h 0 (by omega)]
    · have n0 : sh.toInt ≠ 0 := fun y => q0 (Int32.toInt_inj.mp y)
      have j1 : 1 ≤ jn sh := by unfold jn; omega
      rw [if_neg q0, if_neg q0]
      by_cases q2 : sh = 2
      · have j2 : jn sh = 2 := by rw [q2]; decide
        rw [if_pos q2, if_pos q2, h 0 (by omega), h 1 (by omega), h 2 (by omega)]
      · rw [if_neg q2, if_neg q2, h 0 (by omega), h 1 (by omega)]
theorem prT_len {sh : Int32} {hd sz : Nat} {f : Nat → Int64} (h3 : sh = 3 → hd ≤ 6 ∧ sz - hd ≤ 6) : (prT sh hd sz f).length ≤ 263 := by
  unfold prT
  have l0 : (sTx 0).length = 5 := sTx_len 0 (by decide)
  have l1 : (sTx 1).length = 7 := sTx_len 1 (by decide)
  have l2 : (sTx 2).length = 4 := sTx_len 2 (by decide)
  have l3 : (sTx 3).length = 1 := sTx_len 3 (by decide)
  have l4 : (sTx 4).length = 7 := sTx_len 4 (by decide)
  have l5 : (sTx 5).length = 5 := sTx_len 5 (by decide)
  have n0 := numT_le (f 0)
  have n1 := numT_le (f 1)
  have n2 := numT_le (f 2)
  by_cases q : sh = 3
  · rw [if_pos q]
    have := h3 q
    have a1 := lsT_le f 0 hd
    have a2 := lsT_le f hd (sz - hd)
    simp only [List.length_append]
    omega
  · rw [if_neg q]
    by_cases q0 : sh = 0
    · rw [if_pos q0]; omega
    · rw [if_neg q0]
      by_cases q2 : sh = 2
      · rw [if_pos q2]; simp only [List.length_append]; omega
      · rw [if_neg q2]; simp only [List.length_append]; omega
section ST
variable {S T S2 T2 : PS} {n nr nh z tl pl : Nat} {wr br : Nat → Nat} {sp : Nat} {v v' : Int32}
/-- the tape empty -/
theorem REL.t0 (h : REL S T n nr nh z tl pl wr br sp) (x : Int32) : REL (uI (uI S 3 0 1 0) 3 0 2 x) (uI T 6 0 13 0) n nr nh z 0 pl wr br sp := by
  have a : ag S (uI (uI S 3 0 1 0) 3 0 2 x) (fun c r k => (c = 3 ∧ r = 0 ∧ k = 2) ∨ (c = 3 ∧ r = 0 ∧ k = 1)) (fun _ _ _ => False) := ⟨fun c r k q => by rw [sI_uI, if_neg (fun x => q (Or.inl x)), sI_uI, if_neg (fun x => q (Or.inr x))], fun _ _ _ _ => rfl⟩
  have b : ag T (uI T 6 0 13 0) (fun c r k => c = 6 ∧ r = 0 ∧ k = 13) (fun _ _ _ => False) := ⟨fun c r k q => by rw [sI_uI, if_neg q], fun _ _ _ _ => rfl⟩
  have hz := h.p.z12
  obtain ⟨⟨t1, t2, t3⟩, t4, ⟨t5, t6, t7⟩, t8⟩ := h.t
  refine ⟨h.lk, h.lm, h.nm.fr a b (by omega) (by omega), h.s.fr a b (fun i k hi x => by omega) (fun _ _ _ x => x.elim) (fun r i hr hi x => by omega) (fun _ _ _ _ x => x.elim), h.q, h.d, h.p.fr a b (by omega) (by omega) (fun k x => by omega) (fun k k1 k2 x => by omega), h.w.fr a b hz (fun i hi x => by omega) (fun _ _ _ x => x.elim) (fun i hi x => by omega) (fun _ _ _ _ x => x.elim), h.b.fr a b hz (fun j k hj x => by omega) (fun k x => by omega) (fun _ _ _ x => x.elim) (fun _ _ _ _ x => x.elim), ⟨?_, ?_, by omega⟩, fun k hk => absurd hk (Nat.not_lt_zero k), ⟨?_, ?_, t7⟩, fun k hk => ?_⟩
  · rw [sI_uI, if_neg (by simp), sI_uI, if_pos ⟨rfl, rfl, rfl⟩]; rfl
  · rw [sI_uI, if_pos ⟨rfl, rfl, rfl⟩]; rfl
  · rw [a.1 0 0 1 (by omega)]; exact t5
  · rw [b.1 6 0 15 (by omega)]; exact t6
  · rw [a.1 7 1 k (by omega), b.1 8 5 k (by omega)]; exact t8 k hk
theorem hr_same (h : REL S T n nr nh z tl pl wr br sp) : hr (sI T 8 4) tl = hr (sI S 7 0) tl := by
  funext p
  unfold hr
  by_cases q : p < tl
  · rw [if_pos q, if_pos q]; exact h.t.2.1 p q
  · rw [if_neg q, if_neg q]
theorem st_read (h : REL S T n nr nh z tl pl wr br sp) (p1 : spRead n ((rdC (hr (sI S 7 0) tl) tl).2.1 = true ∧ (rdC (hr (sI S 7 0) tl) tl).1 = tl) (rdC (hr (sI S 7 0) tl) tl).1 v (S2 = uI S 3 0 1 0) (∃ x, nw (uI (uI S 3 0 1 0) 3 0 2 x) S2 n (rdC (hr (sI S 7 0) tl) tl).2.2.1 (nI (rdC (hr (sI S 7 0) tl) tl).2.2.2.1) (rdC (hr (sI S 7 0) tl) tl).2.2.2.2.length (fun k => (rdC (hr (sI S 7 0) tl) tl).2.2.2.2.getD k 0)) (∃ x, eqN (uI (uI S 3 0 1 0) 3 0 2 x) S2 n)) (p2 : spRead n ((rdM (hr (sI T 8 4) tl) tl).1.2 = false ∧ (rdM (hr (sI T 8 4) tl) tl).1.1 = tl) (rdM (hr (sI T 8 4) tl) tl).1.1 v' (T2 = uI T 6 0 13 0) (nwM (uI T 6 0 13 0) T2 n (rdM (hr (sI T 8 4) tl) tl).2.1 (nI (rdM (hr (sI T 8 4) tl) tl).2.2.1) (rdM (hr (sI T 8 4) tl) tl).2.2.2.length (fun k => (rdM (hr (sI T 8 4) tl) tl).2.2.2.getD k 0)) (eqM (uI T 6 0 13 0) T2 n)) : v = v' ∧ RR S2 T2 := by
  rw [hr_same h] at p2
  have hn := h.nm.2.2
  have k1 := rd_ok (sI S 7 0) tl
  unfold spRead at p1 p2
  by_cases c1 : n = 60
  · rw [if_pos c1] at p1 p2
    refine ⟨p1.1.trans p2.1.symm, ?_⟩
    have e := h.t0 (sI S 3 0 2)
    rw [uI_self (uI S 3 0 1 0) 3 0 2 (by rw [sI_uI, if_neg (by simp)])] at e
    rw [p1.2, p2.2]
    exact e.rl
  · rw [if_neg c1] at p1 p2
    rcases p1 with ⟨y1, y2, x, y3⟩ | ⟨y1, y2, x, y3⟩ <;> rcases p2 with ⟨u1, u2, u3⟩ | ⟨u1, u2, u3⟩
    · have hl := rdC_len (sI S 7 0) tl y1
      have ok := rdM_ok u1.1
      rw [hl] at y3
      exact ⟨y2.trans u2.symm, ((h.t0 x).nw (by omega) ok.1 y3 u3 (fun _ _ => rfl) ok.2).rl⟩
    · exact absurd (k1.1.mp y1) u1
    · exact absurd (k1.1.mpr u1) y1
    · rw [k1.2] at y2
      exact ⟨y2.trans u2.symm, ((h.t0 x).eN (by omega) y3 u3).rl⟩
theorem st_print (h : REL S T n nr nh z tl pl wr br sp) {a : Int32} (p1 : spPrint n (fun j => sI S 2 j 0) (fun j => prT (sI S 2 j 0) (jn (sI S 2 j 1)) (jn (sI S 2 j 2)) (sJ S 9 j)) a v (S2 = S) (fun t => wrP 0 1 7 1 S S2 0 t)) (p2 : spPrint n (sI T 8 0) (fun j => prT (sI T 8 0 j) (jn (sI T 8 1 j)) (jn (sI T 8 2 j)) (fun k => sJ T 9 0 (12 * j + k))) a v' (T2 = T) (fun t => wrP 6 15 8 5 T T2 0 t)) : v = v' ∧ RR S2 T2 := by
  unfold spPrint at p1 p2
  dsimp only at p1 p2
  by_cases c1 : inN a n
  · obtain ⟨⟨e0, e1, e2⟩, e3, e4⟩ := h.s _ (jn_lt c1)
    rw [if_pos c1] at p1 p2
    rw [e0, e1, e2] at p2
    by_cases c2 : sI S 2 (jn a) 0 = -1
    · rw [if_pos c2] at p1 p2
      exact ⟨p1.1.trans p2.1.symm, RR.same h p1.2 p2.2⟩
    · rw [if_neg c2] at p1 p2
      have et := prT_eq (f := sJ S 9 (jn a)) (g := fun k => sJ T 9 0 (12 * jn a + k)) (hd := jn (sI S 2 (jn a) 1)) (fun _ => e3.2.2.1) (fun q => e3.2.2.2.2.2 c2 q) (e3.2.2.2.2.1 c2) (fun k hk => (e4 k hk).symm)
      have hlen := prT_len (f := sJ S 9 (jn a)) (sz := jn (sI S 2 (jn a) 2)) e3.2.2.2.1
      rw [← et] at p2
      generalize prT (sI S 2 (jn a) 0) (jn (sI S 2 (jn a) 1)) (jn (sI S 2 (jn a) 2)) (sJ S 9 (jn a)) = t at p1 p2 hlen
      refine ⟨p1.1.trans p2.1.symm, ?_⟩
      obtain ⟨q1, q2, q3, q4, q5⟩ := p1.2
      obtain ⟨w1, w2, w3, w4, w5⟩ := p2.2
      have a1 : ag S S2 (fun c r k => (c = 0 ∧ r = 0 ∧ k = 1) ∨ (c = 7 ∧ r = 2) ∨ (c = 7 ∧ r = 1)) (fun _ _ _ => False) := ⟨fun c r k q => q5 c r k (fun x => q (Or.inl x)) (fun x => q (Or.inr (Or.inl x))) (fun x => q (Or.inr (Or.inr ⟨x.1, x.2.1⟩))), fun c r k _ => by rw [q2]⟩
      have b1 : ag T T2 (fun c r k => (c = 6 ∧ r = 0 ∧ k = 15) ∨ (c = 7 ∧ r = 2) ∨ (c = 8 ∧ r = 5)) (fun _ _ _ => False) := ⟨fun c r k q => w5 c r k (fun x => q (Or.inl x)) (fun x => q (Or.inr (Or.inl x))) (fun x => q (Or.inr (Or.inr ⟨x.1, x.2.1⟩))), fun c r k _ => by rw [w2]⟩
      have hz := h.p.z12
      obtain ⟨⟨t1, t2, t3⟩, t4, ⟨t5, t6, t7⟩, t8⟩ := h.t
      refine REL.rl (n := n) (nr := nr) (nh := nh) (z := z) (tl := tl) (pl := t.length) (wr := wr) (br := br) (sp := sp) ⟨lkX_of h.lk q1, lkM_of h.lm w1, h.nm.fr a1 b1 (by omega) (by omega), h.s.fr a1 b1 (fun i k hi x => by omega) (fun _ _ _ x => x.elim) (fun r i hr hi x => by omega) (fun _ _ _ _ x => x.elim), by unfold rQ; rw [q1]; exact h.q, h.d, h.p.fr a1 b1 (by omega) (by omega) (fun k x => by omega) (fun k k1 k2 x => by omega), h.w.fr a1 b1 hz (fun i hi x => by omega) (fun _ _ _ x => x.elim) (fun i hi x => by omega) (fun _ _ _ _ x => x.elim), h.b.fr a1 b1 hz (fun j k hj x => by omega) (fun k x => by omega) (fun _ _ _ x => x.elim) (fun _ _ _ _ x => x.elim), ⟨?_, ?_, t3⟩, fun k hk => ?_, ⟨?_, ?_, hlen⟩, fun k hk => ?_⟩
      · rw [a1.1 3 0 1 (by omega)]; exact t1
      · rw [b1.1 6 0 13 (by omega)]; exact t2
      · rw [a1.1 7 0 k (by omega), b1.1 8 4 k (by omega)]; exact t4 k hk
      · rw [q3, Nat.zero_add]
      · rw [w3, Nat.zero_add]
      · have x1 := q4 k hk
        have x2 := w4 k hk
        rw [Nat.zero_add] at x1 x2
        rw [x1, x2]
  · rw [if_neg c1] at p1 p2
    exact ⟨p1.1.trans p2.1.symm, RR.same h p1.2 p2.2⟩
theorem st_plan (h : REL S T n nr nh z tl pl wr br sp) {a : Int32} (p1 : spPlan n nr (fun j => sI S 2 j 0) a v (S2 = S) (S2 = uI (uI (fm S 78 (sI S 2 (jn a) 0) (sI S 2 (jn a) 1) (sI S 2 (jn a) 2)) 1 0 3 0) 1 0 5 0)) (p2 : spPlan n nr (sI T 8 0) a v' (T2 = T) (T2 = uI (uI (uI (uI (uI T 6 0 5 (sI T 8 0 (jn a))) 6 0 6 (sI T 8 1 (jn a))) 6 0 7 (sI T 8 2 (jn a))) 6 0 8 0) 6 0 11 0)) : v = v' ∧ RR S2 T2 := by
  unfold spPlan at p1 p2
  dsimp only at p1 p2
  by_cases c1 : inN a n
  · obtain ⟨⟨e0, e1, e2⟩, e3, e4⟩ := h.s _ (jn_lt c1)
    rw [if_pos c1] at p1 p2
    rw [e0, e1, e2] at p2
    by_cases c2 : sI S 2 (jn a) 0 = -1
    · rw [if_pos c2] at p1 p2
      exact ⟨p1.1.trans p2.1.symm, RR.same h p1.2 p2.2⟩
    · rw [if_neg c2] at p1 p2
      refine ⟨p1.1.trans p2.1.symm, ?_⟩
      generalize sI S 2 (jn a) 0 = x0 at *
      generalize sI S 2 (jn a) 1 = x1 at *
      generalize sI S 2 (jn a) 2 = x2 at *
      obtain ⟨-, rfl⟩ := p1
      obtain ⟨-, rfl⟩ := p2
      have a1 : ag S (uI (uI (fm S 78 x0 x1 x2) 1 0 3 0) 1 0 5 0) (fun c r k => (c = 2 ∧ r = 78) ∨ (c = 1 ∧ r = 0 ∧ k = 3) ∨ (c = 1 ∧ r = 0 ∧ k = 5)) (fun _ _ _ => False) := ⟨fun c r k q => by rw [sI_uI, if_neg (fun x => q (Or.inr (Or.inr x))), sI_uI, if_neg (fun x => q (Or.inr (Or.inl x))), sI_fm_r (fun x => q (Or.inl x))], fun _ _ _ _ => rfl⟩
      have b1 : ag T (uI (uI (uI (uI (uI T 6 0 5 x0) 6 0 6 x1) 6 0 7 x2) 6 0 8 0) 6 0 11 0) (fun c r k => c = 6 ∧ r = 0 ∧ 5 ≤ k ∧ k ≤ 11) (fun _ _ _ => False) := ⟨fun c r k q => by rw [sI_uI, if_neg (by omega), sI_uI, if_neg (by omega), sI_uI, if_neg (by omega), sI_uI, if_neg (by omega), sI_uI, if_neg (by omega)], fun _ _ _ _ => rfl⟩
      have hn := h.nm.2.2
      have hok := shOk_nI e3
      have f0 : sI (uI (uI (fm S 78 x0 x1 x2) 1 0 3 0) 1 0 5 0) 2 78 0 = x0 := by rw [sI_uI, if_neg (by simp), sI_uI, if_neg (by simp)]; exact sI_fm0 _ _ _ _ _
      have f1 : sI (uI (uI (fm S 78 x0 x1 x2) 1 0 3 0) 1 0 5 0) 2 78 1 = x1 := by rw [sI_uI, if_neg (by simp), sI_uI, if_neg (by simp)]; exact sI_fm1 _ _ _ _ _
      have f2 : sI (uI (uI (fm S 78 x0 x1 x2) 1 0 3 0) 1 0 5 0) 2 78 2 = x2 := by rw [sI_uI, if_neg (by simp), sI_uI, if_neg (by simp)]; exact sI_fm2 _ _ _ _ _
      refine REL.rl (n := n) (nr := 0) (nh := 0) (z := jn x2) (tl := tl) (pl := pl) (wr := wr) (br := br) (sp := sp) ⟨h.lk, h.lm, h.nm.fr a1 b1 (by omega) (by omega), h.s.fr a1 b1 (fun i k hi x => by omega) (fun _ _ _ x => x.elim) (fun r i hr hi x => by omega) (fun _ _ _ _ x => x.elim), h.q, h.d, ⟨?_, ?_, by omega, ?_, ?_, by omega, ?_, ?_, hok.1, ?_, ?_, ?_, ?_⟩, fun i hi => absurd hi (Nat.not_lt_zero i), fun i hi => absurd hi (Nat.not_lt_zero i), h.t.fr a1 b1 (by omega) (by omega) (fun k x => by omega) (fun k x => by omega) (by omega) (by omega) (fun k x => by omega) (fun k x => by omega)⟩
      · rw [sI_uI, if_neg (by simp), sI_uI, if_pos ⟨rfl, rfl, rfl⟩]; rfl
      · rw [sI_uI, if_neg (by simp), sI_uI, if_pos ⟨rfl, rfl, rfl⟩]; rfl
      · rw [sI_uI, if_pos ⟨rfl, rfl, rfl⟩]; rfl
      · rw [sI_uI, if_pos ⟨rfl, rfl, rfl⟩]; rfl
      · rw [f2]; exact nI_jn e3.2.1.1
      · rw [sI_uI, if_neg (by simp), sI_uI, if_neg (by simp), sI_uI, if_pos ⟨rfl, rfl, rfl⟩]; exact nI_jn e3.2.1.1
      · rw [f0, sI_uI, if_neg (by simp), sI_uI, if_neg (by simp), sI_uI, if_neg (by simp), sI_uI, if_neg (by simp), sI_uI, if_pos ⟨rfl, rfl, rfl⟩]
      · rw [f1, sI_uI, if_neg (by simp), sI_uI, if_neg (by simp), sI_uI, if_neg (by simp), sI_uI, if_pos ⟨rfl, rfl, rfl⟩]
      · rw [f0, f1, f2]; exact e3
      · rw [f0]; exact c2
  · rw [if_neg c1] at p1 p2
    exact ⟨p1.1.trans p2.1.symm, RR.same h p1.2 p2.2⟩
theorem fitSM (h : REL S T n nr nh z tl pl wr br sp) : fitS S nr wr z ↔ fitM T nr z := by
  have hw := h.w
  have hs : ∀ k, k < z → (fitA (fun i => sJ S 9 (wr i) k) (sI S 8 0) nr ↔ fitA (fun i => sJ T 9 1 (12 * i + k)) (sI T 8 3) nr) := fun k hk => by
    unfold fitA
    rw [sumV_eq (W := fun i => sJ S 9 (wr i) k) (W' := fun i => sJ T 9 1 (12 * i + k)) (C := sI S 8 0) (C' := sI T 8 3) nr (fun i hi => ⟨((hw i hi).2.2 k hk).symm, (hw i hi).1.symm⟩)]
    refine and_congr_left fun _ => ⟨fun y i hi => ?_, fun y i hi => ?_⟩
    · show in64 ((sJ T 9 1 (12 * i + k)).toInt * (sI T 8 3 i).toInt)
      rw [(hw i hi).2.2 k hk, (hw i hi).1]; exact y i hi
    · show in64 ((sJ S 9 (wr i) k).toInt * (sI S 8 0 i).toInt)
      rw [← (hw i hi).2.2 k hk, ← (hw i hi).1]; exact y i hi
  exact ⟨fun y k hk => (hs k hk).mp (y k hk), fun y k hk => (hs k hk).mpr (y k hk)⟩
/-- counts set on both sides -/
theorem REL.cn (h : REL S T n nr nh z tl pl wr br sp) {i : Nat} (hi : i < nr) {q : Int32} (hq : 0 ≤ q.toInt ∧ q.toInt ≤ 1000000) : REL (uI S 8 0 i q) (uI T 8 3 i q) n nr nh z tl pl wr br sp := by
  have a : ag S (uI S 8 0 i q) (fun c r k => c = 8 ∧ r = 0 ∧ k = i) (fun _ _ _ => False) := ⟨fun c r k q => by rw [sI_uI, if_neg q], fun _ _ _ _ => rfl⟩
  have b : ag T (uI T 8 3 i q) (fun c r k => c = 8 ∧ r = 3 ∧ k = i) (fun _ _ _ => False) := ⟨fun c r k q => by rw [sI_uI, if_neg q], fun _ _ _ _ => rfl⟩
  have hz := h.p.z12
  refine ⟨h.lk, h.lm, h.nm.fr a b (by omega) (by omega), h.s.fr a b (fun i k hi x => by omega) (fun _ _ _ x => x.elim) (fun r i hr hi x => by omega) (fun _ _ _ _ x => x.elim), h.q, h.d, h.p.fr a b (by omega) (by omega) (fun k x => by omega) (fun k k1 k2 x => by omega), fun i' hi' => ?_, h.b.fr a b hz (fun j k hj x => by omega) (fun k x => by omega) (fun _ _ _ x => x.elim) (fun _ _ _ _ x => x.elim), h.t.fr a b (by omega) (by omega) (fun k x => by omega) (fun k x => by omega) (by omega) (by omega) (fun k x => by omega) (fun k x => by omega)⟩
  obtain ⟨w1, w2, w3⟩ := h.w i' hi'
  rw [sI_uI, sI_uI]
  by_cases y : i' = i
  · rw [if_pos ⟨rfl, rfl, y⟩, if_pos ⟨rfl, rfl, y⟩]; exact ⟨rfl, hq, w3⟩
  · rw [if_neg (fun u => y u.2.2), if_neg (fun u => y u.2.2)]; exact ⟨w1, w2, w3⟩
theorem st_count (h : REL S T n nr nh z tl pl wr br sp) {i q : Int32} (p1 : spCount nr (sI S 8 0) (fitS (uI S 8 0 (jn i) q) nr wr z) i q v (eq4 S S2) (eq4 (uI S 8 0 (jn i) q) S2)) (p2 : spCount nr (sI T 8 3) (fitM (uI T 8 3 (jn i) q) nr z) i q v' (eqH T T2) (eqH (uI T 8 3 (jn i) q) T2)) : v = v' ∧ RR S2 T2 := by
  unfold spCount at p1 p2
  by_cases c1 : inN i nr
  · rw [if_pos c1] at p1 p2
    have hj := jn_lt c1
    by_cases c2 : inN q 1000001
    · rw [if_pos c2] at p1 p2
      have k := h.cn hj (q := q) ⟨c2.1, by have := c2.2; omega⟩
      have hF := fitSM k
      rcases p1 with y | y <;> rcases p2 with u | u
      · exact ⟨y.2.1.trans ((h.w _ hj).1.symm.trans u.2.1.symm), (k.eX y.2.2 (u.2.2.M n)).rl⟩
      · exact absurd (hF.mp y.1) u.1
      · exact absurd (hF.mpr u.1) y.1
      · exact ⟨y.2.1.trans u.2.1.symm, (h.eX y.2.2 (u.2.2.M n)).rl⟩
    · rw [if_neg c2] at p1 p2
      exact ⟨p1.1.trans p2.1.symm, (h.eX p1.2 (p2.2.M n)).rl⟩
  · rw [if_neg c1] at p1 p2
    exact ⟨p1.1.trans p2.1.symm, (h.eX p1.2 (p2.2.M n)).rl⟩
theorem st_safe (h : REL S T n nr nh z tl pl wr br sp) {q : Int32} (p1 : spSafe (∀ k, k < z → in64 (sumS (fun i => sJ S 9 (wr i) k) q.toInt true nr) ∧ in64 (sumS (fun i => sJ S 9 (wr i) k) q.toInt false nr)) q v (eq4 S S2)) (p2 : spSafe (∀ k, k < z → (in64 (sumS (fun x => sJ T 9 1 (12 * x + k)) q.toInt true nr) ∧ in64 (sumS (fun x => sJ T 9 1 (12 * x + k)) q.toInt false nr))) q v' (eqH T T2)) : v = v' ∧ RR S2 T2 := by
  have hF : (∀ k, k < z → in64 (sumS (fun i => sJ S 9 (wr i) k) q.toInt true nr) ∧ in64 (sumS (fun i => sJ S 9 (wr i) k) q.toInt false nr)) ↔ (∀ k, k < z → (in64 (sumS (fun x => sJ T 9 1 (12 * x + k)) q.toInt true nr) ∧ in64 (sumS (fun x => sJ T 9 1 (12 * x + k)) q.toInt false nr))) := by
    refine forall_congr' fun k => forall_congr' fun hk => ?_
    have e : ∀ u, sumS (fun i => sJ S 9 (wr i) k) q.toInt u nr = sumS (fun x => sJ T 9 1 (12 * x + k)) q.toInt u nr := fun u => sumS_eq nr (fun i hi => ((h.w i hi).2.2 k hk).symm)
    rw [e, e]
  unfold spSafe at p1 p2
  by_cases c1 : inN q 1000001
  · rw [if_pos c1] at p1 p2
    refine ⟨?_, (h.eX p1.2 (p2.2.M n)).rl⟩
    rcases p1.1 with y | y <;> rcases p2.1 with u | u
    · exact y.1.trans u.1.symm
    · exact absurd (hF.mp y.2) u.2
    · exact absurd (hF.mpr u.2) y.2
    · exact y.1.trans u.1.symm
  · rw [if_neg c1] at p1 p2
    exact ⟨p1.1.trans p2.1.symm, (h.eX p1.2 (p2.2.M n)).rl⟩
theorem st_total (h : REL S T n nr nh z tl pl wr br sp) {i : Int32} (p1 : spTotal n nr i v (S2 = S) (nw S S2 n (sI S 2 78 0) (sI S 2 78 1) z (fun k => Int64.ofInt (sumV (fun i => sJ S 9 (wr i) k) (sI S 8 0) nr))) (fun j => nw S S2 n (sI S 2 78 0) (sI S 2 78 1) z (fun k => Int64.ofInt ((sJ S 9 (wr j) k).toInt * (sI S 8 0 j).toInt)))) (p2 : spTotal n nr i v' (T2 = T) (nwM T T2 n (sI T 6 0 5) (sI T 6 0 6) z (fun k => Int64.ofInt (sumV (fun x => sJ T 9 1 (12 * x + k)) (sI T 8 3) nr))) (fun j => nwM T T2 n (sI T 6 0 5) (sI T 6 0 6) z (fun k => Int64.ofInt ((sJ T 9 1 (12 * j + k)).toInt * (sI T 8 3 j).toInt)))) : v = v' ∧ RR S2 T2 := by
  obtain ⟨p1', -, hnr, -, -, -, pz, -, hz, g5, g6, ok, -⟩ := h.p
  rw [g5, g6] at p2
  rw [pz] at ok
  have hn := h.nm.2.2
  unfold spTotal at p1 p2
  dsimp only at p1 p2
  by_cases c1 : i = -1
  · rw [if_pos c1] at p1 p2
    by_cases c3 : n = 60
    · rw [if_pos c3] at p1 p2
      exact ⟨p1.1.trans p2.1.symm, RR.same h p1.2 p2.2⟩
    · rw [if_neg c3] at p1 p2
      exact ⟨p1.1.trans p2.1.symm, (h.nw (by omega) hz p1.2 p2.2 (fun k hk => by
        show Int64.ofInt _ = Int64.ofInt _
        rw [sumV_eq (W := fun i => sJ S 9 (wr i) k) (W' := fun x => sJ T 9 1 (12 * x + k)) (C := sI S 8 0) (C' := sI T 8 3) nr (fun i hi => ⟨((h.w i hi).2.2 k hk).symm, (h.w i hi).1.symm⟩)]) ok).rl⟩
  · rw [if_neg c1] at p1 p2
    by_cases c2 : inN i nr
    · rw [if_pos c2] at p1 p2
      by_cases c3 : n = 60
      · rw [if_pos c3] at p1 p2
        exact ⟨p1.1.trans p2.1.symm, RR.same h p1.2 p2.2⟩
      · rw [if_neg c3] at p1 p2
        exact ⟨p1.1.trans p2.1.symm, (h.nw (by omega) hz p1.2 p2.2 (fun k hk => by
          show Int64.ofInt _ = Int64.ofInt _
          rw [(h.w _ (jn_lt c2)).2.2 k hk, (h.w _ (jn_lt c2)).1]) ok).rl⟩
    · rw [if_neg c2] at p1 p2
      exact ⟨p1.1.trans p2.1.symm, RR.same h p1.2 p2.2⟩
theorem st_kept (h : REL S T n nr nh z tl pl wr br sp) {i : Int32} (p1 : spKept n nh i v (S2 = S) (fun j => nw S S2 n (sI S 2 (br j) 0) (sI S 2 (br j) 1) z (sJ S 9 (br j)))) (p2 : spKept n nh i v' (T2 = T) (fun j => nwM T T2 n (sI T 6 0 5) (sI T 6 0 6) z (fun k => sJ T 9 2 (12 * j + k)))) : v = v' ∧ RR S2 T2 := by
  obtain ⟨p1', -, hnr, -, -, -, pz, -, hz, g5, g6, ok, -⟩ := h.p
  rw [g5, g6] at p2
  rw [pz] at ok
  have hn := h.nm.2.2
  unfold spKept at p1 p2
  dsimp only at p1 p2
  by_cases c1 : inN i nh
  · rw [if_pos c1] at p1 p2
    by_cases c3 : n = 60
    · rw [if_pos c3] at p1 p2
      exact ⟨p1.1.trans p2.1.symm, RR.same h p1.2 p2.2⟩
    · rw [if_neg c3] at p1 p2
      obtain ⟨⟨b0, b1, b2⟩, b3⟩ := h.b _ (jn_lt c1)
      rw [b0, b1] at p1
      exact ⟨p1.1.trans p2.1.symm, (h.nw (by omega) hz p1.2 p2.2 (fun k hk => (b3 k hk).symm) ok).rl⟩
  · rw [if_neg c1] at p1 p2
    exact ⟨p1.1.trans p2.1.symm, RR.same h p1.2 p2.2⟩
end ST
