/-! The class's pool and the reference's, side by side. -/
def shOk (a b c : Int32) : Prop := (0 ≤ b.toInt ∧ b.toInt ≤ 12) ∧ (0 ≤ c.toInt ∧ c.toInt ≤ 12) ∧ jn b ≤ jn c ∧ (a = 3 → jn b ≤ 6 ∧ jn c - jn b ≤ 6) ∧ (¬ a = -1 → 0 ≤ a.toInt) ∧ (¬ a = -1 → ¬ a = 3 → jn c = jn a + 1)
/-- what has not changed -/
def ag (S S2 : PS) (I J : Nat → Nat → Nat → Prop) : Prop := (∀ c r k, ¬ I c r k → sI S2 c r k = sI S c r k) ∧ ∀ c r k, ¬ J c r k → sJ S2 c r k = sJ S c r k
def rN (S T : PS) (n : Nat) : Prop := sI S 5 0 1 = nI n ∧ sI T 6 0 0 = nI n ∧ n ≤ 60
/-- the scores -/
def rS (S T : PS) (n : Nat) : Prop := ∀ i, i < n → (sI T 8 0 i = sI S 2 i 0 ∧ sI T 8 1 i = sI S 2 i 1 ∧ sI T 8 2 i = sI S 2 i 2) ∧ shOk (sI S 2 i 0) (sI S 2 i 1) (sI S 2 i 2) ∧ ∀ k, k < jn (sI S 2 i 2) → sJ T 9 0 (12 * i + k) = sJ S 9 i k
/-- the places of weights, best ones and the spare -/
def rQ (S : PS) (wr br : Nat → Nat) (sp : Nat) : Prop := (∀ i, i < 12 → sQ S 10 1 i = some (wr i)) ∧ (∀ j, j < 5 → sQ S 10 2 j = some (br j)) ∧ sQ S 1 0 6 = some sp
def rD (wr br : Nat → Nat) (sp : Nat) : Prop := (∀ i, i < 12 → 60 ≤ wr i ∧ wr i < 78) ∧ (∀ j, j < 5 → 60 ≤ br j ∧ br j < 78) ∧ (60 ≤ sp ∧ sp < 78) ∧ (∀ i i', i < 12 → i' < 12 → wr i = wr i' → i = i') ∧ (∀ j j', j < 5 → j' < 5 → br j = br j' → j = j') ∧ (∀ i j, i < 12 → j < 5 → wr i ≠ br j) ∧ (∀ i, i < 12 → wr i ≠ sp) ∧ ∀ j, j < 5 → br j ≠ sp
/-- the plan -/
def rP (S T : PS) (nr nh z : Nat) : Prop := sI S 1 0 3 = nI nr ∧ sI T 6 0 8 = nI nr ∧ nr ≤ 12 ∧ sI S 1 0 5 = nI nh ∧ sI T 6 0 11 = nI nh ∧ nh ≤ 5 ∧ sI S 2 78 2 = nI z ∧ sI T 6 0 7 = nI z ∧ z ≤ 12 ∧ sI T 6 0 5 = sI S 2 78 0 ∧ sI T 6 0 6 = sI S 2 78 1 ∧ shOk (sI S 2 78 0) (sI S 2 78 1) (sI S 2 78 2) ∧ ¬ sI S 2 78 0 = -1
def rW (S T : PS) (nr z : Nat) (wr : Nat → Nat) : Prop := ∀ i, i < nr → sI T 8 3 i = sI S 8 0 i ∧ (0 ≤ (sI S 8 0 i).toInt ∧ (sI S 8 0 i).toInt ≤ 1000000) ∧ ∀ k, k < z → sJ T 9 1 (12 * i + k) = sJ S 9 (wr i) k
def rB (S T : PS) (nh z : Nat) (br : Nat → Nat) : Prop := ∀ j, j < nh → (sI S 2 (br j) 0 = sI S 2 78 0 ∧ sI S 2 (br j) 1 = sI S 2 78 1 ∧ sI S 2 (br j) 2 = nI z) ∧ ∀ k, k < z → sJ T 9 2 (12 * j + k) = sJ S 9 (br j) k
def rT (S T : PS) (tl pl : Nat) : Prop := (sI S 3 0 1 = nI tl ∧ sI T 6 0 13 = nI tl ∧ tl ≤ 300) ∧ (∀ k, k < tl → sI T 8 4 k = sI S 7 0 k) ∧ (sI S 0 0 1 = nI pl ∧ sI T 6 0 15 = nI pl ∧ pl ≤ 263) ∧ ∀ k, k < pl → sI T 8 5 k = sI S 7 1 k
theorem rN.fr {S T S2 T2 : PS} {n : Nat} {I J I' J' : Nat → Nat → Nat → Prop} (h : rN S T n) (a : ag S S2 I J) (b : ag T T2 I' J') (h1 : ¬ I 5 0 1) (h2 : ¬ I' 6 0 0) : rN S2 T2 n := ⟨by rw [a.1 _ _ _ h1]; exact h.1, by rw [b.1 _ _ _ h2]; exact h.2.1, h.2.2⟩
theorem rS.fr {S T S2 T2 : PS} {n : Nat} {I J I' J' : Nat → Nat → Nat → Prop} (h : rS S T n) (a : ag S S2 I J) (b : ag T T2 I' J') (h1 : ∀ i k, i < n → ¬ I 2 i k) (h2 : ∀ i k, i < n → ¬ J 9 i k) (h3 : ∀ r i, r < 3 → i < n → ¬ I' 8 r i) (h4 : ∀ i k, i < n → k < 12 → ¬ J' 9 0 (12 * i + k)) : rS S2 T2 n := fun i hi => by
  obtain ⟨⟨e0, e1, e2⟩, e3, e4⟩ := h i hi
  have s0 := a.1 2 i 0 (h1 i 0 hi)
  have s1 := a.1 2 i 1 (h1 i 1 hi)
  have s2 := a.1 2 i 2 (h1 i 2 hi)
  rw [s0, s1, s2, b.1 8 0 i (h3 0 i (by decide) hi), b.1 8 1 i (h3 1 i (by decide) hi), b.1 8 2 i (h3 2 i (by decide) hi)]
  refine ⟨⟨e0, e1, e2⟩, e3, fun k hk => ?_⟩
  have hk12 : k < 12 := by have := e3.2.1; unfold jn at hk; omega
  rw [b.2 9 0 (12 * i + k) (h4 i k hi hk12), a.2 9 i k (h2 i k hi)]
  exact e4 k hk
theorem rP.fr {S T S2 T2 : PS} {nr nh z : Nat} {I J I' J' : Nat → Nat → Nat → Prop} (h : rP S T nr nh z) (a : ag S S2 I J) (b : ag T T2 I' J') (h1 : ¬ I 1 0 3) (h2 : ¬ I 1 0 5) (h3 : ∀ k, ¬ I 2 78 k) (h4 : ∀ k, 5 ≤ k → k ≤ 11 → ¬ I' 6 0 k) : rP S2 T2 nr nh z := by
  unfold rP
  rw [a.1 _ _ _ h1, a.1 _ _ _ h2, a.1 _ _ _ (h3 0), a.1 _ _ _ (h3 1), a.1 _ _ _ (h3 2), b.1 _ _ _ (h4 5 (by decide) (by decide)), b.1 _ _ _ (h4 6 (by decide) (by decide)), b.1 _ _ _ (h4 7 (by decide) (by decide)), b.1 _ _ _ (h4 8 (by decide) (by decide)), b.1 _ _ _ (h4 11 (by decide) (by decide))]
  exact h
theorem rW.fr {S T S2 T2 : PS} {nr z : Nat} {wr : Nat → Nat} {I J I' J' : Nat → Nat → Nat → Prop} (h : rW S T nr z wr) (a : ag S S2 I J) (b : ag T T2 I' J') (hz : z ≤ 12) (h1 : ∀ i, i < nr → ¬ I 8 0 i) (h2 : ∀ i k, i < nr → ¬ J 9 (wr i) k) (h3 : ∀ i, i < nr → ¬ I' 8 3 i) (h4 : ∀ i k, i < nr → k < 12 → ¬ J' 9 1 (12 * i + k)) : rW S2 T2 nr z wr := fun i hi => by
  obtain ⟨e0, e1, e2⟩ := h i hi
  rw [a.1 8 0 i (h1 i hi), b.1 8 3 i (h3 i hi)]
  refine ⟨e0, e1, fun k hk => ?_⟩
  rw [b.2 9 1 _ (h4 i k hi (by omega)), a.2 9 _ k (h2 i k hi)]
  exact e2 k hk
theorem rB.fr {S T S2 T2 : PS} {nh z : Nat} {br : Nat → Nat} {I J I' J' : Nat → Nat → Nat → Prop} (h : rB S T nh z br) (a : ag S S2 I J) (b : ag T T2 I' J') (hz : z ≤ 12) (h1 : ∀ j k, j < nh → ¬ I 2 (br j) k) (h0 : ∀ k, ¬ I 2 78 k) (h2 : ∀ j k, j < nh → ¬ J 9 (br j) k) (h4 : ∀ j k, j < nh → k < 12 → ¬ J' 9 2 (12 * j + k)) : rB S2 T2 nh z br := fun j hj => by
  obtain ⟨e0, e2⟩ := h j hj
  rw [a.1 2 (br j) 0 (h1 j 0 hj), a.1 2 (br j) 1 (h1 j 1 hj), a.1 2 (br j) 2 (h1 j 2 hj), a.1 2 78 0 (h0 0), a.1 2 78 1 (h0 1)]
  refine ⟨e0, fun k hk => ?_⟩
  rw [b.2 9 2 _ (h4 j k hj (by omega)), a.2 9 _ k (h2 j k hj)]
  exact e2 k hk
theorem rT.fr {S T S2 T2 : PS} {tl pl : Nat} {I J I' J' : Nat → Nat → Nat → Prop} (h : rT S T tl pl) (a : ag S S2 I J) (b : ag T T2 I' J') (h1 : ¬ I 3 0 1) (h2 : ¬ I 0 0 1) (h3 : ∀ k, ¬ I 7 0 k) (h4 : ∀ k, ¬ I 7 1 k) (h5 : ¬ I' 6 0 13) (h6 : ¬ I' 6 0 15) (h7 : ∀ k, ¬ I' 8 4 k) (h8 : ∀ k, ¬ I' 8 5 k) : rT S2 T2 tl pl := by
  unfold rT
  rw [a.1 _ _ _ h1, a.1 _ _ _ h2, b.1 _ _ _ h5, b.1 _ _ _ h6]
  refine ⟨h.1, fun k hk => ?_, h.2.2.1, fun k hk => ?_⟩
  · rw [a.1 _ _ _ (h3 k), b.1 _ _ _ (h7 k)]; exact h.2.1 k hk
  · rw [a.1 _ _ _ (h4 k), b.1 _ _ _ (h8 k)]; exact h.2.2.2 k hk
def REL (S T : PS) (n nr nh z tl pl : Nat) (wr br : Nat → Nat) (sp : Nat) : Prop := lkX S ∧ lkM T ∧ rN S T n ∧ rS S T n ∧ rQ S wr br sp ∧ rD wr br sp ∧ rP S T nr nh z ∧ rW S T nr z wr ∧ rB S T nh z br ∧ rT S T tl pl
def RR (S T : PS) : Prop := ∃ (n nr nh z tl pl : Nat) (wr br : Nat → Nat) (sp : Nat), REL S T n nr nh z tl pl wr br sp
section R
variable {S T S2 T2 : PS} {n nr nh z tl pl : Nat} {wr br : Nat → Nat} {sp : Nat}
theorem REL.lk (h : REL S T n nr nh z tl pl wr br sp) : lkX S := h.1
theorem REL.lm (h : REL S T n nr nh z tl pl wr br sp) : lkM T := h.2.1
theorem REL.nm (h : REL S T n nr nh z tl pl wr br sp) : rN S T n := h.2.2.1
theorem REL.s (h : REL S T n nr nh z tl pl wr br sp) : rS S T n := h.2.2.2.1
theorem REL.q (h : REL S T n nr nh z tl pl wr br sp) : rQ S wr br sp := h.2.2.2.2.1
theorem REL.d (h : REL S T n nr nh z tl pl wr br sp) : rD wr br sp := h.2.2.2.2.2.1
theorem REL.p (h : REL S T n nr nh z tl pl wr br sp) : rP S T nr nh z := h.2.2.2.2.2.2.1
theorem REL.w (h : REL S T n nr nh z tl pl wr br sp) : rW S T nr z wr := h.2.2.2.2.2.2.2.1
theorem REL.b (h : REL S T n nr nh z tl pl wr br sp) : rB S T nh z br := h.2.2.2.2.2.2.2.2.1
theorem REL.t (h : REL S T n nr nh z tl pl wr br sp) : rT S T tl pl := h.2.2.2.2.2.2.2.2.2
theorem REL.rl (h : REL S T n nr nh z tl pl wr br sp) : RR S T := ⟨_, _, _, _, _, _, _, _, _, h⟩
theorem rP.z12 (h : rP S T nr nh z) : z ≤ 12 := h.2.2.2.2.2.2.2.2.1
theorem REL.plX (h : REL S T n nr nh z tl pl wr br sp) : plX S nr wr z := ⟨h.lk, h.p.1, h.p.2.2.1, fun i hi => ⟨h.q.1 i hi, by have := (h.d.1 i hi).2; omega⟩, fun i hi => (h.w i hi).2.1, h.p.2.2.2.2.2.2.1, h.p.z12⟩
theorem REL.plM (h : REL S T n nr nh z tl pl wr br sp) : plM T nr z := ⟨h.lm, h.p.2.1, h.p.2.2.1, fun i hi => by rw [(h.w i hi).1]; exact (h.w i hi).2.1, h.p.2.2.2.2.2.2.2.1, h.p.z12⟩
/-- nothing that counts has changed -/
theorem REL.fr {I J I' J' : Nat → Nat → Nat → Prop} (h : REL S T n nr nh z tl pl wr br sp) (a : ag S S2 I J) (b : ag T T2 I' J') (hq : sQ S2 = sQ S) (hq' : sQ T2 = sQ T)
    (h1 : ∀ c r k, I c r k → (c = 2 ∧ n ≤ r ∧ r < 60) ∨ (c = 3 ∧ k = 2)) (h2 : ∀ c r k, J c r k → c = 4 ∨ (c = 9 ∧ n ≤ r ∧ r < 60)) (h3 : ∀ c r k, I' c r k → (c = 6 ∧ (k = 17 ∨ k = 20 ∨ k = 21)) ∨ (c = 8 ∧ r < 3 ∧ n ≤ k)) (h4 : ∀ c r k, J' c r k → c = 6 ∨ (c = 9 ∧ r = 3) ∨ (c = 9 ∧ r = 0 ∧ 12 * n ≤ k)) : REL S2 T2 n nr nh z tl pl wr br sp := by
  obtain ⟨d1, d2, d3, -⟩ := h.d
  have hn := h.nm.2.2
  have hz := h.p.z12
  have hnr := h.p.2.2.1
  have hnh := h.p.2.2.2.2.2.1
  refine ⟨lkX_of h.lk hq, lkM_of h.lm hq', h.nm.fr a b (fun x => ?_) (fun x => ?_), h.s.fr a b (fun i k hi x => ?_) (fun i k hi x => ?_) (fun r i hr hi x => ?_) (fun i k hi hk x => ?_), by unfold rQ; rw [hq]; exact h.q, h.d, h.p.fr a b (fun x => ?_) (fun x => ?_) (fun k x => ?_) (fun k k1 k2 x => ?_), h.w.fr a b hz (fun i hi x => ?_) (fun i k hi x => ?_) (fun i hi x => ?_) (fun i k hi hk x => ?_), h.b.fr a b hz (fun j k hj x => ?_) (fun k x => ?_) (fun j k hj x => ?_) (fun j k hj hk x => ?_), h.t.fr a b (fun x => ?_) (fun x => ?_) (fun k x => ?_) (fun k x => ?_) (fun x => ?_) (fun x => ?_) (fun k x => ?_) (fun k x => ?_)⟩
  · have := h1 _ _ _ x; omega
  · have := h3 _ _ _ x; omega
  · have := h1 _ _ _ x; omega
  · have := h2 _ _ _ x; omega
  · have := h3 _ _ _ x; omega
  · have := h4 _ _ _ x; omega
  · have := h1 _ _ _ x; omega
  · have := h1 _ _ _ x; omega
  · have := h1 _ _ _ x; omega
  · have := h3 _ _ _ x; omega
  · have := h1 _ _ _ x; omega
  · have := h2 _ _ _ x; have := d1 i (by omega); omega
  · have := h3 _ _ _ x; omega
  · have := h4 _ _ _ x; omega
  · have := h1 _ _ _ x; have := d2 j (by omega); omega
  · have := h1 _ _ _ x; omega
  · have := h2 _ _ _ x; have := d2 j (by omega); omega
  · have := h4 _ _ _ x; omega
  · have := h1 _ _ _ x; omega
  · have := h1 _ _ _ x; omega
  · have := h1 _ _ _ x; omega
  · have := h1 _ _ _ x; omega
  · have := h3 _ _ _ x; omega
  · have := h3 _ _ _ x; omega
  · have := h3 _ _ _ x; omega
  · have := h3 _ _ _ x; omega
theorem ag.rf (S : PS) : ag S S (fun _ _ _ => False) (fun _ _ _ => False) := ⟨fun _ _ _ _ => rfl, fun _ _ _ _ => rfl⟩
theorem ag_N (e : eqN S S2 n) : ag S S2 (fun c r _ => c = 2 ∧ r = n) (fun c r _ => c = 4 ∨ (c = 9 ∧ r = n)) := ⟨fun c r k q => e.2.1 c r k q, fun c r k q => e.2.2 c r k (fun x => q (Or.inl x)) (fun x => q (Or.inr x))⟩
theorem ag_M (e : eqM T T2 n) : ag T T2 (jkI n) (jkJ n) := ⟨e.2.1, e.2.2⟩
theorem REL.eN (h : REL S T n nr nh z tl pl wr br sp) (hn : n < 60) (e : eqN S S2 n) (e' : eqM T T2 n) : REL S2 T2 n nr nh z tl pl wr br sp :=
  h.fr (ag_N e) (ag_M e') e.1 e'.1 (fun c r k x => Or.inl ⟨x.1, by have := x.2; omega, by have := x.2; omega⟩) (fun c r k x => x.elim Or.inl (fun y => Or.inr ⟨y.1, by have := y.2; omega, by have := y.2; omega⟩)) (fun c r k x => x.elim Or.inl (fun y => Or.inr ⟨y.1, y.2.1, by have := y.2.2; omega⟩)) (fun c r k x => x.elim Or.inl (fun y => Or.inr (y.elim Or.inl (fun u => Or.inr ⟨u.1, u.2.1, u.2.2.1⟩))))
theorem REL.eX (h : REL S T n nr nh z tl pl wr br sp) (e : eq4 S S2) (e' : eqM T T2 n) : REL S2 T2 n nr nh z tl pl wr br sp :=
  h.fr (S2 := S2) (I := fun _ _ _ => False) (J := fun c _ _ => c = 4) ⟨fun c r k _ => by rw [e.1], fun c r k q => e.2.2 c r k q⟩ (ag_M e') e.2.1 e'.1 (fun c r k x => x.elim) (fun c r k x => Or.inl x) (fun c r k x => x.elim Or.inl (fun y => Or.inr ⟨y.1, y.2.1, by have := y.2.2; omega⟩)) (fun c r k x => x.elim Or.inl (fun y => Or.inr (y.elim Or.inl (fun u => Or.inr ⟨u.1, u.2.1, u.2.2.1⟩))))
/-- a new score on both sides -/
theorem REL.nw (h : REL S T n nr nh z tl pl wr br sp) (hn : n < 60) {a b : Int32} {zz : Nat} {g g' : Nat → Int64} (hz : zz ≤ 12) (e : nw S S2 n a b zz g) (e' : nwM T T2 n a b zz g') (hg : ∀ k, k < zz → g k = g' k) (hok : shOk a b (nI zz)) : REL S2 T2 (n + 1) nr nh z tl pl wr br sp := by
  obtain ⟨eE, en, e0, e1, e2, eg⟩ := e
  obtain ⟨fE, fn, f0, f1, f2, fg⟩ := e'
  have k1 : REL (uI S2 5 0 1 (nI n)) (uI T2 6 0 0 (nI n)) n nr nh z tl pl wr br sp := h.eN hn eE fE
  have a1 : ag (uI S2 5 0 1 (nI n)) S2 (fun c r k => c = 5 ∧ r = 0 ∧ k = 1) (fun _ _ _ => False) := ⟨fun c r k q => by rw [sI_uI, if_neg q], fun _ _ _ _ => rfl⟩
  have b1 : ag (uI T2 6 0 0 (nI n)) T2 (fun c r k => c = 6 ∧ r = 0 ∧ k = 0) (fun _ _ _ => False) := ⟨fun c r k q => by rw [sI_uI, if_neg q], fun _ _ _ _ => rfl⟩
  have hs1 : rS S2 T2 n := k1.s.fr a1 b1 (fun i k _ x => absurd x.1 (by decide)) (fun _ _ _ x => x.elim) (fun r i _ _ x => absurd x.1 (by decide)) (fun _ _ _ _ x => x.elim)
  refine ⟨k1.lk, k1.lm, ⟨en, fn, by omega⟩, fun i hi => ?_, k1.q, k1.d, k1.p.fr a1 b1 (fun x => absurd x.1 (by decide)) (fun x => absurd x.1 (by decide)) (fun k x => absurd x.1 (by decide)) (fun k h5 h11 x => by have := x.2.2; omega), k1.w.fr a1 b1 k1.p.z12 (fun i _ x => absurd x.1 (by decide)) (fun _ _ _ x => x.elim) (fun i _ x => absurd x.1 (by decide)) (fun _ _ _ _ x => x.elim), k1.b.fr a1 b1 k1.p.z12 (fun j k _ x => absurd x.1 (by decide)) (fun k x => absurd x.1 (by decide)) (fun _ _ _ x => x.elim) (fun _ _ _ _ x => x.elim), k1.t.fr a1 b1 (fun x => absurd x.1 (by decide)) (fun x => absurd x.1 (by decide)) (fun k x => absurd x.1 (by decide)) (fun k x => absurd x.1 (by decide)) (fun x => absurd x.2.2 (by decide)) (fun x => absurd x.2.2 (by decide)) (fun k x => absurd x.1 (by decide)) (fun k x => absurd x.1 (by decide))⟩
  by_cases q : i < n
  · exact hs1 i q
  · have ei : i = n := by omega
    subst ei
    rw [e0, e1, e2, f0, f1, f2]
    refine ⟨⟨rfl, rfl, rfl⟩, hok, fun k hk => ?_⟩
    rw [jn_nI (by omega)] at hk
    rw [eg k hk, fg k hk, hg k hk]
end R
