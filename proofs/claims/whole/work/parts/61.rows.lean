/-! What the class reads: rows of numbers, bent and plain texts. -/
abbrev nV (h : Nat → Int32) (tl p : Nat) : Int64 := Int64.ofInt (num h tl p).2.1
def lsC (h : Nat → Int32) (tl : Nat) : Nat → Nat → Nat × Bool × List Int64
  | 0, p => (p, true, [])
  | n + 1, p => if (num h tl p).2.2 = 0 then ((num h tl p).1, false, []) else if 0 < n ∧ h (num h tl p).1 = 47 then ((lsC h tl n ((num h tl p).1 + 1)).1, (lsC h tl n ((num h tl p).1 + 1)).2.1, nV h tl p :: (lsC h tl n ((num h tl p).1 + 1)).2.2) else ((num h tl p).1, true, [nV h tl p])
theorem lsC_s {h : Nat → Int32} {tl n p : Nat} : lsC h tl (n + 1) p = if (num h tl p).2.2 = 0 then ((num h tl p).1, false, []) else if 0 < n ∧ h (num h tl p).1 = 47 then ((lsC h tl n ((num h tl p).1 + 1)).1, (lsC h tl n ((num h tl p).1 + 1)).2.1, nV h tl p :: (lsC h tl n ((num h tl p).1 + 1)).2.2) else ((num h tl p).1, true, [nV h tl p]) := rfl
def rowC (h : Nat → Int32) (tl p : Nat) : Nat × Bool × List Int64 := if h p = 93 then (p, true, []) else lsC h tl 6 p
/-- only the place and levels of score r from a on have changed -/
def pcP (S S2 : PS) (r a q : Nat) : Prop := sQ S2 = sQ S ∧ sI S2 = sI (uI S 3 0 2 (nI q)) ∧ ∀ c r' k, ¬ (c = 9 ∧ r' = r ∧ a ≤ k) → sJ S2 c r' k = sJ S c r' k
theorem sI_ui2 {S S2 : PS} {q : Nat} (h : sI S2 = sI (uI S 3 0 2 (nI q))) (x : Int32) : sI (uI S2 3 0 2 x) = sI (uI S 3 0 2 x) := by
  funext c r k
  rw [sI_uI, sI_uI, h, sI_uI]
  by_cases z : c = 3 ∧ r = 0 ∧ k = 2
  · rw [if_pos z, if_pos z]
  · rw [if_neg z, if_neg z, if_neg z]
theorem pcP.pl {S S2 : PS} {r a q : Nat} (h : pcP S S2 r a q) (q2 : Nat) : pcP S (uI S2 3 0 2 (nI q2)) r a q2 := ⟨h.1, sI_ui2 h.2.1 _, h.2.2⟩
theorem pcP.nm {S S2 : PS} {r a q : Nat} (h : pcP S S2 r a q) (q2 k : Nat) (hk : a ≤ k) (v : Int64) : pcP S (uJ (uI S2 3 0 2 (nI q2)) 9 r k v) r a q2 :=
  ⟨h.1, sI_ui2 h.2.1 _, fun c r' j z => by rw [sJ_uJ, if_neg (fun y => z ⟨y.1, y.2.1, by omega⟩)]; exact h.2.2 c r' j z⟩
theorem pcP.rf {S : PS} {r a q : Nat} (h : sI S 3 0 2 = nI q) : pcP S S r a q := ⟨rfl, by rw [uI_self S 3 0 2 h], fun _ _ _ _ => rfl⟩
theorem pcP.tp {S S2 : PS} {r a q q0 tl : Nat} {T : Nat → Int32} (h : pcP S S2 r a q) (ht : tpX S T tl q0) : tpX S2 T tl q := by
  have e := ht.at q
  exact ⟨lkX_of ht.1 h.1, by rw [h.2.1]; exact e.2.1, by rw [h.2.1]; exact e.2.2.1, by rw [h.2.1]; exact e.2.2.2⟩
/-- only the place and score r have changed -/
def frP (S S2 : PS) (r : Nat) : Prop := sQ S2 = sQ S ∧ (∀ c r' k, ¬ (c = 2 ∧ r' = r) → ¬ (c = 3 ∧ r' = 0 ∧ k = 2) → sI S2 c r' k = sI S c r' k) ∧ ∀ c r' k, ¬ (c = 9 ∧ r' = r) → sJ S2 c r' k = sJ S c r' k
theorem frP.tr {S S1 S2 : PS} {r : Nat} (h1 : frP S S1 r) (h2 : frP S1 S2 r) : frP S S2 r := ⟨h2.1.trans h1.1, fun c r' k z y => (h2.2.1 c r' k z y).trans (h1.2.1 c r' k z y), fun c r' k z => (h2.2.2 c r' k z).trans (h1.2.2 c r' k z)⟩
theorem frP_pl (S : PS) (r : Nat) (x : Int32) : frP S (uI S 3 0 2 x) r := ⟨rfl, fun c r' k _ y => by rw [sI_uI, if_neg y], fun _ _ _ _ => rfl⟩
theorem frP_uJ (S : PS) (r k : Nat) (v : Int64) : frP S (uJ S 9 r k v) r := ⟨rfl, fun _ _ _ _ _ => rfl, fun c r' j z => by rw [sJ_uJ, if_neg (fun y => z ⟨y.1, y.2.1⟩)]⟩
theorem frP_fm (S : PS) (r : Nat) (a b z : Int32) : frP S (fm S r a b z) r := ⟨rfl, fun c r' k z _ => sI_fm_r z, fun _ _ _ _ => rfl⟩
theorem pcP.fr {S S2 : PS} {r a q : Nat} (h : pcP S S2 r a q) : frP S S2 r := ⟨h.1, fun c r' k _ y => by rw [h.2.1, sI_uI, if_neg y], fun c r' k z => h.2.2 c r' k (fun y => z ⟨y.1, y.2.1⟩)⟩
theorem frP.tp {S S2 : PS} {r q0 q tl : Nat} {T : Nat → Int32} (h : frP S S2 r) (ht : tpX S T tl q0) (hq : sI S2 3 0 2 = nI q) : tpX S2 T tl q :=
  ⟨lkX_of ht.1 h.1, by rw [← ht.2.1]; exact funext fun j => h.2.1 7 0 j (by simp) (by simp), by rw [h.2.1 3 0 1 (by simp) (by simp)]; exact ht.2.2.1, hq⟩
/-- score r as read -/
def hsL (S2 : PS) (r : Nat) (sh : Int32) (hd : Nat) (t : List Int64) : Prop := sI S2 2 r 0 = sh ∧ sI S2 2 r 1 = nI hd ∧ sI S2 2 r 2 = nI t.length ∧ ∀ k, k < t.length → sJ S2 9 r k = t.getD k 0
theorem hsL_pl {S : PS} {r : Nat} {sh : Int32} {hd : Nat} {t : List Int64} (h : hsL S r sh hd t) (x : Int32) : hsL (uI S 3 0 2 x) r sh hd t :=
  ⟨by rw [sI_uI, if_neg (by simp)]; exact h.1, by rw [sI_uI, if_neg (by simp)]; exact h.2.1, by rw [sI_uI, if_neg (by simp)]; exact h.2.2.1, h.2.2.2⟩
theorem getD_snoc {t : List Int64} {v : Int64} {k : Nat} (h : k < t.length) : (t ++ [v]).getD k 0 = t.getD k 0 := by
  rw [List.getD_eq_getElem?_getD, List.getD_eq_getElem?_getD, List.getElem?_append_left h]
theorem getD_last {t : List Int64} {v : Int64} : (t ++ [v]).getD t.length 0 = v := by
  rw [List.getD_eq_getElem?_getD, List.getElem?_append_right (Nat.le_refl _), Nat.sub_self]; rfl
theorem getD_l {t u : List Int64} {k : Nat} (h : k < t.length) : (t ++ u).getD k 0 = t.getD k 0 := by
  rw [List.getD_eq_getElem?_getD, List.getD_eq_getElem?_getD, List.getElem?_append_left h]
theorem getD_r {t u : List Int64} {k : Nat} (h : t.length ≤ k) : (t ++ u).getD k 0 = u.getD (k - t.length) 0 := by
  rw [List.getD_eq_getElem?_getD, List.getD_eq_getElem?_getD, List.getElem?_append_right h]
def bentC (h : Nat → Int32) (tl p : Nat) : Nat × Bool × List Int64 × List Int64 :=
  if ¬ (rowC h tl (p + 1)).2.1 = true then ((rowC h tl (p + 1)).1, false, [], [])
  else if ¬ (wrd h (sTx 4) (rowC h tl (p + 1)).1).2 = true then ((wrd h (sTx 4) (rowC h tl (p + 1)).1).1, false, [], [])
  else if ¬ (rowC h tl (wrd h (sTx 4) (rowC h tl (p + 1)).1).1).2.1 = true ∨ (rowC h tl (p + 1)).2.2.length + (rowC h tl (wrd h (sTx 4) (rowC h tl (p + 1)).1).1).2.2.length = 0 then ((rowC h tl (wrd h (sTx 4) (rowC h tl (p + 1)).1).1).1, false, [], [])
  else ((wrd h (sTx 5) (rowC h tl (wrd h (sTx 4) (rowC h tl (p + 1)).1).1).1).1, (wrd h (sTx 5) (rowC h tl (wrd h (sTx 4) (rowC h tl (p + 1)).1).1).1).2, (rowC h tl (p + 1)).2.2, (rowC h tl (wrd h (sTx 4) (rowC h tl (p + 1)).1).1).2.2)
abbrev pn (h : Nat → Int32) (tl p : Nat) : Nat := (num h tl p).1
abbrev pw_ (h : Nat → Int32) (i p : Nat) : Nat := (wrd h (sTx i) p).1
def plainC (h : Nat → Int32) (tl p : Nat) : Nat × Bool × Int32 × List Int64 :=
  if (num h tl p).2.2 = 0 then (pn h tl p, false, 0, []) else if pn h tl p = tl then (pn h tl p, true, 0, [nV h tl p])
  else if ¬ (wrd h (sTx 0) (pn h tl p)).2 = true then (pw_ h 0 (pn h tl p), false, 0, [])
  else if (num h tl (pw_ h 0 (pn h tl p))).2.2 = 0 then (pn h tl (pw_ h 0 (pn h tl p)), false, 0, [])
  else if h (pn h tl (pw_ h 0 (pn h tl p))) = 109 then
    (if ¬ (wrd h (sTx 1) (pn h tl (pw_ h 0 (pn h tl p)))).2 = true then (pw_ h 1 (pn h tl (pw_ h 0 (pn h tl p))), false, 0, [])
     else if (num h tl (pw_ h 1 (pn h tl (pw_ h 0 (pn h tl p))))).2.2 = 0 then (pn h tl (pw_ h 1 (pn h tl (pw_ h 0 (pn h tl p)))), false, 0, [])
     else (pw_ h 2 (pn h tl (pw_ h 1 (pn h tl (pw_ h 0 (pn h tl p))))), (wrd h (sTx 2) (pn h tl (pw_ h 1 (pn h tl (pw_ h 0 (pn h tl p)))))).2, 2, [nV h tl p, nV h tl (pw_ h 0 (pn h tl p)), nV h tl (pw_ h 1 (pn h tl (pw_ h 0 (pn h tl p))))]))
  else (pw_ h 2 (pn h tl (pw_ h 0 (pn h tl p))), (wrd h (sTx 2) (pn h tl (pw_ h 0 (pn h tl p)))).2, 1, [nV h tl p, nV h tl (pw_ h 0 (pn h tl p))])
/-- place, fine, shape, hard, levels -/
def rdC (h : Nat → Int32) (tl : Nat) : Nat × Bool × Int32 × Nat × List Int64 :=
  if h 0 = 91 then ((bentC h tl 0).1, (bentC h tl 0).2.1, 3, (bentC h tl 0).2.2.1.length, (bentC h tl 0).2.2.1 ++ (bentC h tl 0).2.2.2)
  else ((plainC h tl 0).1, (plainC h tl 0).2.1, (plainC h tl 0).2.2.1, (if (plainC h tl 0).2.2.1 = 0 then 0 else 1), (plainC h tl 0).2.2.2)
theorem sTx_m1 : ∀ i, i < 6 → ∀ c ∈ sTx i, ¬ c = -1 := by decide +kernel
theorem pw_le {T : Nat → Int32} {tl p i : Nat} (hi : i < 6) (h : p ≤ tl) : (wrd (hr T tl) (sTx i) p).1 ≤ tl := wrd_le _ _ h (sTx_m1 i hi)
