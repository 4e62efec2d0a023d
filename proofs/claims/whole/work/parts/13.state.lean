/-! The class's pool: scores are the places 0 .. 59 of kind 2, the plan's weights, best ones, spare and pattern 60 .. 78; a score's levels have its own place in kind 9. Wide 0 is the object's, 1 the plan's sum, 2 its part. Byte rows: 0 the tape's, 1 the page's, 2 its digits. Rows of scores: 0 the scores, 1 the weights, 2 the best. -/
def okX (G : GT) : Prop := (∀ r, r < 79 → (2, r) ∈ gP G ∧ (9, r) ∈ gP G ∧ gN G 9 r = 12) ∧ ((0, 0) ∈ gP G ∧ (1, 0) ∈ gP G ∧ (3, 0) ∈ gP G ∧ (5, 0) ∈ gP G ∧ (8, 0) ∈ gP G) ∧ (∀ r, r < 3 → (4, r) ∈ gP G ∧ (7, r) ∈ gP G ∧ (10, r) ∈ gP G) ∧ gN G 7 0 = 300 ∧ gN G 7 1 = 263 ∧ gN G 7 2 = 19 ∧ gN G 8 0 = 12 ∧ gN G 10 0 = 60 ∧ gN G 10 1 = 12 ∧ gN G 10 2 = 5
theorem oP2 {G : GT} (h : okX G) {r : Nat} (hr : r < 79) : (2, r) ∈ gP G := (h.1 r hr).1
theorem oP9 {G : GT} (h : okX G) {r : Nat} (hr : r < 79) : (9, r) ∈ gP G := (h.1 r hr).2.1
theorem oN9 {G : GT} (h : okX G) {r : Nat} (hr : r < 79) : gN G 9 r = 12 := (h.1 r hr).2.2
theorem oP0 {G : GT} (h : okX G) : (0, 0) ∈ gP G := h.2.1.1
theorem oP1 {G : GT} (h : okX G) : (1, 0) ∈ gP G := h.2.1.2.1
theorem oP3 {G : GT} (h : okX G) : (3, 0) ∈ gP G := h.2.1.2.2.1
theorem oP5 {G : GT} (h : okX G) : (5, 0) ∈ gP G := h.2.1.2.2.2.1
theorem oP8 {G : GT} (h : okX G) : (8, 0) ∈ gP G := h.2.1.2.2.2.2
theorem oP4 {G : GT} (h : okX G) {r : Nat} (hr : r < 3) : (4, r) ∈ gP G := (h.2.2.1 r hr).1
theorem oP7 {G : GT} (h : okX G) {r : Nat} (hr : r < 3) : (7, r) ∈ gP G := (h.2.2.1 r hr).2.1
theorem oP10 {G : GT} (h : okX G) {r : Nat} (hr : r < 3) : (10, r) ∈ gP G := (h.2.2.1 r hr).2.2
theorem oN70 {G : GT} (h : okX G) : gN G 7 0 = 300 := h.2.2.2.1
theorem oN71 {G : GT} (h : okX G) : gN G 7 1 = 263 := h.2.2.2.2.1
theorem oN72 {G : GT} (h : okX G) : gN G 7 2 = 19 := h.2.2.2.2.2.1
theorem oN8 {G : GT} (h : okX G) : gN G 8 0 = 12 := h.2.2.2.2.2.2.1
theorem oN100 {G : GT} (h : okX G) : gN G 10 0 = 60 := h.2.2.2.2.2.2.2.1
theorem oN101 {G : GT} (h : okX G) : gN G 10 1 = 12 := h.2.2.2.2.2.2.2.2.1
theorem oN102 {G : GT} (h : okX G) : gN G 10 2 = 5 := h.2.2.2.2.2.2.2.2.2
/-- the references that never change -/
def lkX (S : PS) : Prop := (∀ r, r < 79 → sQ S 2 r 3 = some r) ∧ (∀ i, i < 60 → sQ S 10 0 i = some i) ∧ sQ S 5 0 0 = some 0 ∧ sQ S 5 0 2 = some 0 ∧ sQ S 5 0 3 = some 0 ∧ sQ S 5 0 4 = some 0 ∧ sQ S 5 0 5 = some 0 ∧ sQ S 3 0 0 = some 0 ∧ sQ S 0 0 0 = some 1 ∧ sQ S 0 0 2 = some 2
  ∧ sQ S 1 0 0 = some 78 ∧ sQ S 1 0 1 = some 1 ∧ sQ S 1 0 2 = some 0 ∧ sQ S 1 0 4 = some 2 ∧ sQ S 1 0 7 = some 1 ∧ sQ S 1 0 8 = some 2
theorem lk2 {S : PS} (h : lkX S) {r : Nat} (hr : r < 79) : sQ S 2 r 3 = some r := h.1 r hr
theorem lk10 {S : PS} (h : lkX S) {i : Nat} (hi : i < 60) : sQ S 10 0 i = some i := h.2.1 i hi
theorem lkX_of {S S' : PS} (h : lkX S) (e : sQ S' = sQ S) : lkX S' := by unfold lkX; rw [e]; exact h
/-- a score's head; a whole row of levels -/
def fm (S : PS) (r : Nat) (a b z : Int32) : PS := uI (uI (uI S 2 r 0 a) 2 r 1 b) 2 r 2 z
def rw9 (S : PS) (r : Nat) (f : Nat → Int64) : PS := (S.1, fun c' r' k' => if c' = 9 ∧ r' = r then f k' else S.2.1 c' r' k', S.2.2)
theorem sJ_rw9 (S : PS) (r : Nat) (f : Nat → Int64) (c' r' k' : Nat) : sJ (rw9 S r f) c' r' k' = if c' = 9 ∧ r' = r then f k' else sJ S c' r' k' := rfl
theorem sI_rw9 (S : PS) (r : Nat) (f : Nat → Int64) : sI (rw9 S r f) = sI S := rfl
theorem sQ_rw9 (S : PS) (r : Nat) (f : Nat → Int64) : sQ (rw9 S r f) = sQ S := rfl
theorem sJ_fm (S : PS) (r : Nat) (a b z : Int32) : sJ (fm S r a b z) = sJ S := rfl
theorem sQ_fm (S : PS) (r : Nat) (a b z : Int32) : sQ (fm S r a b z) = sQ S := rfl
theorem sI_fm0 (S : PS) (r : Nat) (a b z : Int32) : sI (fm S r a b z) 2 r 0 = a := by simp [fm, sI_uI]
theorem sI_fm1 (S : PS) (r : Nat) (a b z : Int32) : sI (fm S r a b z) 2 r 1 = b := by simp [fm, sI_uI]
theorem sI_fm2 (S : PS) (r : Nat) (a b z : Int32) : sI (fm S r a b z) 2 r 2 = z := by simp [fm, sI_uI]
theorem sI_fm_r {S : PS} {r : Nat} {a b z : Int32} {c' r' k' : Nat} (h : ¬ (c' = 2 ∧ r' = r)) : sI (fm S r a b z) c' r' k' = sI S c' r' k' := by
  unfold fm
  rw [sI_uI, if_neg (fun q => h ⟨q.1, q.2.1⟩), sI_uI, if_neg (fun q => h ⟨q.1, q.2.1⟩), sI_uI, if_neg (fun q => h ⟨q.1, q.2.1⟩)]
theorem sJ_rw9_s (S : PS) (r : Nat) (f : Nat → Int64) (k : Nat) : sJ (rw9 S r f) 9 r k = f k := by rw [sJ_rw9, if_pos ⟨rfl, rfl⟩]
theorem sJ_rw9_n {S : PS} {r : Nat} {f : Nat → Int64} {r' k : Nat} (h : r' ≠ r) : sJ (rw9 S r f) 9 r' k = sJ S 9 r' k := by rw [sJ_rw9, if_neg (fun q => h q.2)]
theorem uJ_rw9 (S : PS) (r : Nat) (f : Nat → Int64) (k : Nat) (v : Int64) : uJ (rw9 S r f) 9 r k v = rw9 S r (fun j => if j = k then v else f j) := by
  refine PS_ext (fun _ _ _ => rfl) (fun c' r' k' => ?_) (fun _ _ _ => rfl)
  rw [sJ_uJ, sJ_rw9, sJ_rw9]
  by_cases h1 : c' = 9 ∧ r' = r
  · obtain ⟨rfl, rfl⟩ := h1
    by_cases h2 : k' = k
    · rw [if_pos ⟨rfl, rfl, h2⟩, if_pos ⟨rfl, rfl⟩, if_pos h2]
    · rw [if_neg (fun q => h2 q.2.2), if_pos ⟨rfl, rfl⟩, if_pos ⟨rfl, rfl⟩, if_neg h2]
  · rw [if_neg (fun q => h1 ⟨q.1, q.2.1⟩), if_neg h1, if_neg h1]
theorem rw9_self (S : PS) (r : Nat) : rw9 S r (fun k => sJ S 9 r k) = S := by
  refine PS_ext (fun _ _ _ => rfl) (fun c' r' k' => ?_) (fun _ _ _ => rfl)
  rw [sJ_rw9]
  by_cases h : c' = 9 ∧ r' = r
  · obtain ⟨rfl, rfl⟩ := h; rw [if_pos ⟨rfl, rfl⟩]
  · rw [if_neg h]
theorem rw9_eq {S : PS} {r : Nat} {f g : Nat → Int64} (h : ∀ k, f k = g k) : rw9 S r f = rw9 S r g := by rw [show f = g from funext h]
/-- the order of two rows from place k on, n levels -/
def cmpG (x y : Nat → Int64) : Nat → Nat → Int32
  | 0, _ => 0
  | n + 1, k => if x k = y k then cmpG x y n (k + 1) else if x k < y k then -1 else 1
theorem cmpG_eq {x y x' y' : Nat → Int64} : ∀ (n k : Nat), (∀ j, k ≤ j → j < k + n → x j = x' j ∧ y j = y' j) → cmpG x y n k = cmpG x' y' n k := by
  intro n
  induction n with
  | zero => intro k _; rfl
  | succ n ih =>
    intro k h
    obtain ⟨h1, h2⟩ := h k (Nat.le_refl _) (by omega)
    unfold cmpG
    rw [h1, h2, ih (k + 1) (fun j a b => h j (by omega) (by omega))]
/-- a row of levels of which the first k are g's, the others o's -/
def rwk (S : PS) (r : Nat) (g o : Nat → Int64) (k : Nat) : PS := rw9 S r (fun j => if j < k then g j else o j)
theorem rwk_s {S : PS} {r : Nat} {g o : Nat → Int64} {k : Nat} {v : Int64} (hv : v = g k) : uJ (rwk S r g o k) 9 r k v = rwk S r g o (k + 1) := by
  unfold rwk
  rw [uJ_rw9]
  refine rw9_eq fun j => ?_
  by_cases h1 : j = k
  · subst h1; rw [if_pos rfl, if_pos (Nat.lt_succ_self _), hv]
  · rw [if_neg h1]
    by_cases h2 : j < k
    · rw [if_pos h2, if_pos (by omega)]
    · rw [if_neg h2, if_neg (by omega)]
theorem rwk_0 {S : PS} {r : Nat} {g o : Nat → Int64} (h : ∀ k, o k = sJ S 9 r k) : rwk S r g o 0 = S := by
  unfold rwk
  rw [rw9_eq (g := fun k => sJ S 9 r k), rw9_self]
  intro k; rw [if_neg (Nat.not_lt_zero _), h]
theorem sI_rwk (S : PS) (r : Nat) (g o : Nat → Int64) (k : Nat) : sI (rwk S r g o k) = sI S := rfl
theorem sQ_rwk (S : PS) (r : Nat) (g o : Nat → Int64) (k : Nat) : sQ (rwk S r g o k) = sQ S := rfl
theorem sJ_rwk_n {S : PS} {r : Nat} {g o : Nat → Int64} {k r' j : Nat} (h : r' ≠ r) : sJ (rwk S r g o k) 9 r' j = sJ S 9 r' j := sJ_rw9_n h
theorem sJ_rwk_s (S : PS) (r : Nat) (g o : Nat → Int64) (k j : Nat) : sJ (rwk S r g o k) 9 r j = if j < k then g j else o j := sJ_rw9_s _ _ _ _
