/-! What the calls answer, in words that the class and the reference share. -/
abbrev inN (i : Int32) (n : Int) : Prop := 0 ≤ i.toInt ∧ i.toInt < n
def jn (i : Int32) : Nat := i.toInt.toNat
theorem i32_lo (x : Int32) : -2147483648 ≤ x.toInt := by have := x.le_toInt; omega
theorem i32_hi (x : Int32) : x.toInt < 2147483648 := by have := x.toInt_lt; omega
theorem jn_eq {i : Int32} {n : Int} (h : inN i n) : i = nI (jn i) := by
  apply Int32.toInt_inj.mp
  have h2 := i32_hi i
  unfold jn
  have h3 := h.1
  rw [nI_toInt (by omega)]
  omega
theorem jn_lt {i : Int32} {n : Nat} (h : inN i n) : jn i < n := by
  have h1 := h.1
  have h2 := h.2
  unfold jn
  omega
theorem jn_nI {k : Nat} (h : k < 2 ^ 31) : jn (nI k) = k := by unfold jn; rw [nI_toInt h]; omega
theorem inN_nI {k n : Nat} (h : k < 2 ^ 31) : inN (nI k) n ↔ k < n := by unfold inN; rw [nI_toInt h]; omega
theorem inN_of {k m : Int32} (h1 : ¬ k < 0) (h2 : ¬ m ≤ k) : inN k m.toInt := by
  rw [Int32.lt_iff_toInt_lt] at h1
  rw [Int32.le_iff_toInt_le] at h2
  have e : (0 : Int32).toInt = 0 := rfl
  rw [e] at h1
  exact ⟨by omega, by omega⟩
theorem inN_n1 {k : Int32} {m : Int} (h1 : k < 0) : ¬ inN k m := by
  rw [Int32.lt_iff_toInt_lt] at h1
  have e : (0 : Int32).toInt = 0 := rfl
  rw [e] at h1
  intro h
  have := h.1
  omega
theorem inN_n2 {k m : Int32} (h2 : m ≤ k) : ¬ inN k m.toInt := by
  rw [Int32.le_iff_toInt_le] at h2
  intro h
  have := h.2
  omega
theorem of_if {P : Prop} {d : Decidable P} {v : Int32} (h : v = @ite _ P d 1 0) : (v = 1 ∧ P) ∨ (v = 0 ∧ ¬ P) := by
  by_cases q : P
  · rw [if_pos q] at h; exact Or.inl ⟨h, q⟩
  · rw [if_neg q] at h; exact Or.inr ⟨h, q⟩
theorem hl_of {k m v : Int32} (h : v = (if k < 0 ∨ m ≤ k then 0 else 1)) : (v = 1 ∧ inN k m.toInt) ∨ (v = 0 ∧ ¬ inN k m.toInt) := by
  by_cases q : k < 0 ∨ m ≤ k
  · rw [if_pos q] at h
    refine Or.inr ⟨h, ?_⟩
    rcases q with q | q
    · exact inN_n1 q
    · exact inN_n2 q
  · rw [if_neg q] at h
    exact Or.inl ⟨h, inN_of (fun x => q (Or.inl x)) (fun x => q (Or.inr x))⟩
/-- two scores' failures -/
def pairF (sh hd sz sh' hd' sz' : Int32) : Int32 := if sh = -1 ∨ sh' = -1 then -11 else if sh = sh' ∧ hd = hd' ∧ sz = sz' then 0 else -12
/-- but for the Wides and what lies at the next number -/
def eqN (S S2 : PS) (n : Nat) : Prop := sQ S2 = sQ S ∧ (∀ c r k, ¬ (c = 2 ∧ r = n) → sI S2 c r k = sI S c r k) ∧ ∀ c r k, c ≠ 4 → ¬ (c = 9 ∧ r = n) → sJ S2 c r k = sJ S c r k
theorem eqN.rf (S : PS) (n : Nat) : eqN S S n := ⟨rfl, fun _ _ _ _ => rfl, fun _ _ _ _ _ => rfl⟩
theorem eqN.tr {S S1 S2 : PS} {n : Nat} (h1 : eqN S S1 n) (h2 : eqN S1 S2 n) : eqN S S2 n := ⟨h2.1.trans h1.1, fun c r k q => (h2.2.1 c r k q).trans (h1.2.1 c r k q), fun c r k q q2 => (h2.2.2 c r k q q2).trans (h1.2.2 c r k q q2)⟩
theorem eq4.N {S S2 : PS} (h : eq4 S S2) (n : Nat) : eqN S S2 n := ⟨h.2.1, fun c r k _ => by rw [h.1], fun c r k q _ => h.2.2 c r k q⟩
theorem eqN_fm (S : PS) (n : Nat) (a b z : Int32) : eqN S (fm S n a b z) n := ⟨rfl, fun c r k q => sI_fm_r q, fun _ _ _ _ _ => rfl⟩
theorem eqN_rw9 (S : PS) (n : Nat) (f : Nat → Int64) : eqN S (rw9 S n f) n := ⟨rfl, fun _ _ _ _ => rfl, fun c r k _ q => by rw [sJ_rw9, if_neg q]⟩
theorem eqN_rwk (S : PS) (n : Nat) (g o : Nat → Int64) (k : Nat) : eqN S (rwk S n g o k) n := eqN_rw9 S n _
theorem eqN.lk {S S2 : PS} {n : Nat} (h : eqN S S2 n) (hS : lkX S) : lkX S2 := lkX_of hS h.1
/-- the next number has a score of this head, whose first z levels are g's; nothing else has changed -/
def nw (S S2 : PS) (n : Nat) (a b : Int32) (z : Nat) (g : Nat → Int64) : Prop := eqN S (uI S2 5 0 1 (nI n)) n ∧ sI S2 5 0 1 = nI (n + 1) ∧ sI S2 2 n 0 = a ∧ sI S2 2 n 1 = b ∧ sI S2 2 n 2 = nI z ∧ ∀ k, k < z → sJ S2 9 n k = g k
/-- a score's head, as it is made: shape, hard, size -/
def mkH (sh h : Int32) : Int32 := if sh = 3 then h else if sh = 0 then 0 else 1
def mkZ (sh h s : Int32) : Int32 := if sh = 3 then h + s else sh + 1
def spMake (n : Nat) (sh h s v : Int32) (same new : Prop) : Prop :=
  if inN sh 4 then (if sh = 3 ∧ (6 < h.toInt ∨ 6 < s.toInt ∨ (h = 0 ∧ s = 0)) then v = -3 ∧ same else if n = 60 then v = -4 ∧ same else if sh = 3 ∧ (h.toInt < 0 ∨ s.toInt < 0) then v = -14 ∧ same else v = nI n ∧ new) else v = -3 ∧ same
def spNothing (n : Nat) (v : Int32) (same new : Prop) : Prop := if n = 60 then v = -4 ∧ same else v = nI n ∧ new
def spSet (n : Nat) (sh sz : Nat → Int32) (i k v : Int32) (same eff : Prop) : Prop :=
  if inN i n then (if sh (jn i) = -1 then v = -11 ∧ same else if inN k (sz (jn i)).toInt then v = 1 ∧ eff else v = -13 ∧ same) else v = -2 ∧ same
def spTold (n : Nat) (sh hd sz : Nat → Int32) (F : Prop) (i w v : Int32) (same : Prop) : Prop :=
  if inN i n then (if inN w 4 then (if sh (jn i) = -1 then v = -11 ∧ same else if w = 0 then v = sh (jn i) ∧ same else if w = 1 then v = hd (jn i) ∧ same else if w = 2 then v = sz (jn i) ∧ same else ((v = 1 ∧ F) ∨ (v = 0 ∧ ¬ F)) ∧ same) else v = -3 ∧ same) else v = -2 ∧ same
def spOrder (n : Nat) (sh hd sz : Nat → Int32) (lv : Nat → Nat → Int64) (a b v : Int32) (same : Prop) : Prop :=
  if inN a n ∧ inN b n then (if pairF (sh (jn a)) (hd (jn a)) (sz (jn a)) (sh (jn b)) (hd (jn b)) (sz (jn b)) = 0 then v = cmpG (lv (jn a)) (lv (jn b)) (jn (sz (jn a))) 0 + 2 ∧ same else v = pairF (sh (jn a)) (hd (jn a)) (sz (jn a)) (sh (jn b)) (hd (jn b)) (sz (jn b)) ∧ same) else v = -2 ∧ same
theorem nw_of {S S3 : PS} {n z : Nat} {a b : Int32} {g : Nat → Int64} (hE : eqN S S3 n) (hn : sI S 5 0 1 = nI n) (h0 : sI S3 2 n 0 = a) (h1 : sI S3 2 n 1 = b) (h2 : sI S3 2 n 2 = nI z) (hg : ∀ k, k < z → sJ S3 9 n k = g k) : nw S (uI S3 5 0 1 (nI (n + 1))) n a b z g := by
  refine ⟨⟨hE.1, fun c r k q => ?_, hE.2.2⟩, ?_, ?_, ?_, ?_, hg⟩
  · rw [sI_uI]
    by_cases h : c = 5 ∧ r = 0 ∧ k = 1
    · obtain ⟨rfl, rfl, rfl⟩ := h; rw [if_pos ⟨rfl, rfl, rfl⟩, hn]
    · rw [if_neg h, sI_uI, if_neg h]; exact hE.2.1 c r k q
  · rw [sI_uI, if_pos ⟨rfl, rfl, rfl⟩]
  · rw [sI_uI, if_neg (by simp)]; exact h0
  · rw [sI_uI, if_neg (by simp)]; exact h1
  · rw [sI_uI, if_neg (by simp)]; exact h2
theorem i32_add {x y : Int32} (h1 : -2147483648 ≤ x.toInt + y.toInt) (h2 : x.toInt + y.toInt < 2147483648) : (x + y).toInt = x.toInt + y.toInt := by
  rw [Int32.toInt_add, Int.bmod_eq_of_le (by omega) (by omega)]
theorem i32_0 : (0 : Int32).toInt = 0 := rfl
theorem i32_1 : (1 : Int32).toInt = 1 := rfl
theorem i32_3 : (3 : Int32).toInt = 3 := rfl
theorem i32_6 : (6 : Int32).toInt = 6 := rfl
theorem nI_jn {x : Int32} (h : 0 ≤ x.toInt) : x = nI (jn x) := jn_eq (n := 2147483648) ⟨h, i32_hi x⟩
