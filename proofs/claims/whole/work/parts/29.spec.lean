/-! What the calls answer, in words that the class and the reference share. -/
abbrev inN (i : Int32) (n : Int) : Prop := 0 ≤ i.toInt ∧ i.toInt < n
def jn (i : Int32) : Nat := i.toInt.toNat
theorem i32_lo (x : Int32) : -2147483648 ≤ x.toInt := by have := x.le_toInt; omega
theorem i32_hi (x : Int32) : x.toInt < 2147483648 := by have := x.toInt_lt; omega
theorem jn_eq {i : Int32} {n : Int} (h : inN i n) : i = nI (jn i) := by
  apply Int32.toInt_inj.mp
  have h2 := i32_hi i
  unfold jn
  have h3 := h.1
  rw [nI_toInt (by omega)]
  omega
theorem jn_lt {i : Int32} {n : Nat} (h : inN i n) : jn i < n := by
  have h1 := h.1
  have h2 := h.2
  unfold jn
  omega
theorem jn_nI {k : Nat} (h : k < 2 ^ 31) : jn (nI k) = k := by unfold jn; rw [nI_toInt h]; omega
theorem inN_nI {k n : Nat} (h : k < 2 ^ 31) : inN (nI k) n ↔ k < n := by unfold inN; rw [nI_toInt h]; omega
theorem inN_of {k m : Int32} (h1 : ¬ k < 0) (h2 : ¬ m ≤ k) : inN k m.toInt := by
  rw [Int32.lt_iff_toInt_lt] at h1
  rw [Int32.le_iff_toInt_le] at h2
  have e : (0 : Int32).toInt = 0 := rfl
  rw [e] at h1
  exact ⟨by omega, by omega⟩
theorem inN_n1 {k : Int32} {m : Int} (h1 : k < 0) : ¬ inN k m := by
  rw [Int32.lt_iff_toInt_lt] at h1
  have e : (0 : Int32).toInt = 0 := rfl
  rw [e] at h1
  intro h
  have := h.1
  omega
theorem inN_n2 {k m : Int32} (h2 : m ≤ k) : ¬ inN k m.toInt := by
  rw [Int32.le_iff_toInt_le] at h2
  intro h
  have := h.2
  omega
theorem of_if {P : Prop} {d : Decidable P} {v : Int32} (h : v = @ite _ P d 1 0) : (v = 1 ∧ P) ∨ (v = 0 ∧ ¬ P) := by
  by_cases q : P
  · rw [if_pos q] at h; exact Or.inl ⟨h, q⟩
  · rw [if_neg q] at h; exact Or.inr ⟨h, q⟩
theorem hl_of {k m v : Int32} (h : v = (if k < 0 ∨ m ≤ k then 0 else 1)) : (v = 1 ∧ inN k m.toInt) ∨ (v = 0 ∧ ¬ inN k m.toInt) := by
  by_cases q : k < 0 ∨ m ≤ k
  · rw [if_pos q] at h
    refine Or.inr ⟨h, ?_⟩
    rcases q with q | q
    · exact inN_n1 q
    · exact inN_n2 q
  · rw [if_neg q] at h
    exact Or.inl ⟨h, inN_of (fun x => q (Or.inl x)) (fun x => q (Or.inr x))⟩
/-- two scores' failures -/
def pairF (sh hd sz sh' hd' sz' : Int32) : Int32 := if sh = -1 ∨ sh' = -1 then -11 else if sh = sh' ∧ hd = hd' ∧ sz = sz' then 0 else -12
/-- but for the Wides and what lies at the next number -/
def eqN (S S2 : PS) (n : Nat) : Prop := sQ S2 = sQ S ∧ (∀ c r k, ¬ (c = 2 ∧ r = n) → sI S2 c r k = sI S c r k) ∧ ∀ c r k, c ≠ 4 → ¬ (c = 9 ∧ r = n) → sJ S2 c r k = sJ S c r k
theorem eqN.rf (S : PS) (n : Nat) : eqN S S n := ⟨rfl, fun _ _ _ _ => rfl, fun _ _ _ _ _ => rfl⟩
theorem eqN.tr {S S1 S2 : PS} {n : Nat} (h1 : eqN S S1 n) (h2 : eqN S1 S2 n) : eqN S S2 n := ⟨h2.1.trans h1.1, fun c r k q => (h2.2.1 c r k q).trans (h1.2.1 c r k q), fun c r k q q2 => (h2.2.2 c r k q q2).trans (h1.2.2 c r k q q2)⟩
theorem eq4.N {S S2 : PS} (h : eq4 S S2) (n : Nat) : eqN S S2 n := ⟨h.2.1, fun c r k _ => by rw [h.1], fun c r k q _ => h.2.2 c r k q⟩
theorem eqN_fm (S : PS) (n : Nat) (a b z : Int32) : eqN S (fm S n a b z) n := ⟨rfl, fun c r k q => sI_fm_r q, fun _ _ _ _ _ => rfl⟩
theorem eqN_rw9 (S : PS) (n : Nat) (f : Nat → Int64) : eqN S (rw9 S n f) n := ⟨rfl, fun _ _ _ _ => rfl, fun c r k _ q => by rw [sJ_rw9, if_neg q]⟩
theorem eqN_rwk (S : PS) (n : Nat) (g o : Nat → Int64) (k : Nat) : eqN S (rwk S n g o k) n := eqN_rw9 S n _
theorem eqN.lk {S S2 : PS} {n : Nat} (h : eqN S S2 n) (hS : lkX S) : lkX S2 := lkX_of hS h.1
/-- the next number has a score of this head, whose first z levels are g's; nothing else has changed -/
def nw (S S2 : PS) (n : Nat) (a b : Int32) (z : Nat) (g : Nat → Int64) : Prop := eqN S (uI S2 5 0 1 (nI n)) n ∧ sI S2 5 0 1 = nI (n + 1) ∧ sI S2 2 n 0 = a ∧ sI S2 2 n 1 = b ∧ sI S2 2 n 2 = nI z ∧ ∀ k, k < z → sJ S2 9 n k = g k
/-- a score's head, as it is made: shape, hard, size -/
def mkH (sh h : Int32) : Int32 := if sh = 3 then h else if sh = 0 then 0 else 1
def mkZ (sh h s : Int32) : Int32 := if sh = 3 then h + s else sh + 1
def spMake (n : Nat) (sh h s v : Int32) (same new : Prop) : Prop :=
  if inN sh 4 then (if sh = 3 ∧ (6 < h.toInt ∨ 6 < s.toInt ∨ (h = 0 ∧ s = 0)) then v = -3 ∧ same else if n = 60 then v = -4 ∧ same else if sh = 3 ∧ (h.toInt < 0 ∨ s.toInt < 0) then v = -14 ∧ same else v = nI n ∧ new) else v = -3 ∧ same
def spNothing (n : Nat) (v : Int32) (same new : Prop) : Prop := if n = 60 then v = -4 ∧ same else v = nI n ∧ new
def spSet (n : Nat) (sh sz : Nat → Int32) (i k v : Int32) (same eff : Prop) : Prop :=
  if inN i n then (if sh (jn i) = -1 then v = -11 ∧ same else if inN k (sz (jn i)).toInt then v = 1 ∧ eff else v = -13 ∧ same) else v = -2 ∧ same
def spTold (n : Nat) (sh hd sz : Nat → Int32) (F : Prop) (i w v : Int32) (same : Prop) : Prop :=
  if inN i n then (if inN w 4 then (if sh (jn i) = -1 then v = -11 ∧ same else if w = 0 then v = sh (jn i) ∧ same else if w = 1 then v = hd (jn i) ∧ same else if w = 2 then v = sz (jn i) ∧ same else ((v = 1 ∧ F) ∨ (v = 0 ∧ ¬ F)) ∧ same) else v = -3 ∧ same) else v = -2 ∧ same
def spOrder (n : Nat) (sh hd sz : Nat → Int32) (lv : Nat → Nat → Int64) (a b v : Int32) (same : Prop) : Prop :=
  if inN a n ∧ inN b n then (if pairF (sh (jn a)) (hd (jn a)) (sz (jn a)) (sh (jn b)) (hd (jn b)) (sz (jn b)) = 0 then v = cmpG (lv (jn a)) (lv (jn b)) (jn (sz (jn a))) 0 + 2 ∧ same else v = pairF (sh (jn a)) (hd (jn a)) (sz (jn a)) (sh (jn b)) (hd (jn b)) (sz (jn b)) ∧ same) else v = -2 ∧ same
theorem nw_of {S S3 : PS} {n z : Nat} {a b : Int32} {g : Nat → Int64} (hE : eqN S S3 n) (hn : sI S 5 0 1 = nI n) (h0 : sI S3 2 n 0 = a) (h1 : sI S3 2 n 1 = b) (h2 : sI S3 2 n 2 = nI z) (hg : ∀ k, k < z → sJ S3 9 n k = g k) : nw S (uI S3 5 0 1 (nI (n + 1))) n a b z g := by
  refine ⟨⟨hE.1, fun c r k q => ?_, hE.2.2⟩, ?_, ?_, ?_, ?_, hg⟩
  · rw [sI_uI]
    by_cases h : c = 5 ∧ r = 0 ∧ k = 1
    · obtain ⟨rfl, rfl, rfl⟩ := h; rw [if_pos ⟨rfl, rfl, rfl⟩, hn]
    · rw [if_neg h, sI_uI, if_neg h]; exact hE.2.1 c r k q
  · rw [sI_uI, if_pos ⟨rfl, rfl, rfl⟩]
  · rw [sI_uI, if_neg (by simp)]; exact h0
  · rw [sI_uI, if_neg (by simp)]; exact h1
  · rw [sI_uI, if_neg (by simp)]; exact h2
theorem i32_add {x y : Int32} (h1 : -2147483648 ≤ x.toInt + y.toInt) (h2 : x.toInt + y.toInt < 2147483648) : (x + y).toInt = x.toInt + y.toInt := by
  rw [Int32.toInt_add, Int.bmod_eq_of_le (by omega) (by omega)]
theorem i32_0 : (0 : Int32).toInt = 0 := rfl
theorem i32_1 : (1 : Int32).toInt = 1 := rfl
theorem i32_3 : (3 : Int32).toInt = 3 := rfl
theorem i32_6 : (6 : Int32).toInt = 6 := rfl
theorem nI_jn {x : Int32} (h : 0 ≤ x.toInt) : x = nI (jn x) := jn_eq (n := 2147483648) ⟨h, i32_hi x⟩
/-- a score laid at place r: its head, its first z levels; nothing else has changed -/
def hs (S S2 : PS) (r : Nat) (a b : Int32) (z : Nat) (g : Nat → Int64) : Prop := eqN S S2 r ∧ sI S2 2 r 0 = a ∧ sI S2 2 r 1 = b ∧ sI S2 2 r 2 = nI z ∧ ∀ k, k < z → sJ S2 9 r k = g k
theorem hs_rwk (S : PS) (r : Nat) (a b c : Int32) (z : Nat) (hc : c = nI z) (g o : Nat → Int64) : hs S (rwk (fm S r a b c) r g o z) r a b z g :=
  ⟨(eqN_fm S r _ _ _).tr (eqN_rwk _ r _ _ _), sI_fm0 _ _ _ _ _, sI_fm1 _ _ _ _ _, by rw [sI_rwk, sI_fm2]; exact hc, fun k hk => by rw [sJ_rwk_s, if_pos hk]⟩
theorem hs.nw {S S3 : PS} {n z : Nat} {a b : Int32} {g : Nat → Int64} (h : hs S S3 n a b z g) (hn : sI S 5 0 1 = nI n) : nw S (uI S3 5 0 1 (nI (n + 1))) n a b z g := nw_of h.1 hn h.2.1 h.2.2.1 h.2.2.2.1 h.2.2.2.2
theorem hs.of4 {S S1 S2 : PS} {r z : Nat} {a b : Int32} {g : Nat → Int64} (h : hs S S1 r a b z g) (e : eq4 S1 S2) : hs S S2 r a b z g :=
  ⟨h.1.tr (e.N r), by rw [e.1]; exact h.2.1, by rw [e.1]; exact h.2.2.1, by rw [e.1]; exact h.2.2.2.1, fun k hk => by rw [e.j9]; exact h.2.2.2.2 k hk⟩
theorem hs.eqg {S S1 : PS} {r z : Nat} {a b : Int32} {g g' : Nat → Int64} (h : hs S S1 r a b z g) (e : ∀ k, k < z → g k = g' k) : hs S S1 r a b z g' := ⟨h.1, h.2.1, h.2.2.1, h.2.2.2.1, fun k hk => (h.2.2.2.2 k hk).trans (e k hk)⟩
theorem hs.n {S S1 : PS} {r z : Nat} {a b : Int32} {g : Nat → Int64} (h : hs S S1 r a b z g) : sI S1 5 0 1 = sI S 5 0 1 := h.1.2.1 5 0 1 (by simp)
/-- act: what comes of two rows of z levels; whether a level is beyond 64 bits -/
def cG (t : Int32) (x y : Nat → Int64) (z : Nat) : Nat → Int64 := if t = 0 then (fun j => x j + y j) else if t = 1 then (fun j => x j - y j) else if t = 2 then (if cmpG x y z 0 < 0 then y else x) else if t = 3 then (if 0 < cmpG x y z 0 then y else x) else if t = 4 then (fun j => if y j < x j then x j else y j) else (fun j => if y j < x j then y j else x j)
def ovP (t : Int32) (x y : Nat → Int64) (z : Nat) : Prop := (t = 0 ∧ ∃ k, k < z ∧ ¬ in64 ((x k).toInt + (y k).toInt)) ∨ (t = 1 ∧ ∃ k, k < z ∧ ¬ in64 ((x k).toInt - (y k).toInt))
def spAct (n : Nat) (sh hd sz : Nat → Int32) (lv : Nat → Nat → Int64) (t a b v : Int32) (same : Prop) (new : (Nat → Int64) → Prop) : Prop :=
  if inN a n ∧ inN b n then (if inN t 6 then (if n = 60 then v = -4 ∧ same else if pairF (sh (jn a)) (hd (jn a)) (sz (jn a)) (sh (jn b)) (hd (jn b)) (sz (jn b)) = 0 then ((¬ ovP t (lv (jn a)) (lv (jn b)) (jn (sz (jn a))) ∧ v = nI n ∧ new (cG t (lv (jn a)) (lv (jn b)) (jn (sz (jn a))))) ∨ (ovP t (lv (jn a)) (lv (jn b)) (jn (sz (jn a))) ∧ v = -16 ∧ same)) else v = pairF (sh (jn a)) (hd (jn a)) (sz (jn a)) (sh (jn b)) (hd (jn b)) (sz (jn b)) ∧ same) else v = -3 ∧ same) else v = -2 ∧ same
/-- times: the fraction with a divisor above 0 -/
def tU (u d : Int32) : Int := if d.toInt < 0 then -u.toInt else u.toInt
def tD (d : Int32) : Int := if d.toInt < 0 then -d.toInt else d.toInt
def qG (u d : Int32) (x : Int64) : Int := x.toInt * tU u d / tD d
def spTimes (n : Nat) (sh sz : Nat → Int32) (lv : Nat → Nat → Int64) (a u d v : Int32) (same : Prop) (new : (Nat → Int64) → Prop) : Prop :=
  if inN a n then (if n = 60 then v = -4 ∧ same else if sh (jn a) = -1 then v = -11 ∧ same else if d = 0 then v = -15 ∧ same else (((∀ k, k < jn (sz (jn a)) → in64 (qG u d (lv (jn a) k))) ∧ v = nI n ∧ new (fun k => Int64.ofInt (qG u d (lv (jn a) k)))) ∨ (¬ (∀ k, k < jn (sz (jn a)) → in64 (qG u d (lv (jn a) k))) ∧ v = -16 ∧ same))) else v = -2 ∧ same
def spPut (tl : Nat) (c v : Int32) (same eff : Prop) : Prop := if inN c 128 then (if tl = 300 then v = -4 ∧ same else v = nI (tl + 1) ∧ eff) else v = -3 ∧ same
def spOut (pl : Nat) (ob : Nat → Int32) (i v : Int32) (same : Prop) : Prop := (if inN i pl then v = ob (jn i) else v = -1) ∧ same
def spPlan (n nr : Nat) (sh : Nat → Int32) (a v : Int32) (same eff : Prop) : Prop := if inN a n then (if sh (jn a) = -1 then v = -11 ∧ same else v = nI nr ∧ eff) else v = -2 ∧ same
def spRule (n nr : Nat) (sh hd sz : Nat → Int32) (ps ph pz : Int32) (a v : Int32) (same eff : Prop) : Prop :=
  if inN a n then (if nr = 12 then v = -4 ∧ same else if pairF (sh (jn a)) (hd (jn a)) (sz (jn a)) ps ph pz = 0 then v = nI nr ∧ eff else v = pairF (sh (jn a)) (hd (jn a)) (sz (jn a)) ps ph pz ∧ same) else v = -2 ∧ same
def spCount (nr : Nat) (cn : Nat → Int32) (F : Prop) (i q v : Int32) (same eff : Prop) : Prop :=
  if inN i nr then (if inN q 1000001 then ((F ∧ v = cn (jn i) ∧ eff) ∨ (¬ F ∧ v = -16 ∧ same)) else v = -3 ∧ same) else v = -2 ∧ same
def spWeight (n nr : Nat) (sh hd sz : Nat → Int32) (ps ph pz : Int32) (F : Prop) (i a v : Int32) (same eff : Prop) : Prop :=
  if inN i nr ∧ inN a n then (if pairF (sh (jn a)) (hd (jn a)) (sz (jn a)) ps ph pz = 0 then ((F ∧ v = 1 ∧ eff) ∨ (¬ F ∧ v = -16 ∧ same)) else v = pairF (sh (jn a)) (hd (jn a)) (sz (jn a)) ps ph pz ∧ same) else v = -2 ∧ same
def spTotal (n nr : Nat) (i v : Int32) (same : Prop) (sum : Prop) (part : Nat → Prop) : Prop :=
  if i = -1 then (if n = 60 then v = -4 ∧ same else v = nI n ∧ sum) else if inN i nr then (if n = 60 then v = -4 ∧ same else v = nI n ∧ part (jn i)) else v = -2 ∧ same
def spSafe (F : Prop) (q v : Int32) (same : Prop) : Prop := if inN q 1000001 then ((v = 1 ∧ F) ∨ (v = 0 ∧ ¬ F)) ∧ same else v = -3 ∧ same
def spKeep (n : Nat) (sh hd sz : Nat → Int32) (ps ph pz : Int32) (pc : Nat) (a v : Int32) (same : Prop) (eff : Nat → Prop) : Prop :=
  if inN a n then (if pairF (sh (jn a)) (hd (jn a)) (sz (jn a)) ps ph pz = 0 then (if pc = 5 then v = -1 ∧ same else v = nI pc ∧ eff pc) else v = pairF (sh (jn a)) (hd (jn a)) (sz (jn a)) ps ph pz ∧ same) else v = -2 ∧ same
def spKept (n nh : Nat) (i v : Int32) (same : Prop) (new : Nat → Prop) : Prop := if inN i nh then (if n = 60 then v = -4 ∧ same else v = nI n ∧ new (jn i)) else v = -2 ∧ same
def spMany (n nr nh tl pl : Nat) (i v : Int32) (same : Prop) : Prop := (if i = 0 then v = nI n else if i = 1 then v = nI nr else if i = 2 then v = nI nh else if i = 3 then v = nI tl else if i = 4 then v = nI pl else v = -3) ∧ same
def spDrop (n : Nat) (v : Int32) (same eff : Prop) : Prop := if n = 0 then v = -2 ∧ same else v = nI (n - 1) ∧ eff
theorem sw3 (x : Int32) : x = 0 ∨ x = 1 ∨ x = 2 ∨ (x.toInt < 0 ∨ 2 < x.toInt) := by
  have h : ∀ y : Int32, x = y ↔ x.toInt = y.toInt := fun y => Int32.toInt_inj.symm
  rw [h, h, h, i32_0, i32_1, show (2 : Int32).toInt = 2 from rfl]
  omega
theorem sw5 (x : Int32) : x = 0 ∨ x = 1 ∨ x = 2 ∨ x = 3 ∨ x = 4 ∨ (x.toInt < 0 ∨ 4 < x.toInt) := by
  have h : ∀ y : Int32, x = y ↔ x.toInt = y.toInt := fun y => Int32.toInt_inj.symm
  rw [h, h, h, h, h, i32_0, i32_1, i32_3, show (2 : Int32).toInt = 2 from rfl, show (4 : Int32).toInt = 4 from rfl]
  omega
theorem byte128 : ∀ k, k < 128 → vp_nar .byte ((nI k).toInt8.toInt32) = nI k := by decide +kernel
theorem feas_of {v : Int32} {z : Nat} {f : Nat → Int64} (h : (v = 1 ∧ ∀ k, k < z → ¬ f k < 0) ∨ (v = 0 ∧ ∃ k, k < z ∧ f k < 0)) : (v = 1 ∧ ∀ k, k < z → ¬ f k < 0) ∨ (v = 0 ∧ ¬ ∀ k, k < z → ¬ f k < 0) := by
  rcases h with h | ⟨h, k, hk, hf⟩
  · exact Or.inl h
  · exact Or.inr ⟨h, fun q => q k hk hf⟩
