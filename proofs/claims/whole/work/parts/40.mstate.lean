/-! The reference's pool: the object is place 0 of kind 6; int rows (kind 8): 0 shapes, 1 hards, 2 sizes, 3 counts, 4 tape, 5 out; long rows (kind 9): 0 levels, 1 weights, 2 keeps, 3 had. -/
def okM (G : GT) : Prop := (6, 0) ∈ gP G ∧ (∀ r, r < 6 → (8, r) ∈ gP G) ∧ (∀ r, r < 4 → (9, r) ∈ gP G) ∧ gN G 8 0 = 61 ∧ gN G 8 1 = 61 ∧ gN G 8 2 = 61 ∧ gN G 8 3 = 12 ∧ gN G 8 4 = 300 ∧ gN G 8 5 = 400 ∧ gN G 9 0 = 732 ∧ gN G 9 1 = 144 ∧ gN G 9 2 = 72 ∧ gN G 9 3 = 12
theorem oM6 {G : GT} (h : okM G) : (6, 0) ∈ gP G := h.1
theorem oM8 {G : GT} (h : okM G) {r : Nat} (hr : r < 6) : (8, r) ∈ gP G := h.2.1 r hr
theorem oM9 {G : GT} (h : okM G) {r : Nat} (hr : r < 4) : (9, r) ∈ gP G := h.2.2.1 r hr
theorem nM80 {G : GT} (h : okM G) : gN G 8 0 = 61 := h.2.2.2.1
theorem nM81 {G : GT} (h : okM G) : gN G 8 1 = 61 := h.2.2.2.2.1
theorem nM82 {G : GT} (h : okM G) : gN G 8 2 = 61 := h.2.2.2.2.2.1
theorem nM83 {G : GT} (h : okM G) : gN G 8 3 = 12 := h.2.2.2.2.2.2.1
theorem nM84 {G : GT} (h : okM G) : gN G 8 4 = 300 := h.2.2.2.2.2.2.2.1
theorem nM85 {G : GT} (h : okM G) : gN G 8 5 = 400 := h.2.2.2.2.2.2.2.2.1
theorem nM90 {G : GT} (h : okM G) : gN G 9 0 = 732 := h.2.2.2.2.2.2.2.2.2.1
theorem nM91 {G : GT} (h : okM G) : gN G 9 1 = 144 := h.2.2.2.2.2.2.2.2.2.2.1
theorem nM92 {G : GT} (h : okM G) : gN G 9 2 = 72 := h.2.2.2.2.2.2.2.2.2.2.2.1
theorem nM93 {G : GT} (h : okM G) : gN G 9 3 = 12 := h.2.2.2.2.2.2.2.2.2.2.2.2
def lkM (S : PS) : Prop := sQ S 6 0 1 = some 0 ∧ sQ S 6 0 2 = some 1 ∧ sQ S 6 0 3 = some 2 ∧ sQ S 6 0 4 = some 0 ∧ sQ S 6 0 9 = some 1 ∧ sQ S 6 0 10 = some 3 ∧ sQ S 6 0 12 = some 2 ∧ sQ S 6 0 14 = some 4 ∧ sQ S 6 0 16 = some 5 ∧ sQ S 6 0 23 = some 3
theorem lkM_of {S S' : PS} (h : lkM S) (e : sQ S' = sQ S) : lkM S' := by unfold lkM; rw [e]; exact h
/-- a row of longs of which k from place b on are g's -/
def rko (S : PS) (r b : Nat) (g o : Nat → Int64) (k : Nat) : PS := rw9 S r (fun j => if b ≤ j ∧ j < b + k then g (j - b) else o j)
theorem rko_s {S : PS} {r b : Nat} {g o : Nat → Int64} {k : Nat} {v : Int64} (hv : v = g k) : uJ (rko S r b g o k) 9 r (b + k) v = rko S r b g o (k + 1) := by
  unfold rko
  rw [uJ_rw9]
  refine rw9_eq fun j => ?_
  by_cases h1 : j = b + k
  · subst h1; rw [if_pos rfl, if_pos (by omega), hv, show b + k - b = k by omega]
  · rw [if_neg h1]
    by_cases h2 : b ≤ j ∧ j < b + k
    · rw [if_pos h2, if_pos (by omega)]
    · rw [if_neg h2, if_neg (by omega)]
theorem rko_0 {S : PS} {r b : Nat} {g o : Nat → Int64} (h : ∀ k, o k = sJ S 9 r k) : rko S r b g o 0 = S := by
  unfold rko
  rw [rw9_eq (g := fun k => sJ S 9 r k), rw9_self]
  intro k; rw [if_neg (by omega), h]
theorem sI_rko (S : PS) (r b : Nat) (g o : Nat → Int64) (k : Nat) : sI (rko S r b g o k) = sI S := rfl
theorem sQ_rko (S : PS) (r b : Nat) (g o : Nat → Int64) (k : Nat) : sQ (rko S r b g o k) = sQ S := rfl
theorem sJ_rko_n {S : PS} {r b : Nat} {g o : Nat → Int64} {k c' r' j : Nat} (h : ¬ (c' = 9 ∧ r' = r)) : sJ (rko S r b g o k) c' r' j = sJ S c' r' j := by unfold rko; rw [sJ_rw9, if_neg h]
theorem sJ_rko_in {S : PS} {r b : Nat} {g o : Nat → Int64} {k j : Nat} (h : j < k) : sJ (rko S r b g o k) 9 r (b + j) = g j := by unfold rko; rw [sJ_rw9_s, if_pos (by omega), show b + j - b = j by omega]
theorem sJ_rko_out {S : PS} {r b : Nat} {g o : Nat → Int64} {k j : Nat} (h : j < b ∨ b + k ≤ j) : sJ (rko S r b g o k) 9 r j = o j := by unfold rko; rw [sJ_rw9_s, if_neg (by omega)]
/-- what the reference lets lie about -/
def jkI (n c r k : Nat) : Prop := (c = 6 ∧ (k = 17 ∨ k = 20 ∨ k = 21)) ∨ (c = 8 ∧ r < 3 ∧ k = n)
def jkJ (n c r k : Nat) : Prop := c = 6 ∨ (c = 9 ∧ r = 3) ∨ (c = 9 ∧ r = 0 ∧ 12 * n ≤ k ∧ k < 12 * n + 12)
def eqM (S S2 : PS) (n : Nat) : Prop := sQ S2 = sQ S ∧ (∀ c r k, ¬ jkI n c r k → sI S2 c r k = sI S c r k) ∧ ∀ c r k, ¬ jkJ n c r k → sJ S2 c r k = sJ S c r k
theorem eqM.rf (S : PS) (n : Nat) : eqM S S n := ⟨rfl, fun _ _ _ _ => rfl, fun _ _ _ _ => rfl⟩
theorem eqM.tr {S S1 S2 : PS} {n : Nat} (h1 : eqM S S1 n) (h2 : eqM S1 S2 n) : eqM S S2 n := ⟨h2.1.trans h1.1, fun c r k q => (h2.2.1 c r k q).trans (h1.2.1 c r k q), fun c r k q => (h2.2.2 c r k q).trans (h1.2.2 c r k q)⟩
theorem eqM.lk {S S2 : PS} {n : Nat} (h : eqM S S2 n) (hS : lkM S) : lkM S2 := lkM_of hS h.1
theorem eqM_uI {S : PS} {n c r k : Nat} {v : Int32} (h : jkI n c r k) : eqM S (uI S c r k v) n := ⟨rfl, fun c' r' k' q => by rw [sI_uI, if_neg (fun x => q (by obtain ⟨rfl, rfl, rfl⟩ := x; exact h))], fun _ _ _ _ => rfl⟩
theorem eqM_uJ {S : PS} {n c r k : Nat} {v : Int64} (h : jkJ n c r k) : eqM S (uJ S c r k v) n := ⟨rfl, fun _ _ _ _ => rfl, fun c' r' k' q => by rw [sJ_uJ, if_neg (fun x => q (by obtain ⟨rfl, rfl, rfl⟩ := x; exact h))]⟩
theorem eqM_rko {S : PS} {n : Nat} {g o : Nat → Int64} {k : Nat} (hk : k ≤ 12) (ho : ∀ j, o j = sJ S 9 0 j) : eqM S (rko S 0 (12 * n) g o k) n :=
  ⟨rfl, fun _ _ _ _ => rfl, fun c r j q => by
    by_cases h : c = 9 ∧ r = 0
    · obtain ⟨rfl, rfl⟩ := h
      rw [sJ_rko_out, ho]
      apply Classical.byContradiction
      intro x
      exact q (Or.inr (Or.inr ⟨rfl, rfl, by omega, by omega⟩))
    · rw [sJ_rko_n h]⟩
/-- a score's head -/
def lh (S : PS) (n : Nat) (a b z : Int32) : PS := uI (uI (uI S 8 0 n a) 8 1 n b) 8 2 n z
theorem eqM_lh (S : PS) (n : Nat) (a b z : Int32) : eqM S (lh S n a b z) n := ((eqM_uI (Or.inr ⟨rfl, by decide, rfl⟩)).tr (eqM_uI (Or.inr ⟨rfl, by decide, rfl⟩))).tr (eqM_uI (Or.inr ⟨rfl, by decide, rfl⟩))
theorem sI_lh0 (S : PS) (n : Nat) (a b z : Int32) : sI (lh S n a b z) 8 0 n = a := by simp [lh, sI_uI]
theorem sI_lh1 (S : PS) (n : Nat) (a b z : Int32) : sI (lh S n a b z) 8 1 n = b := by simp [lh, sI_uI]
theorem sI_lh2 (S : PS) (n : Nat) (a b z : Int32) : sI (lh S n a b z) 8 2 n = z := by simp [lh, sI_uI]
theorem sI_lh_r {S : PS} {n : Nat} {a b z : Int32} {c' r' k' : Nat} (h : ¬ (c' = 8 ∧ r' < 3 ∧ k' = n)) : sI (lh S n a b z) c' r' k' = sI S c' r' k' := by
  unfold lh
  rw [sI_uI, if_neg (fun q => h ⟨q.1, by omega, q.2.2⟩), sI_uI, if_neg (fun q => h ⟨q.1, by omega, q.2.2⟩), sI_uI, if_neg (fun q => h ⟨q.1, by omega, q.2.2⟩)]
theorem sJ_lh (S : PS) (n : Nat) (a b z : Int32) : sJ (lh S n a b z) = sJ S := rfl
theorem sQ_lh (S : PS) (n : Nat) (a b z : Int32) : sQ (lh S n a b z) = sQ S := rfl
/-- the score laid at n with all levels 0 -/
def layM (S : PS) (n : Nat) (a b z : Int32) : PS := rko (lh S n a b z) 0 (12 * n) (fun _ => 0) (sJ S 9 0) 12
theorem eqM_layM (S : PS) (n : Nat) (a b z : Int32) : eqM S (layM S n a b z) n := (eqM_lh S n a b z).tr (eqM_rko (Nat.le_refl 12) (fun _ => rfl))
/-- the two halves -/
def wm (S : PS) (V : Int) : PS := uJ (uJ S 6 0 18 (hiL V)) 6 0 19 (loL V)
theorem sI_wm (S : PS) (V : Int) : sI (wm S V) = sI S := rfl
theorem sQ_wm (S : PS) (V : Int) : sQ (wm S V) = sQ S := rfl
theorem sJ_wm_0 (S : PS) (V : Int) : sJ (wm S V) 6 0 18 = hiL V := by simp [wm, sJ_uJ]
theorem sJ_wm_1 (S : PS) (V : Int) : sJ (wm S V) 6 0 19 = loL V := by simp [wm, sJ_uJ]
theorem sJ_wm_n {S : PS} {V : Int} {c' r' k' : Nat} (h : c' ≠ 6) : sJ (wm S V) c' r' k' = sJ S c' r' k' := by
  unfold wm
  rw [sJ_uJ, if_neg (fun q => h q.1), sJ_uJ, if_neg (fun q => h q.1)]
theorem uJ_uJ {S : PS} {c r k : Nat} {v v' : Int64} : uJ (uJ S c r k v) c r k v' = uJ S c r k v' := by
  refine PS_ext (fun _ _ _ => rfl) (fun c' r' k' => ?_) (fun _ _ _ => rfl)
  rw [sJ_uJ, sJ_uJ, sJ_uJ]
  by_cases h : c' = c ∧ r' = r ∧ k' = k
  · rw [if_pos h, if_pos h]
  · rw [if_neg h, if_neg h, if_neg h]
theorem uJ_sw {S : PS} {c r k c' r' k' : Nat} {v v' : Int64} (h : ¬ (c' = c ∧ r' = r ∧ k' = k)) : uJ (uJ S c r k v) c' r' k' v' = uJ (uJ S c' r' k' v') c r k v := by
  refine PS_ext (fun _ _ _ => rfl) (fun a b d => ?_) (fun _ _ _ => rfl)
  rw [sJ_uJ, sJ_uJ, sJ_uJ, sJ_uJ]
  by_cases h1 : a = c ∧ b = r ∧ d = k
  · rw [if_pos h1, if_neg (fun q => h ⟨q.1.symm.trans h1.1, q.2.1.symm.trans h1.2.1, q.2.2.symm.trans h1.2.2⟩), if_pos h1]
  · rw [if_neg h1, if_neg h1]
theorem wm_4 (S : PS) (a b c d : Int64) : uJ (uJ (uJ (uJ S 6 0 18 a) 6 0 19 b) 6 0 18 c) 6 0 19 d = uJ (uJ S 6 0 18 c) 6 0 19 d := by
  rw [uJ_sw (c := 6) (r := 0) (k := 19) (c' := 6) (r' := 0) (k' := 18) (by simp), uJ_uJ, uJ_uJ]
theorem wm_wm (S : PS) (V V' : Int) : wm (wm S V) V' = wm S V' := wm_4 S _ _ _ _
theorem eqM_wm (S : PS) (V : Int) (n : Nat) : eqM S (wm S V) n := (eqM_uJ (Or.inl rfl)).tr (eqM_uJ (Or.inl rfl))
theorem ix12 (a k : Nat) : (12 : Int32) * nI a + nI k = nI (12 * a + k) := by rw [show (12 : Int32) = nI 12 from rfl, pk_mul, nI_add]
theorem ix12' (a : Nat) : (12 : Int32) * nI a = nI (12 * a) := by rw [show (12 : Int32) = nI 12 from rfl, pk_mul]
theorem in_c {k : Int32} {C : Int64} {m : Int} (hC : C.toInt + 1 = m) : (0 ≤ k.toInt64 ∧ k.toInt64 ≤ C) ↔ inN k m := by
  rw [Int64.le_iff_toInt_le, Int64.le_iff_toInt_le, Int32.toInt_toInt64, show (0 : Int64).toInt = 0 from rfl]
  unfold inN
  omega
theorem in_n {k : Int32} {n : Nat} (h : n < 2 ^ 30) : (0 ≤ k.toInt64 ∧ k.toInt64 ≤ (nI n - 1).toInt64) ↔ inN k n := by
  refine in_c ?_
  rw [Int32.toInt_toInt64, show (1 : Int32) = nI 1 from rfl, pk_sub_toInt h (by decide)]
  omega
theorem in_z {k m : Int32} (h : -2147483648 < m.toInt) : (0 ≤ k.toInt64 ∧ k.toInt64 ≤ (m - 1).toInt64) ↔ inN k m.toInt := by
  refine in_c ?_
  have h2 := i32_hi m
  rw [Int32.toInt_toInt64, Int32.toInt_sub, show (1 : Int32).toInt = 1 from rfl, Int.bmod_eq_of_le (by omega) (by omega)]
  omega
/-- a score laid at place n of the reference; the same, with its number taken -/
def hsM (S S2 : PS) (n : Nat) (a b : Int32) (z : Nat) (g : Nat → Int64) : Prop := eqM S S2 n ∧ sI S2 8 0 n = a ∧ sI S2 8 1 n = b ∧ sI S2 8 2 n = nI z ∧ ∀ k, k < z → sJ S2 9 0 (12 * n + k) = g k
def nwM (S S2 : PS) (n : Nat) (a b : Int32) (z : Nat) (g : Nat → Int64) : Prop := eqM S (uI S2 6 0 0 (nI n)) n ∧ sI S2 6 0 0 = nI (n + 1) ∧ sI S2 8 0 n = a ∧ sI S2 8 1 n = b ∧ sI S2 8 2 n = nI z ∧ ∀ k, k < z → sJ S2 9 0 (12 * n + k) = g k
theorem hsM.nw {S S3 : PS} {n z : Nat} {a b : Int32} {g : Nat → Int64} (h : hsM S S3 n a b z g) (hn : sI S 6 0 0 = nI n) : nwM S (uI S3 6 0 0 (nI (n + 1))) n a b z g := by
  obtain ⟨hE, h0, h1, h2, hg⟩ := h
  refine ⟨⟨hE.1, fun c r k q => ?_, hE.2.2⟩, ?_, ?_, ?_, ?_, hg⟩
  · rw [sI_uI]
    by_cases h : c = 6 ∧ r = 0 ∧ k = 0
    · obtain ⟨rfl, rfl, rfl⟩ := h; rw [if_pos ⟨rfl, rfl, rfl⟩, hn]
    · rw [if_neg h, sI_uI, if_neg h]; exact hE.2.1 c r k q
  · rw [sI_uI, if_pos ⟨rfl, rfl, rfl⟩]
  · rw [sI_uI, if_neg (by simp)]; exact h0
  · rw [sI_uI, if_neg (by simp)]; exact h1
  · rw [sI_uI, if_neg (by simp)]; exact h2
theorem eqM.n {S S2 : PS} {n : Nat} (h : eqM S S2 n) (k : Nat) (hk : ¬ (k = 17 ∨ k = 20 ∨ k = 21)) : sI S2 6 0 k = sI S 6 0 k := h.2.1 6 0 k (fun q => q.elim (fun x => hk x.2) (fun x => absurd x.1 (by decide)))
theorem hsM.n {S S1 : PS} {r z : Nat} {a b : Int32} {g : Nat → Int64} (h : hsM S S1 r a b z g) : sI S1 6 0 0 = sI S 6 0 0 := h.1.n 0 (by decide)
theorem lv_rep {p : Program} {l : Launch} {e : Env} {R : Room} {s : State} {m : MethodId} {args : Array Value} {below : List Frame} {meth : Method} {c : Code} {H : Heap} {locs : List Loc} {cells slots : Nat} {Q : State → Prop} {pc : Nat} {ls : Array Slot} {rest : List Value} {x y : Int32} (h : x = y) (k : W p l e R s m args below meth c H locs cells slots Q (F0 m pc ls (.int y :: rest))) : W p l e R s m args below meth c H locs cells slots Q (F0 m pc ls (.int x :: rest)) := h ▸ k
theorem hsM_lay (S : PS) (n : Nat) (a b c : Int32) (z : Nat) (hc : c = nI z) (hz : z ≤ 12) : hsM S (layM S n a b c) n a b z (fun _ => 0) :=
  ⟨eqM_layM S n a b c, sI_lh0 S n a b c, sI_lh1 S n a b c, by unfold layM; rw [sI_rko, sI_lh2]; exact hc, fun k hk => by unfold layM; rw [sJ_rko_in (by omega)]⟩
theorem pairF_ge {a b c a' b' c' : Int32} (h : 0 ≤ pairF a b c a' b' c') : pairF a b c a' b' c' = 0 := by
  unfold pairF at h ⊢
  split at h
  · exact absurd h (by decide)
  · split at h
    · rename_i h1 h2; rw [if_neg h1, if_pos h2]
    · exact absurd h (by decide)
theorem pairF_lt {a b c a' b' c' : Int32} (h : ¬ 0 ≤ pairF a b c a' b' c') : ¬ pairF a b c a' b' c' = 0 := fun q => h (by rw [q]; decide)
/-- at: what is thrown -/
def atT (n : Nat) (sh sz : Nat → Int32) (i k : Int32) : Int32 := if inN i n then (if sh (jn i) = -1 then 2 else if inN k (sz (jn i)).toInt then 0 else 1) else 1
def eqT (S S2 : PS) : Prop := sQ S2 = sQ S ∧ (∀ c r k, ¬ (c = 6 ∧ k = 17) → sI S2 c r k = sI S c r k) ∧ sJ S2 = sJ S
