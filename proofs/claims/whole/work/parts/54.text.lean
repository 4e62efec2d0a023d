/-! Texts: the bytes that are written, and where. -/
def wrP (cl kl cb rb : Nat) (S S2 : PS) (L : Nat) (t : List Int32) : Prop := sQ S2 = sQ S ∧ sJ S2 = sJ S ∧ sI S2 cl 0 kl = nI (L + t.length) ∧ (∀ j, j < t.length → sI S2 cb rb (L + j) = t.getD j 0) ∧ ∀ c r k, ¬ (c = cl ∧ r = 0 ∧ k = kl) → ¬ (c = 7 ∧ r = 2) → ¬ (c = cb ∧ r = rb ∧ L ≤ k) → sI S2 c r k = sI S c r k
section WR
variable {cl kl cb rb L : Nat} {S S1 S2 : PS} {t u : List Int32}
theorem wrP.rf (h : sI S cl 0 kl = nI L) : wrP cl kl cb rb S S L [] := ⟨rfl, rfl, h, fun j hj => absurd hj (Nat.not_lt_zero _), fun _ _ _ _ _ _ => rfl⟩
theorem wrP.n (h : wrP cl kl cb rb S S2 L t) : sI S2 cl 0 kl = nI (L + t.length) := h.2.2.1
theorem wrP.tr (h0 : cb ≠ cl) (h7 : ¬ (cb = 7 ∧ rb = 2)) (h1 : wrP cl kl cb rb S S1 L t) (h2 : wrP cl kl cb rb S1 S2 (L + t.length) u) : wrP cl kl cb rb S S2 L (t ++ u) := by
  refine ⟨h2.1.trans h1.1, h2.2.1.trans h1.2.1, ?_, ?_, ?_⟩
  · rw [h2.2.2.1, List.length_append, Nat.add_assoc]
  · intro j hj
    rw [List.length_append] at hj
    by_cases hjt : j < t.length
    · rw [h2.2.2.2.2 cb rb (L + j) (fun q => h0 q.1) h7 (fun q => by omega), h1.2.2.2.1 j hjt, List.getD_eq_getElem?_getD, List.getD_eq_getElem?_getD, List.getElem?_append_left hjt]
    · have e := h2.2.2.2.1 (j - t.length) (by omega)
      rw [show L + t.length + (j - t.length) = L + j by omega] at e
      rw [e, List.getD_eq_getElem?_getD, List.getD_eq_getElem?_getD, List.getElem?_append_right (by omega)]
  · intro c r k q1 q2 q3
    rw [h2.2.2.2.2 c r k q1 q2 (fun q => q3 ⟨q.1, q.2.1, by omega⟩), h1.2.2.2.2 c r k q1 q2 q3]
theorem wrP.ap (h0 : cb ≠ cl) (S : PS) (L : Nat) (c : Int32) : wrP cl kl cb rb S (uI (uI S cb rb L c) cl 0 kl (nI (L + 1))) L [c] := by
  refine ⟨rfl, rfl, ?_, ?_, ?_⟩
  · rw [sI_uI, if_pos ⟨rfl, rfl, rfl⟩]; rfl
  · intro j hj
    have e : j = 0 := by have : ([c] : List Int32).length = 1 := rfl; omega
    subst e
    rw [sI_uI, if_neg (fun q => h0 q.1), sI_uI, if_pos ⟨rfl, rfl, rfl⟩]; rfl
  · intro c' r k q1 q2 q3
    rw [sI_uI, if_neg q1, sI_uI, if_neg (fun q => q3 ⟨q.1, q.2.1, by omega⟩)]
theorem wrP.dg (h7 : ¬ (cb = 7 ∧ rb = 2)) (hc : cl ≠ 7) (h : wrP cl kl cb rb S S1 L t) (k : Nat) (v : Int32) : wrP cl kl cb rb S (uI S1 7 2 k v) L t := by
  refine ⟨h.1, h.2.1, ?_, ?_, ?_⟩
  · rw [sI_uI, if_neg (fun q => hc q.1)]; exact h.2.2.1
  · intro j hj
    rw [sI_uI, if_neg (fun q => h7 ⟨q.1, q.2.1⟩)]; exact h.2.2.2.1 j hj
  · intro c r j q1 q2 q3
    rw [sI_uI, if_neg (fun q => q2 ⟨q.1, q.2.1⟩)]; exact h.2.2.2.2 c r j q1 q2 q3
end WR
/-- how many digits -/
def isN (a n : Nat) : Prop := 1 ≤ n ∧ a < 10 ^ n ∧ (n = 1 ∨ 10 ^ (n - 1) ≤ a)
theorem isN_le {a n m : Nat} (h1 : isN a n) (h2 : isN a m) : m ≤ n := by
  apply Classical.byContradiction
  intro h
  rcases h2.2.2 with q | q
  · have := h1.1; omega
  · have := Nat.pow_le_pow_right (n := 10) (by decide) (show n ≤ m - 1 by omega)
    have := h1.2.1
    omega
noncomputable def nd (a : Nat) : Nat := Classical.epsilon (isN a)
theorem nd_eq {a n : Nat} (h : isN a n) : nd a = n := by
  have h2 : isN a (nd a) := Classical.epsilon_spec ⟨n, h⟩
  have := isN_le h h2
  have := isN_le h2 h
  omega
theorem isN_ex : ∀ (m a : Nat), a < 10 ^ (m + 1) → ∃ n, n ≤ m + 1 ∧ isN a n := by
  intro m
  induction m with
  | zero => intro a h; exact ⟨1, Nat.le_refl _, Nat.le_refl _, h, Or.inl rfl⟩
  | succ m ih =>
    intro a h
    by_cases q : a < 10 ^ (m + 1)
    · obtain ⟨n, h1, h2⟩ := ih a q
      exact ⟨n, by omega, h2⟩
    · exact ⟨m + 2, Nat.le_refl _, by omega, h, Or.inr (by rw [show m + 2 - 1 = m + 1 by omega]; omega)⟩
def dgs (a : Nat) : Nat → List Int32
  | 0 => []
  | n + 1 => nI (48 + a / 10 ^ n % 10) :: dgs a n
theorem dgs_len (a n : Nat) : (dgs a n).length = n := by
  induction n with
  | zero => rfl
  | succ n ih => show (dgs a n).length + 1 = _; rw [ih]
def sgT (v : Int64) : List Int32 := if v.toInt < 0 then [45] else []
noncomputable def numT (v : Int64) : List Int32 := sgT v ++ dgs v.toInt.natAbs (nd v.toInt.natAbs)
theorem numT_of {v : Int64} {n : Nat} (h : isN v.toInt.natAbs n) : numT v = sgT v ++ dgs v.toInt.natAbs n := by unfold numT; rw [nd_eq h]
theorem abs_lt (v : Int64) : v.toInt.natAbs ≤ 9223372036854775808 := by
  have h1 := i64_lo v
  have h2 := i64_hi v
  omega
theorem sgT_le (v : Int64) : (sgT v).length ≤ 1 := by unfold sgT; split <;> decide
theorem numT_le (v : Int64) : (numT v).length ≤ 20 := by
  have h := abs_lt v
  obtain ⟨n, h1, h2⟩ := isN_ex 18 v.toInt.natAbs (Nat.lt_of_le_of_lt h (by decide))
  rw [numT_of h2, List.length_append, dgs_len]
  have := sgT_le v
  omega
noncomputable def lsT (f : Nat → Int64) (a : Nat) : Nat → List Int32
  | 0 => []
  | n + 1 => lsT f a n ++ ((if n = 0 then [] else [47]) ++ numT (f (a + n)))
theorem lsT_le (f : Nat → Int64) (a n : Nat) : (lsT f a n).length ≤ 21 * n - 1 := by
  induction n with
  | zero => exact Nat.le_refl _
  | succ n ih =>
    show (lsT f a n ++ ((if n = 0 then [] else [47]) ++ numT (f (a + n)))).length ≤ _
    rw [List.length_append, List.length_append]
    have h := numT_le (f (a + n))
    by_cases h0 : n = 0
    · subst h0
      rw [if_pos rfl]
      show 0 + (0 + _) ≤ _
      omega
    · rw [if_neg h0]
      show _ + (1 + _) ≤ _
      omega
theorem lsT_congr {f g : Nat → Int64} {a : Nat} : ∀ n, (∀ k, k < n → f (a + k) = g (a + k)) → lsT f a n = lsT g a n := by
  intro n
  induction n with
  | zero => intro _; rfl
  | succ n ih =>
    intro h
    show lsT f a n ++ ((if n = 0 then [] else [47]) ++ numT (f (a + n))) = lsT g a n ++ ((if n = 0 then [] else [47]) ++ numT (g (a + n)))
    rw [ih (fun k hk => h k (by omega)), h n (by omega)]
/-- the text of a score -/
noncomputable def prT (sh : Int32) (hd sz : Nat) (f : Nat → Int64) : List Int32 := if sh = 3 then (((sTx 3 ++ lsT f 0 hd) ++ sTx 4) ++ lsT f hd (sz - hd)) ++ sTx 5 else if sh = 0 then numT (f 0) else if sh = 2 then ((((numT (f 0) ++ sTx 0) ++ numT (f 1)) ++ sTx 1) ++ numT (f 2)) ++ sTx 2 else ((numT (f 0) ++ sTx 0) ++ numT (f 1)) ++ sTx 2
/-- a whole number taken apart below 0 -/
def ng (A : Nat) : Int64 := Int64.ofInt (-(A : Int))
theorem ng_toInt {A : Nat} (h : A ≤ 9223372036854775808) : (ng A).toInt = -(A : Int) := i64_small (by omega) (by omega)
theorem i64_10 : (10 : Int64).toInt = 10 := by decide
theorem ng_div {A : Nat} (h : A ≤ 9223372036854775808) : ng A / 10 = ng (A / 10) := by
  apply Int64.toInt_inj.mp
  rw [div_pos_int (by decide), ng_toInt h, ng_toInt (by omega), i64_10, Int.neg_tdiv, Int.tdiv_eq_ediv_of_nonneg (by omega)]
  rfl
theorem ng_mod {A : Nat} (h : A ≤ 9223372036854775808) : ng A - ng A / 10 * 10 = ng (A % 10) := by
  rw [rem_int (by decide), ng_toInt h, i64_10, Int.neg_tmod, Int.tmod_eq_emod_of_nonneg (by omega)]
  rfl
theorem ng_eq0 {A : Nat} (h : A ≤ 9223372036854775808) : ng A = 0 ↔ A = 0 := by
  rw [← Int64.toInt_inj, ng_toInt h, show (0 : Int64).toInt = 0 from rfl]
  omega
theorem ng_dg : ∀ q, q < 10 → (48 - ng q).toInt32 = nI (48 + q) := by decide +kernel
theorem ng_neg {v : Int64} (h : v.toInt < 0) : v = ng v.toInt.natAbs := by
  apply Int64.toInt_inj.mp
  rw [ng_toInt (abs_lt v)]
  omega
theorem ng_pos {v : Int64} (h : ¬ v.toInt < 0) : -v = ng v.toInt.natAbs := by
  unfold ng
  rw [show -((v.toInt.natAbs : Nat) : Int) = -v.toInt by omega, Int64.ofInt_neg, Int64.ofInt_toInt]
theorem dg128 (a n : Nat) : 48 + a / 10 ^ n % 10 < 128 := by omega
theorem sTx_128 : ∀ i, i < 6 → ∀ j, j < sLen.getD i 0 → inN ((sTx i).getD j 0) 128 := by decide +kernel
theorem sTx_len : ∀ i, i < 6 → (sTx i).length = sLen.getD i 0 := by decide +kernel
theorem take_s {t : List Int32} {j : Nat} (h : j < t.length) : t.take (j + 1) = t.take j ++ [t.getD j 0] := by
  rw [List.take_succ_eq_append_getElem h, List.getD_eq_getElem?_getD, List.getElem?_eq_getElem h]
  rfl
theorem nI_m1 {m : Nat} (h : m < 2 ^ 30) : nI m - 1 < 0 ↔ m = 0 := by
  rw [Int32.lt_iff_toInt_lt, show (1 : Int32) = nI 1 from rfl, pk_sub_toInt h (by decide), i32_0]
  omega
