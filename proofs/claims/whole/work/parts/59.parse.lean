/-! Reading: the tape as a function, a number at a place, words, rows. -/
def hr (T : Nat → Int32) (tl p : Nat) : Int32 := if p < tl then T p else -1
abbrev dig (x : Int32) : Prop := 48 ≤ x.toInt ∧ x.toInt ≤ 57
def dgv (x : Int32) : Int32 := if dig x then x - 48 else -1
def lo (b : Bool) : Int := if b then -9223372036854775808 else -9223372036854775807
def gat (h : Nat → Int32) (b : Bool) : Nat → Nat → Int → Nat × Int × Bool
  | 0, q, V => (q, V, false)
  | f + 1, q, V => if dig (h q) then (if lo b ≤ 10 * V - ((h q).toInt - 48) then gat h b f (q + 1) (10 * V - ((h q).toInt - 48)) else (q, V, true)) else (q, V, false)
def gatC (h : Nat → Int32) (b : Bool) (most : Nat) : Nat → Nat → Nat → Int → Nat × Int
  | 0, _, q, V => (q, V)
  | f + 1, i, q, V => if i < most ∧ dig (h q) ∧ lo b ≤ 10 * V - ((h q).toInt - 48) then gatC h b most f (i + 1) (q + 1) (10 * V - ((h q).toInt - 48)) else (q, V)
theorem hr_dig {T : Nat → Int32} {tl p : Nat} (h : dig (hr T tl p)) : p < tl := by
  apply Classical.byContradiction
  intro q
  unfold hr at h
  rw [if_neg q] at h
  exact absurd h.1 (by decide)
theorem hr_end {T : Nat → Int32} {tl p : Nat} (h : tl ≤ p) : hr T tl p = -1 := if_neg (by omega)
theorem hr_lt {T : Nat → Int32} {tl p : Nat} (h : p < tl) : hr T tl p = T p := if_pos h
theorem ndig_end {T : Nat → Int32} {tl p : Nat} (h : tl ≤ p) : ¬ dig (hr T tl p) := fun q => absurd (hr_dig q) (by omega)
theorem dgv_dig {x : Int32} (h : dig x) : (dgv x).toInt = x.toInt - 48 := by
  unfold dgv
  rw [if_pos h, Int32.toInt_sub, show (48 : Int32).toInt = 48 from rfl, Int.bmod_eq_of_le (by omega) (by omega)]
theorem dgv_neg {x : Int32} : dgv x < 0 ↔ ¬ dig x := by
  rw [Int32.lt_iff_toInt_lt, i32_0]
  by_cases h : dig x
  · rw [dgv_dig h]; constructor
    · intro q; omega
    · intro q; exact absurd h q
  · unfold dgv; rw [if_neg h]; exact ⟨fun _ => h, fun _ => by decide⟩
theorem pow10_s {i : Nat} (h : 1 ≤ i) : (10 : Int) ^ i = 10 * 10 ^ (i - 1) := by
  obtain ⟨j, rfl⟩ : ∃ j, i = j + 1 := ⟨i - 1, by omega⟩
  rw [Int.pow_succ, Int.mul_comm]; rfl
theorem gatC_gat {h : Nat → Int32} {b : Bool} : ∀ (f i q : Nat) (V : Int), 1 ≤ i → i ≤ 19 → V ≤ -((10 : Int) ^ (i - 1)) → gatC h b 19 f i q V = ((gat h b f q V).1, (gat h b f q V).2.1) := by
  intro f
  induction f with
  | zero => intro i q V _ _ _; rfl
  | succ f ih =>
    intro i q V h1 h2 hV
    unfold gatC gat
    by_cases hd : dig (h q)
    · rw [if_pos hd]
      by_cases hf : lo b ≤ 10 * V - ((h q).toInt - 48)
      · have hi : i < 19 := by
          apply Classical.byContradiction
          intro hh
          have e : i = 19 := by omega
          subst e
          have e2 : (10 : Int) ^ (19 - 1) = 1000000000000000000 := by decide
          rw [e2] at hV
          unfold lo at hf
          split at hf <;> omega
        rw [if_pos ⟨hi, hd, hf⟩, if_pos hf]
        refine ih (i + 1) (q + 1) _ (by omega) (by omega) ?_
        rw [show i + 1 - 1 = i by omega, pow10_s h1]
        omega
      · rw [if_neg (fun x => hf x.2.2), if_neg hf]
    · rw [if_neg (fun x => hd x.2.1), if_neg hd]
/-- a number: the place behind it, its value, 0: none stands here, 1: fine, 2: a digit too many -/
def mp (h : Nat → Int32) (p : Nat) : Nat := if h p = 45 then p + 1 else p
abbrev noN (h : Nat → Int32) (p : Nat) : Prop := ¬ dig (h (mp h p)) ∨ (h p = 45 ∧ h (mp h p) = 48)
abbrev bN (h : Nat → Int32) (p : Nat) : Bool := decide (h p = 45)
abbrev gN0 (h : Nat → Int32) (tl p : Nat) : Nat × Int × Bool := gat h (bN h p) (tl - (mp h p + 1)) (mp h p + 1) (-((h (mp h p)).toInt - 48))
def num (h : Nat → Int32) (tl p : Nat) : Nat × Int × Nat :=
  if ¬ dig (h (mp h p)) ∨ (h p = 45 ∧ h (mp h p) = 48) then (mp h p, 0, 0) else if h (mp h p) = 48 then (mp h p + 1, 0, 1)
  else ((gN0 h tl p).1, (if h p = 45 then (gN0 h tl p).2.1 else -(gN0 h tl p).2.1), if (gN0 h tl p).2.2 then 2 else 1)
theorem num_0 {h : Nat → Int32} {tl p : Nat} (q : noN h p) : num h tl p = (mp h p, 0, 0) := if_pos q
theorem num_1 {h : Nat → Int32} {tl p : Nat} (q : ¬ noN h p) : (num h tl p).2.2 ≠ 0 := by
  unfold num
  rw [if_neg q]
  split
  · exact fun x => absurd x (show ¬ (1 : Nat) = 0 by decide)
  · show (if (gN0 h tl p).2.2 then 2 else 1) ≠ 0
    split <;> decide
theorem gat_at {T : Nat → Int32} {tl : Nat} {b : Bool} : ∀ (f q : Nat) (V : Int), q + f = tl → (gat (hr T tl) b f q V).1 ≤ tl ∧ q ≤ (gat (hr T tl) b f q V).1 ∧ ((gat (hr T tl) b f q V).2.2 = true → dig (hr T tl (gat (hr T tl) b f q V).1)) := by
  intro f
  induction f with
  | zero => intro q V h; exact ⟨by show q ≤ tl; omega, Nat.le_refl _, fun x => absurd x Bool.false_ne_true⟩
  | succ f ih =>
    intro q V h
    unfold gat
    by_cases hd : dig (hr T tl q)
    · rw [if_pos hd]
      by_cases hf : lo b ≤ 10 * V - ((hr T tl q).toInt - 48)
      · rw [if_pos hf]
        obtain ⟨a1, a2, a3⟩ := ih (q + 1) (10 * V - ((hr T tl q).toInt - 48)) (by omega)
        exact ⟨a1, by omega, a3⟩
      · rw [if_neg hf]; exact ⟨by show q ≤ tl; omega, Nat.le_refl _, fun _ => hd⟩
    · rw [if_neg hd]; exact ⟨by show q ≤ tl; omega, Nat.le_refl _, fun x => absurd x Bool.false_ne_true⟩
theorem mp_le {T : Nat → Int32} {tl p : Nat} (h : p ≤ tl) : mp (hr T tl) p ≤ tl := by
  unfold mp
  split
  · rename_i q
    have : p < tl := by
      apply Classical.byContradiction
      intro x
      rw [hr_end (by omega)] at q
      exact absurd q (by decide)
    omega
  · exact h
theorem num_le {T : Nat → Int32} {tl p : Nat} (h : p ≤ tl) : (num (hr T tl) tl p).1 ≤ tl ∧ ((num (hr T tl) tl p).2.2 = 2 → dig (hr T tl (num (hr T tl) tl p).1)) := by
  have hm := mp_le (T := T) h
  unfold num
  split
  · exact ⟨hm, fun x => absurd x (show ¬ (0 : Nat) = 2 by decide)⟩
  · rename_i q
    have hd : dig (hr T tl (mp (hr T tl) p)) := Classical.byContradiction fun x => q (Or.inl x)
    have hlt := hr_dig hd
    split
    · exact ⟨hlt, fun x => absurd x (show ¬ (1 : Nat) = 2 by decide)⟩
    · obtain ⟨a1, a2, a3⟩ := gat_at (T := T) (tl := tl) (b := bN (hr T tl) p) (tl - (mp (hr T tl) p + 1)) (mp (hr T tl) p + 1) (-((hr T tl (mp (hr T tl) p)).toInt - 48)) (by omega)
      refine ⟨a1, fun x => a3 ?_⟩
      apply Classical.byContradiction
      intro y
      have e : (if (gN0 (hr T tl) tl p).2.2 then 2 else 1) = 2 := x
      rw [if_neg y] at e
      exact absurd e (by decide)
/-- the class gathers the same -/
theorem gatC_num {T : Nat → Int32} {tl p : Nat} (q : ¬ noN (hr T tl) p) (hp : p ≤ tl) : gatC (hr T tl) (bN (hr T tl) p) (if dgv (hr T tl (mp (hr T tl) p)) = 0 then 1 else 19) (tl - mp (hr T tl) p) 0 (mp (hr T tl) p) 0 = ((num (hr T tl) tl p).1, if hr T tl p = 45 then (num (hr T tl) tl p).2.1 else -(num (hr T tl) tl p).2.1) := by
  have hd : dig (hr T tl (mp (hr T tl) p)) := Classical.byContradiction fun x => q (Or.inl x)
  have hlt := hr_dig hd
  obtain ⟨f, hf⟩ : ∃ f, tl - mp (hr T tl) p = f + 1 := ⟨tl - mp (hr T tl) p - 1, by omega⟩
  have hf2 : tl - (mp (hr T tl) p + 1) = f := by omega
  have hz : dgv (hr T tl (mp (hr T tl) p)) = 0 ↔ hr T tl (mp (hr T tl) p) = 48 := by
    rw [← Int32.toInt_inj, dgv_dig hd, i32_0, ← Int32.toInt_inj, show (48 : Int32).toInt = 48 from rfl]
    omega
  have hlo : ∀ b d, 0 ≤ d → d ≤ 9 → lo b ≤ 10 * 0 - d := by intro b d h1 h2; unfold lo; split <;> omega
  unfold num
  rw [if_neg q, hf]
  by_cases h0 : hr T tl (mp (hr T tl) p) = 48
  · rw [if_pos (hz.mpr h0), if_pos h0]
    unfold gatC
    rw [if_pos ⟨by decide, hd, hlo _ _ (by omega) (by omega)⟩, h0]
    cases f with
    | zero => simp [gatC, show (48 : Int32).toInt = 48 from rfl]
    | succ f => unfold gatC; rw [if_neg (fun x => absurd x.1 (by decide))]; simp [show (48 : Int32).toInt = 48 from rfl]
  · rw [if_neg (fun x => h0 (hz.mp x)), if_neg h0]
    unfold gatC
    rw [if_pos ⟨by decide, hd, hlo _ _ (by omega) (by omega)⟩, show 10 * (0 : Int) - ((hr T tl (mp (hr T tl) p)).toInt - 48) = -((hr T tl (mp (hr T tl) p)).toInt - 48) by omega]
    have hne : (hr T tl (mp (hr T tl) p)).toInt ≠ 48 := fun x => h0 (Int32.toInt_inj.mp (x.trans (show (48 : Int) = (48 : Int32).toInt from rfl)))
    rw [gatC_gat f 1 _ _ (by decide) (by decide) (by show _ ≤ -((10 : Int) ^ 0); rw [Int.pow_zero]; omega)]
    simp only [gN0, hf2]
    by_cases h45 : hr T tl p = 45
    · simp only [if_pos h45]
    · simp only [if_neg h45, Int.neg_neg]
/-- a word -/
def wrd (h : Nat → Int32) : List Int32 → Nat → Nat × Bool
  | [], p => (p, true)
  | c :: w, p => if h p = c then wrd h w (p + 1) else (p, false)
theorem wrd_le {T : Nat → Int32} {tl : Nat} : ∀ (w : List Int32) (p : Nat), p ≤ tl → (∀ c ∈ w, ¬ c = -1) → (wrd (hr T tl) w p).1 ≤ tl := by
  intro w
  induction w with
  | nil => intro p h _; exact h
  | cons c w ih =>
    intro p h hc
    unfold wrd
    by_cases q : hr T tl p = c
    · rw [if_pos q]
      refine ih (p + 1) ?_ (fun x hx => hc x (List.mem_cons_of_mem _ hx))
      apply Classical.byContradiction
      intro x
      rw [hr_end (by omega)] at q
      exact hc c (List.mem_cons_self ..) q.symm
    · rw [if_neg q]; exact h
theorem wrd_dig {h : Nat → Int32} {c : Int32} {w : List Int32} {p : Nat} (hc : ¬ dig c) (hd : dig (h p)) : wrd h (c :: w) p = (p, false) := by
  unfold wrd
  exact if_neg (fun (q : h p = c) => hc (q ▸ hd))
theorem uI_self (S : PS) (c r k : Nat) {v : Int32} (h : sI S c r k = v) : uI S c r k v = S := by
  refine PS_ext (fun c' r' k' => ?_) (fun _ _ _ => rfl) (fun _ _ _ => rfl)
  rw [sI_uI]
  by_cases q : c' = c ∧ r' = r ∧ k' = k
  · obtain ⟨rfl, rfl, rfl⟩ := q; rw [if_pos ⟨rfl, rfl, rfl⟩, h]
  · rw [if_neg q]
theorem uI_uI (S : PS) (c r k : Nat) (v v' : Int32) : uI (uI S c r k v) c r k v' = uI S c r k v' := by
  refine PS_ext (fun c' r' k' => ?_) (fun _ _ _ => rfl) (fun _ _ _ => rfl)
  rw [sI_uI, sI_uI, sI_uI]
  by_cases h : c' = c ∧ r' = r ∧ k' = k
  · rw [if_pos h, if_pos h]
  · rw [if_neg h, if_neg h, if_neg h]
theorem fit_C {V d : Int} {b : Bool} (hV : V ≤ 0) (hV2 : lo b ≤ V) (h0 : 0 ≤ d) (h9 : d ≤ 9) : (lo b + d).tdiv 10 ≤ V ↔ lo b ≤ 10 * V - d := by
  have e : (lo b + d).tdiv 10 = -((-(lo b) - d) / 10) := by
    rw [show lo b + d = -(-(lo b) - d) by omega, Int.neg_tdiv, Int.tdiv_eq_ediv_of_nonneg (by unfold lo; split <;> omega)]
  rw [e]
  unfold lo at *
  split <;> rename_i hb <;> simp only [hb] at * <;> omega
