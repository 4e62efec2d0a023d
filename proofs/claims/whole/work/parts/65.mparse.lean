/-! The reference's reading: place and stuck as a pair. -/
def bI (b : Bool) : Int32 := if b then 1 else 0
theorem bI_0 {b : Bool} : bI b = 0 ↔ b = false := by cases b <;> decide
theorem bI_01 (b : Bool) : bI b = 0 ∨ bI b = 1 := by cases b <;> decide
def stS (S : PS) (s : Nat × Bool) : PS := uI (uI S 6 0 20 (nI s.1)) 6 0 21 (bI s.2)
def wM (h : Nat → Int32) (w : List Int32) (s : Nat × Bool) : Nat × Bool := if s.2 = true then s else ((wrd h w s.1).1, !(wrd h w s.1).2)
def fM (h : Nat → Int32) (tl : Nat) (s : Nat × Bool) : Nat × Bool := if s.2 = true then s else ((num h tl s.1).1, !decide ((num h tl s.1).2.2 = 1))
theorem wrd_app (h : Nat → Int32) (b : List Int32) : ∀ (a : List Int32) (p : Nat), wrd h (a ++ b) p = if (wrd h a p).2 = true then wrd h b (wrd h a p).1 else wrd h a p := by
  intro a
  induction a with
  | nil => intro p; exact (if_pos rfl).symm
  | cons c a ih =>
    intro p
    show wrd h (c :: (a ++ b)) p = _
    rw [wrd_c, wrd_c]
    by_cases q : h p = c
    · rw [if_pos q, if_pos q]; exact ih (p + 1)
    · rw [if_neg q, if_neg q, if_neg (show ¬ false = true from Bool.false_ne_true)]
theorem wM_app (h : Nat → Int32) (a b : List Int32) (s : Nat × Bool) : wM h b (wM h a s) = wM h (a ++ b) s := by
  unfold wM
  by_cases q : s.2 = true
  · rw [if_pos q, if_pos q, if_pos q]
  · rw [if_neg q, if_neg q, wrd_app]
    by_cases z : (wrd h a s.1).2 = true
    · rw [if_pos z, if_neg (show ¬ (!(wrd h a s.1).2) = true by rw [z]; decide)]
    · rw [if_neg z, if_pos (by rw [Bool.not_eq_true] at z; show (!(wrd h a s.1).2) = true; rw [z]; rfl)]
theorem wM_le {T : Nat → Int32} {tl : Nat} {w : List Int32} {s : Nat × Bool} (h : s.1 ≤ tl) (hc : ∀ c ∈ w, ¬ c = -1) : (wM (hr T tl) w s).1 ≤ tl := by
  unfold wM
  split
  · exact h
  · exact wrd_le _ _ h hc
theorem fM_le {T : Nat → Int32} {tl : Nat} {s : Nat × Bool} (h : s.1 ≤ tl) : (fM (hr T tl) tl s).1 ≤ tl := by
  unfold fM
  split
  · exact h
  · exact (num_le h).1
def mst (S : PS) (T : Nat → Int32) (tl n : Nat) (s : Nat × Bool) : Prop := lkM S ∧ sI S 8 4 = T ∧ sI S 6 0 13 = nI tl ∧ sI S 6 0 0 = nI n ∧ sI S 6 0 20 = nI s.1 ∧ sI S 6 0 21 = bI s.2
theorem mst.st {S : PS} {T : Nat → Int32} {tl n : Nat} {s : Nat × Bool} (h : mst S T tl n s) (s' : Nat × Bool) : mst (stS S s') T tl n s' := by
  refine ⟨h.1, ?_, ?_, ?_, ?_, ?_⟩
  · rw [← h.2.1]; exact funext fun j => by unfold stS; rw [sI_uI, if_neg (by simp), sI_uI, if_neg (by simp)]
  · unfold stS; rw [sI_uI, if_neg (by simp), sI_uI, if_neg (by simp)]; exact h.2.2.1
  · unfold stS; rw [sI_uI, if_neg (by simp), sI_uI, if_neg (by simp)]; exact h.2.2.2.1
  · unfold stS; rw [sI_uI, if_neg (by simp), sI_uI, if_pos ⟨rfl, rfl, rfl⟩]
  · unfold stS; rw [sI_uI, if_pos ⟨rfl, rfl, rfl⟩]
theorem mst.j {S : PS} {T : Nat → Int32} {tl n : Nat} {s : Nat × Bool} (h : mst S T tl n s) (c r k : Nat) (v : Int64) : mst (uJ S c r k v) T tl n s := h
theorem stS_self {S : PS} {T : Nat → Int32} {tl n : Nat} {s : Nat × Bool} (h : mst S T tl n s) : stS S s = S := by
  unfold stS
  rw [uI_self S 6 0 20 h.2.2.2.2.1, uI_self S 6 0 21 h.2.2.2.2.2]
theorem stS_2 (S : PS) (s s' : Nat × Bool) : stS (stS S s) s' = stS S s' := by
  refine PS_ext (fun c r k => ?_) (fun _ _ _ => rfl) (fun _ _ _ => rfl)
  unfold stS
  rw [sI_uI, sI_uI, sI_uI, sI_uI, sI_uI, sI_uI]
  by_cases z1 : c = 6 ∧ r = 0 ∧ k = 21
  · rw [if_pos z1, if_pos z1]
  · rw [if_neg z1, if_neg z1, if_neg z1]
    by_cases z2 : c = 6 ∧ r = 0 ∧ k = 20
    · rw [if_pos z2, if_pos z2]
    · rw [if_neg z2, if_neg z2, if_neg z2]
theorem stS_pl (S : PS) (s : Nat × Bool) (q : Nat) : uI (stS S s) 6 0 20 (nI q) = stS S (q, s.2) := by
  refine PS_ext (fun c r k => ?_) (fun _ _ _ => rfl) (fun _ _ _ => rfl)
  unfold stS
  rw [sI_uI, sI_uI, sI_uI, sI_uI, sI_uI]
  by_cases z1 : c = 6 ∧ r = 0 ∧ k = 20
  · rw [if_pos z1, if_neg (fun x => by omega), if_pos z1]
  · rw [if_neg z1, if_neg z1, if_neg z1]
theorem stS_sk (S : PS) (s : Nat × Bool) (b : Bool) : uI (stS S s) 6 0 21 (bI b) = stS S (s.1, b) := by
  unfold stS
  rw [uI_uI]
theorem eqM_st (S : PS) (s : Nat × Bool) (n : Nat) : eqM S (stS S s) n := (eqM_uI (Or.inl ⟨rfl, Or.inr (Or.inl rfl)⟩)).tr (eqM_uI (Or.inl ⟨rfl, Or.inr (Or.inr rfl)⟩))
theorem wM_s {h : Nat → Int32} {w : List Int32} {s : Nat × Bool} (q : s.2 = true) : wM h w s = s := if_pos q
theorem wM_u {h : Nat → Int32} {w : List Int32} {s : Nat × Bool} (q : s.2 = false) : wM h w s = ((wrd h w s.1).1, !(wrd h w s.1).2) := if_neg (by rw [q]; decide)
theorem fM_s {h : Nat → Int32} {tl : Nat} {s : Nat × Bool} (q : s.2 = true) : fM h tl s = s := if_pos q
theorem fM_u {h : Nat → Int32} {tl : Nat} {s : Nat × Bool} (q : s.2 = false) : fM h tl s = ((num h tl s.1).1, !decide ((num h tl s.1).2.2 = 1)) := if_neg (by rw [q]; decide)
theorem dig_64 {x : Int32} : ((48 : Int64) ≤ x.toInt64 ∧ x.toInt64 ≤ 57) ↔ dig x := by
  rw [Int64.le_iff_toInt_le, Int64.le_iff_toInt_le, Int32.toInt_toInt64, show (48 : Int64).toInt = 48 from rfl, show (57 : Int64).toInt = 57 from rfl]
def lv0 : Int64 := ltr 104 0 ||| ltr 97 1 ||| ltr 114 2 ||| ltr 100 3 ||| ltr 47 4
def lv1 : Int64 := ltr 109 0 ||| ltr 101 1 ||| ltr 100 2 ||| ltr 105 3 ||| ltr 117 4 ||| ltr 109 5 ||| ltr 47 6
theorem lv0_at : ∀ j, j < 5 → ((lv0 >>> ((7 * nI j).toInt64 &&& 63)) &&& 127).toInt32 = (sTx 0).getD j 0 := by decide +kernel
theorem lv1_at : ∀ j, j < 7 → ((lv1 >>> ((7 * nI j).toInt64 &&& 63)) &&& 127).toInt32 = (sTx 1).getD j 0 := by decide +kernel
theorem lv2_at : ∀ j, j < 4 → ((lw2 >>> ((7 * nI j).toInt64 &&& 63)) &&& 127).toInt32 = (sTx 2).getD j 0 := by decide +kernel
/-- the limit of a number, as the reference has it -/
theorem more_M {V : Int} {f : Int} {b : Bool} (h0 : 0 ≤ f) (h9 : f ≤ 9) : (V < -922337203685477580 ∨ (V = -922337203685477580 ∧ (if b = true then 8 else 7) < f)) ↔ ¬ lo b ≤ 10 * V - f := by
  unfold lo
  cases b <;> simp only [if_true, if_false, Bool.false_eq_true] <;> omega
