/-- the first place whose order is below 0; n places from k on -/
def plc (c : Nat → Int32) : Nat → Nat → Nat
  | 0, k => k
  | n + 1, k => if c k < 0 then k else plc c n (k + 1)
theorem plc_eq {c d : Nat → Int32} : ∀ n k : Nat, (∀ j, k ≤ j → j < k + n → c j = d j) → plc c n k = plc d n k := by
  intro n
  induction n with
  | zero => intro k _; rfl
  | succ n ih => intro k h; unfold plc; rw [h k (Nat.le_refl _) (by omega), ih (k + 1) (fun j a b => h j (by omega) (by omega))]
theorem plc_le (c : Nat → Int32) : ∀ n k : Nat, k ≤ plc c n k ∧ plc c n k ≤ k + n := by
  intro n
  induction n with
  | zero => intro k; exact ⟨Nat.le_refl _, Nat.le_refl _⟩
  | succ n ih =>
    intro k
    unfold plc
    split
    · omega
    · have := ih (k + 1); omega
/-- the row of the best, whole -/
def rq2 (S : PS) (f : Nat → Option Nat) : PS := (S.1, S.2.1, fun c r k => if c = 10 ∧ r = 2 then f k else S.2.2 c r k)
theorem sQ_rq2 (S : PS) (f : Nat → Option Nat) (c r k : Nat) : sQ (rq2 S f) c r k = if c = 10 ∧ r = 2 then f k else sQ S c r k := rfl
theorem sI_rq2 (S : PS) (f : Nat → Option Nat) : sI (rq2 S f) = sI S := rfl
theorem sJ_rq2 (S : PS) (f : Nat → Option Nat) : sJ (rq2 S f) = sJ S := rfl
theorem rq2_self (S : PS) : rq2 S (sQ S 10 2) = S := by
  refine PS_ext (fun _ _ _ => rfl) (fun _ _ _ => rfl) (fun c r k => ?_)
  rw [sQ_rq2]
  by_cases h : c = 10 ∧ r = 2
  · obtain ⟨rfl, rfl⟩ := h; rw [if_pos ⟨rfl, rfl⟩]
  · rw [if_neg h]
theorem uQ_rq2 (S : PS) (f : Nat → Option Nat) (k : Nat) (v : Option Nat) : uQ (rq2 S f) 10 2 k v = rq2 S (fun j => if j = k then v else f j) := by
  refine PS_ext (fun _ _ _ => rfl) (fun _ _ _ => rfl) (fun c r j => ?_)
  rw [sQ_uQ, sQ_rq2, sQ_rq2]
  by_cases h1 : c = 10 ∧ r = 2
  · obtain ⟨rfl, rfl⟩ := h1
    by_cases h2 : j = k
    · rw [if_pos ⟨rfl, rfl, h2⟩, if_pos ⟨rfl, rfl⟩, if_pos h2]
    · rw [if_neg (fun q => h2 q.2.2), if_pos ⟨rfl, rfl⟩, if_pos ⟨rfl, rfl⟩, if_neg h2]
  · rw [if_neg (fun q => h1 ⟨q.1, q.2.1⟩), if_neg h1, if_neg h1]
theorem rq2_eq {S : PS} {f g : Nat → Option Nat} (h : ∀ k, f k = g k) : rq2 S f = rq2 S g := by rw [show f = g from funext h]
theorem lkX_rq2 {S : PS} (h : lkX S) (f : Nat → Option Nat) : lkX (rq2 S f) := by
  obtain ⟨h1, h2, h3⟩ := h
  exact ⟨fun r hr => by rw [sQ_rq2, if_neg (by simp)]; exact h1 r hr, fun j hj => by rw [sQ_rq2, if_neg (by simp)]; exact h2 j hj, by simpa [sQ_rq2] using h3⟩
/-- the best from place p to m move up by one, those behind i done -/
def mvd (S : PS) (br : Nat → Nat) (m i : Nat) : PS := rq2 S (fun j => if i < j ∧ j < m then some (br (j - 1)) else sQ S 10 2 j)
theorem mvd_0 (S : PS) (br : Nat → Nat) (m : Nat) (hm : 0 < m) : mvd S br m (m - 1) = S := by
  unfold mvd
  rw [rq2_eq (g := sQ S 10 2), rq2_self]
  intro k; rw [if_neg (by omega)]
theorem mvd_s {S : PS} {br : Nat → Nat} {m i : Nat} (hi : i + 1 < m) : uQ (mvd S br m (i + 1)) 10 2 (i + 1) (some (br i)) = mvd S br m i := by
  unfold mvd
  rw [uQ_rq2]
  refine rq2_eq fun j => ?_
  by_cases h1 : j = i + 1
  · subst h1; rw [if_pos rfl, if_pos (by omega)]; rfl
  · rw [if_neg h1]
    by_cases h2 : i + 1 < j ∧ j < m
    · rw [if_pos h2, if_pos (by omega)]
    · rw [if_neg h2, if_neg (by omega)]
theorem nI_sub1 {n : Nat} (h : 0 < n) : nI n - 1 = nI (n - 1) := by
  obtain ⟨m, rfl⟩ : ∃ m, n = m + 1 := ⟨n - 1, by omega⟩
  exact nI_pred m
theorem uI_same {S : PS} {c r k : Nat} {v : Int32} (h : sI S c r k = v) : uI S c r k v = S := by
  refine PS_ext (fun c' r' k' => ?_) (fun _ _ _ => rfl) (fun _ _ _ => rfl)
  rw [sI_uI]
  by_cases q : c' = c ∧ r' = r ∧ k' = k
  · obtain ⟨rfl, rfl, rfl⟩ := q; rw [if_pos ⟨rfl, rfl, rfl⟩, h]
  · rw [if_neg q]
/-- a score laid among the best: p its place, m how many there are then -/
def admS (S : PS) (br : Nat → Nat) (m p : Nat) : PS := rq2 (uI S 1 0 5 (nI m)) (fun j => if j = p then some (br (m - 1)) else if p < j ∧ j < m then some (br (j - 1)) else sQ S 10 2 j)
theorem adm_s (S : PS) (br : Nat → Nat) (m p : Nat) : uQ (mvd (uI S 1 0 5 (nI m)) br m p) 10 2 p (some (br (m - 1))) = admS S br m p := by
  unfold mvd admS
  rw [uQ_rq2]; rfl

set_option maxHeartbeats 4000000 in
set_option maxRecDepth 100000 in
/-- Plan, letting a score in -/
theorem c_X1_admit (l : Launch) (G : GT) (hX : okX G) (S : PS) (hS : lkX S) (nh z : Nat) (br : Nat → Nat) (hh : sI S 1 0 5 = nI nh) (hh5 : nh ≤ 5) (hbr : ∀ j, j < 5 → sQ S 10 2 j = some (br j) ∧ br j < 79) (hbz : ∀ j, j < nh → sI S 2 (br j) 2 = nI z) (hz12 : z ≤ 12) (a : Nat) (ha : a < 79) (hna : ∀ j, j < 5 → a ≠ br j) (hza : sI S 2 a 2 = nI z) : CtI l G yX1_admit wsX1_admit (rmK 3 66) [.ref (gA G 1 0), .ref (gA G 2 a)] S (fun v S2 => (plc (fun j => cmpG (sJ S 9 (br j)) (sJ S 9 a) z 0) nh 0 = 5 ∧ v = -1 ∧ S2 = S) ∨ (plc (fun j => cmpG (sJ S 9 (br j)) (sJ S 9 a) z 0) nh 0 < 5 ∧ v = nI (plc (fun j => cmpG (sJ S 9 (br j)) (sJ S 9 a) z 0) nh 0) ∧ ∃ m, m = (if nh < 5 then nh + 1 else 5) ∧ S2 = rwk (fm (admS S br m (plc (fun j => cmpG (sJ S 9 (br j)) (sJ S 9 a) z 0) nh 0)) (br (m - 1)) (sI S 2 a 0) (sI S 2 a 1) (sI S 2 a 2)) (br (m - 1)) (sJ S 9 a) (sJ S 9 (br (m - 1))) z)) := by
  refine ofCtI (cc := cX1_admit) (nL := 5) RX1 (by decide +kernel) rfl rfl (Nat.le_of_ble_eq_true rfl) ?_
  intro p e s m args below meth c A Q ls C w hl hret
  have hx := C.1
  have hb := C.2.1
  have hown := C.2.2.2.1
  have hts := C.2.2.2.2.1
  have hi1 : ∀ w ∈ wsX10, w ∈ wsX1_admit := by decide +kernel
  refine lv_iconst (v := 0) hx hb dX1_admit_0 (by decide) ?_
  refine lv_istore_n hx hb dX1_admit_1 rfl hl (by decide) rfl (fun ls hl => ?_)
  have loop_2 : ∀ (n : Nat) (k : Nat) (H : Heap) (locs : List Loc) (ls : Array Slot), k + n = nh → plc (fun j => cmpG (sJ S 9 (br j)) (sJ S 9 a) z 0) nh 0 = plc (fun j => cmpG (sJ S 9 (br j)) (sJ S 9 a) z 0) n k → Wd G A s.heap S H locs → lv_has ls 5 [(0, .ref (gA G 1 0)), (1, .ref (gA G 2 a)), (2, .int (nI k))] → W p l e (rmK 3 66) s m args below meth c H locs 0 0 Q (F0 m 2 ls []) := by
    intro n
    induction n with
    | zero =>
      intro k H locs ls hk hI w hl
      refine lv_iload_n hx hb dX1_admit_2 rfl (lv_at hl 2 rfl) ?_
      refine lv_aload_n hx hb dX1_admit_3 rfl (lv_at hl 0 rfl) ?_
      refine pgI 1 5 (by decide) rfl (by decide) (Or.inl rfl) rfl C w hi1 (by decide +kernel) dX1_admit_4 (oP1 hX) (v := nI nh) hh ?_
      refine lv_icmp_ge (tgt := 29) hx hb dX1_admit_7 (by decide) (fun c_7 => ?_) (fun c_7 => absurd (nI_le (by omega) (by omega)) c_7)
      have hpk : plc (fun j => cmpG (sJ S 9 (br j)) (sJ S 9 a) z 0) nh 0 = k := hI
      have h5 : k ≤ nh := by omega
      refine lv_iload_n hx hb dX1_admit_29 rfl (lv_at hl 2 rfl) ?_
      refine lv_iconst (v := 5) hx hb dX1_admit_30 (by decide) ?_
      refine lv_icmp_lt (tgt := 36) hx hb dX1_admit_31 (by decide) (fun c_31 => ?_) (fun c_31 => ?_)
      · have hk5 : k < 5 := (nI_ltI (by omega) (by decide)).mp c_31
        refine lv_aload_n hx hb dX1_admit_36 rfl (lv_at hl 0 rfl) ?_
        refine pgI 1 5 (by decide) rfl (by decide) (Or.inl rfl) rfl C w hi1 (by decide +kernel) dX1_admit_37 (oP1 hX) (v := nI nh) hh ?_
        refine lv_iconst (v := 5) hx hb dX1_admit_40 (by decide) ?_
        refine lv_icmp_ge (tgt := 54) hx hb dX1_admit_41 (by decide) (fun c_41 => ?_) (fun c_41 => ?_)
        · have e5 : nh = 5 := by have : ¬ nh < 5 := fun q => absurd c_41 (nI_ge q (by decide)); omega
          obtain ⟨mm, em⟩ : ∃ mm, mm = (if nh < 5 then nh + 1 else 5) := ⟨_, rfl⟩
          have emm : mm = 5 := by rw [em, if_neg (by omega)]
          rw [← uI_same (v := nI mm) (show sI S 1 0 5 = nI mm by rw [hh, e5, emm])] at w
          have hkm : k < mm := by omega
          have hm5 : mm ≤ 5 := by omega
          refine lv_aload_n hx hb dX1_admit_54 rfl (lv_at hl 0 rfl) ?_
          refine pgQ 1 4 10 (by decide) rfl (by decide) rfl rfl C w hi1 (by decide +kernel) dX1_admit_55 (oP1 hX) (hS.2.2.2.2.2.2.2.2.2.2.2.2.2.1) ?_
          refine lv_aload_n hx hb dX1_admit_58 rfl (lv_at hl 0 rfl) ?_
          refine pgI 1 5 (by decide) rfl (by decide) (Or.inl rfl) rfl C w hi1 (by decide +kernel) dX1_admit_59 (oP1 hX) (v := nI mm) (by rw [sI_uI, if_pos ⟨rfl, rfl, rfl⟩]) ?_
          refine lv_iconst (v := 1) hx hb dX1_admit_62 (by decide) ?_
          refine lv_isub hx hb dX1_admit_63 ?_
          refine paQ C w dX1_admit_64 (oP10 hX (by decide)) (n := mm - 1) (nI_sub1 (by omega)) (oN102 hX) (by omega) (by decide) (r1 := br (mm - 1)) (hbr (mm - 1) (by omega)).1 ?_
          refine lv_astore_n hx hb dX1_admit_65 rfl hl (by decide) rfl (fun ls hl => ?_)
          refine lv_aload_n hx hb dX1_admit_66 rfl (lv_at hl 1 rfl) ?_
          refine pgI 1 5 (by decide) rfl (by decide) (Or.inl rfl) rfl C w hi1 (by decide +kernel) dX1_admit_67 (oP1 hX) (v := nI mm) (by rw [sI_uI, if_pos ⟨rfl, rfl, rfl⟩]) ?_
          refine lv_iconst (v := 1) hx hb dX1_admit_70 (by decide) ?_
          refine lv_isub hx hb dX1_admit_71 ?_
          refine lv_istore hx hb dX1_admit_72 hl (by decide) rfl (fun ls hl => ?_)
          have loop_74 : ∀ (n : Nat) (i : Nat) (H : Heap) (locs : List Loc) (ls : Array Slot), i = k + n → i < mm → Wd G A s.heap (mvd (uI S 1 0 5 (nI mm)) br mm i) H locs → lv_has ls 5 [(0, .ref (gA G 1 0)), (1, .ref (gA G 2 a)), (2, .int (nI k)), (3, .ref (gA G 2 (br (mm - 1)))), (4, .int (nI i))] → W p l e (rmK 3 66) s m args below meth c H locs 0 0 Q (F0 m 74 ls []) := by
            intro n
            induction n with
            | zero =>
              intro i H locs ls hi him w hl
              refine lv_iload hx hb dX1_admit_74 (lv_at hl 4 rfl) ?_
              refine lv_iload_n hx hb dX1_admit_76 rfl (lv_at hl 2 rfl) ?_
              refine lv_icmp_le (tgt := 102) hx hb dX1_admit_77 (by decide) (fun c_77 => ?_) (fun c_77 => absurd (nI_le (by omega) (by omega)) c_77)
              have ei : i = k := by omega
              subst ei
              refine lv_aload_n hx hb dX1_admit_102 rfl (lv_at hl 0 rfl) ?_
              refine pgQ 1 4 10 (by decide) rfl (by decide) rfl rfl C w hi1 (by decide +kernel) dX1_admit_103 (oP1 hX) (by show sQ (mvd (uI S 1 0 5 (nI mm)) br mm _) 1 0 4 = _; unfold mvd; rw [sQ_rq2, if_neg (by simp)]; exact (hS.2.2.2.2.2.2.2.2.2.2.2.2.2.1)) ?_
              refine lv_iload_n hx hb dX1_admit_106 rfl (lv_at hl 2 rfl) ?_
              refine lv_aload_n hx hb dX1_admit_107 rfl (lv_at hl 3 rfl) ?_
              refine psQ C w dX1_admit_108 (oP10 hX (by decide)) (oP2 hX (hbr (mm - 1) (by omega)).2) rfl (oN102 hX) (by omega) (by decide) (fun H locs w => ?_)
              rw [adm_s] at w
              have e2 : ∀ r x, sI (admS S br mm i) 2 r x = sI S 2 r x := fun r x => by unfold admS; rw [sI_rq2, sI_uI, if_neg (by simp)]
              refine lv_aload_n hx hb dX1_admit_109 rfl (lv_at hl 3 rfl) ?_
              refine lv_aload_n hx hb dX1_admit_110 rfl (lv_at hl 1 rfl) ?_
              refine cvV (n := 1) C w hl dX1_admit_111 (c_X2_copy l G hX (admS S br mm i) (lkX_rq2 (lkX_of hS rfl) _) (br (mm - 1)) a z (hbr (mm - 1) (by omega)).2 ha (hna (mm - 1) (by omega)) (by rw [e2]; exact hza) hz12) gX1_admit_X2_copy rfl (by decide +kernel) rfl rfl (Nat.le_of_ble_eq_true rfl) ⟨by decide, by decide⟩ (by decide) rfl (oP2 hX (hbr (mm - 1) (by omega)).2) (fun S4 H locs hp4 w => ?_)
              
              refine lv_iload_n hx hb dX1_admit_114 rfl (lv_at hl 2 rfl) ?_
              exact hret _ _ _ _ _ _ dX1_admit_115 w (Or.inr ⟨by rw [hpk]; omega, by rw [hpk], mm, em, by rw [hpk, hp4, e2, e2, e2]; rfl⟩)
            | succ n ih =>
              intro i H locs ls hi him w hl
              refine lv_iload hx hb dX1_admit_74 (lv_at hl 4 rfl) ?_
              refine lv_iload_n hx hb dX1_admit_76 rfl (lv_at hl 2 rfl) ?_
              refine lv_icmp_le (tgt := 102) hx hb dX1_admit_77 (by decide) (fun c_77 => absurd c_77 (nI_ge (by omega) (by omega))) (fun c_77 => ?_)
              obtain ⟨i, rfl⟩ : ∃ x, i = x + 1 := ⟨i - 1, by omega⟩
              refine lv_aload_n hx hb dX1_admit_80 rfl (lv_at hl 0 rfl) ?_
              refine pgQ 1 4 10 (by decide) rfl (by decide) rfl rfl C w hi1 (by decide +kernel) dX1_admit_81 (oP1 hX) (by show sQ (mvd (uI S 1 0 5 (nI mm)) br mm _) 1 0 4 = _; unfold mvd; rw [sQ_rq2, if_neg (by simp)]; exact (hS.2.2.2.2.2.2.2.2.2.2.2.2.2.1)) ?_
              refine lv_iload hx hb dX1_admit_84 (lv_at hl 4 rfl) ?_
              refine lv_aload_n hx hb dX1_admit_86 rfl (lv_at hl 0 rfl) ?_
              refine pgQ 1 4 10 (by decide) rfl (by decide) rfl rfl C w hi1 (by decide +kernel) dX1_admit_87 (oP1 hX) (by show sQ (mvd (uI S 1 0 5 (nI mm)) br mm _) 1 0 4 = _; unfold mvd; rw [sQ_rq2, if_neg (by simp)]; exact (hS.2.2.2.2.2.2.2.2.2.2.2.2.2.1)) ?_
              refine lv_iload hx hb dX1_admit_90 (lv_at hl 4 rfl) ?_
              refine lv_iconst (v := 1) hx hb dX1_admit_92 (by decide) ?_
              refine lv_isub hx hb dX1_admit_93 ?_
              refine paQ C w dX1_admit_94 (oP10 hX (by decide)) (n := i) (nI_pred i) (oN102 hX) (by omega) (by decide) (r1 := br i) (by show sQ (mvd (uI S 1 0 5 (nI mm)) br mm (i + 1)) 10 2 i = _; unfold mvd; rw [sQ_rq2, if_pos ⟨rfl, rfl⟩, if_neg (by omega)]; exact (hbr i (by omega)).1) ?_
              refine psQ C w dX1_admit_95 (oP10 hX (by decide)) (oP2 hX (hbr i (by omega)).2) rfl (oN102 hX) (by omega) (by decide) (fun H locs w => ?_)
              refine lv_iinc (v := nI i) hx hb dX1_admit_96 hl (k := 4) rfl (pk_m1 i) (by decide) rfl (fun ls hl => ?_)
              refine lv_goto (tgt := 74) hx hb dX1_admit_99 (by decide) ?_
              rw [mvd_s (by omega)] at w
              exact ih i _ _ _ (by omega) (by omega) w (lv_sub hl [1, 2, 3, 4, 0] rfl)
          exact loop_74 (mm - 1 - k) (mm - 1) _ _ _ (by omega) (by omega) (by rw [mvd_0 _ _ _ (by omega)]; exact w) (by rw [← nI_sub1 (show 0 < mm by omega)]; exact lv_sub hl [2, 3, 4, 1, 0] rfl)
        · have e5 : nh < 5 := by apply Nat.lt_of_not_le; intro q; exact c_41 (nI_le (a := 5) q (by omega))
          refine lv_aload_n hx hb dX1_admit_44 rfl (lv_at hl 0 rfl) ?_
          refine lv_dup hx hb dX1_admit_45 rfl ?_
          refine pgI 1 5 (by decide) rfl (by decide) (Or.inl rfl) rfl C w hi1 (by decide +kernel) dX1_admit_46 (oP1 hX) (v := nI nh) hh ?_
          refine lv_iconst (v := 1) hx hb dX1_admit_49 (by decide) ?_
          refine lv_iadd hx hb dX1_admit_50 ?_
          refine ppI 1 5 (by decide) rfl (by decide) rfl rfl tyX1_ok nmX1 rfl (by decide +kernel) C w hi1 (by decide +kernel) dX1_admit_51 (oP1 hX) (fun H locs w => ?_)
          obtain ⟨mm, em⟩ : ∃ mm, mm = (if nh < 5 then nh + 1 else 5) := ⟨_, rfl⟩
          have emm : mm = nh + 1 := by rw [em, if_pos e5]
          rw [nI_1, ← emm] at w
          have hkm : k < mm := by omega
          have hm5 : mm ≤ 5 := by omega
          refine lv_aload_n hx hb dX1_admit_54 rfl (lv_at hl 0 rfl) ?_
          refine pgQ 1 4 10 (by decide) rfl (by decide) rfl rfl C w hi1 (by decide +kernel) dX1_admit_55 (oP1 hX) (hS.2.2.2.2.2.2.2.2.2.2.2.2.2.1) ?_
          refine lv_aload_n hx hb dX1_admit_58 rfl (lv_at hl 0 rfl) ?_
          refine pgI 1 5 (by decide) rfl (by decide) (Or.inl rfl) rfl C w hi1 (by decide +kernel) dX1_admit_59 (oP1 hX) (v := nI mm) (by rw [sI_uI, if_pos ⟨rfl, rfl, rfl⟩]) ?_
          refine lv_iconst (v := 1) hx hb dX1_admit_62 (by decide) ?_
          refine lv_isub hx hb dX1_admit_63 ?_
          refine paQ C w dX1_admit_64 (oP10 hX (by decide)) (n := mm - 1) (nI_sub1 (by omega)) (oN102 hX) (by omega) (by decide) (r1 := br (mm - 1)) (hbr (mm - 1) (by omega)).1 ?_
          refine lv_astore_n hx hb dX1_admit_65 rfl hl (by decide) rfl (fun ls hl => ?_)
          refine lv_aload_n hx hb dX1_admit_66 rfl (lv_at hl 1 rfl) ?_
          refine pgI 1 5 (by decide) rfl (by decide) (Or.inl rfl) rfl C w hi1 (by decide +kernel) dX1_admit_67 (oP1 hX) (v := nI mm) (by rw [sI_uI, if_pos ⟨rfl, rfl, rfl⟩]) ?_
          refine lv_iconst (v := 1) hx hb dX1_admit_70 (by decide) ?_
          refine lv_isub hx hb dX1_admit_71 ?_
          refine lv_istore hx hb dX1_admit_72 hl (by decide) rfl (fun ls hl => ?_)
          have loop_74 : ∀ (n : Nat) (i : Nat) (H : Heap) (locs : List Loc) (ls : Array Slot), i = k + n → i < mm → Wd G A s.heap (mvd (uI S 1 0 5 (nI mm)) br mm i) H locs → lv_has ls 5 [(0, .ref (gA G 1 0)), (1, .ref (gA G 2 a)), (2, .int (nI k)), (3, .ref (gA G 2 (br (mm - 1)))), (4, .int (nI i))] → W p l e (rmK 3 66) s m args below meth c H locs 0 0 Q (F0 m 74 ls []) := by
            intro n
            induction n with
            | zero =>
              intro i H locs ls hi him w hl
              refine lv_iload hx hb dX1_admit_74 (lv_at hl 4 rfl) ?_
              refine lv_iload_n hx hb dX1_admit_76 rfl (lv_at hl 2 rfl) ?_
              refine lv_icmp_le (tgt := 102) hx hb dX1_admit_77 (by decide) (fun c_77 => ?_) (fun c_77 => absurd (nI_le (by omega) (by omega)) c_77)
              have ei : i = k := by omega
              subst ei
              refine lv_aload_n hx hb dX1_admit_102 rfl (lv_at hl 0 rfl) ?_
              refine pgQ 1 4 10 (by decide) rfl (by decide) rfl rfl C w hi1 (by decide +kernel) dX1_admit_103 (oP1 hX) (by show sQ (mvd (uI S 1 0 5 (nI mm)) br mm _) 1 0 4 = _; unfold mvd; rw [sQ_rq2, if_neg (by simp)]; exact (hS.2.2.2.2.2.2.2.2.2.2.2.2.2.1)) ?_
              refine lv_iload_n hx hb dX1_admit_106 rfl (lv_at hl 2 rfl) ?_
              refine lv_aload_n hx hb dX1_admit_107 rfl (lv_at hl 3 rfl) ?_
              refine psQ C w dX1_admit_108 (oP10 hX (by decide)) (oP2 hX (hbr (mm - 1) (by omega)).2) rfl (oN102 hX) (by omega) (by decide) (fun H locs w => ?_)
              rw [adm_s] at w
              have e2 : ∀ r x, sI (admS S br mm i) 2 r x = sI S 2 r x := fun r x => by unfold admS; rw [sI_rq2, sI_uI, if_neg (by simp)]
              refine lv_aload_n hx hb dX1_admit_109 rfl (lv_at hl 3 rfl) ?_
              refine lv_aload_n hx hb dX1_admit_110 rfl (lv_at hl 1 rfl) ?_
              refine cvV (n := 1) C w hl dX1_admit_111 (c_X2_copy l G hX (admS S br mm i) (lkX_rq2 (lkX_of hS rfl) _) (br (mm - 1)) a z (hbr (mm - 1) (by omega)).2 ha (hna (mm - 1) (by omega)) (by rw [e2]; exact hza) hz12) gX1_admit_X2_copy rfl (by decide +kernel) rfl rfl (Nat.le_of_ble_eq_true rfl) ⟨by decide, by decide⟩ (by decide) rfl (oP2 hX (hbr (mm - 1) (by omega)).2) (fun S4 H locs hp4 w => ?_)
              
              refine lv_iload_n hx hb dX1_admit_114 rfl (lv_at hl 2 rfl) ?_
              exact hret _ _ _ _ _ _ dX1_admit_115 w (Or.inr ⟨by rw [hpk]; omega, by rw [hpk], mm, em, by rw [hpk, hp4, e2, e2, e2]; rfl⟩)
            | succ n ih =>
              intro i H locs ls hi him w hl
              refine lv_iload hx hb dX1_admit_74 (lv_at hl 4 rfl) ?_
              refine lv_iload_n hx hb dX1_admit_76 rfl (lv_at hl 2 rfl) ?_
              refine lv_icmp_le (tgt := 102) hx hb dX1_admit_77 (by decide) (fun c_77 => absurd c_77 (nI_ge (by omega) (by omega))) (fun c_77 => ?_)
              obtain ⟨i, rfl⟩ : ∃ x, i = x + 1 := ⟨i - 1, by omega⟩
              refine lv_aload_n hx hb dX1_admit_80 rfl (lv_at hl 0 rfl) ?_
              refine pgQ 1 4 10 (by decide) rfl (by decide) rfl rfl C w hi1 (by decide +kernel) dX1_admit_81 (oP1 hX) (by show sQ (mvd (uI S 1 0 5 (nI mm)) br mm _) 1 0 4 = _; unfold mvd; rw [sQ_rq2, if_neg (by simp)]; exact (hS.2.2.2.2.2.2.2.2.2.2.2.2.2.1)) ?_
              refine lv_iload hx hb dX1_admit_84 (lv_at hl 4 rfl) ?_
              refine lv_aload_n hx hb dX1_admit_86 rfl (lv_at hl 0 rfl) ?_
              refine pgQ 1 4 10 (by decide) rfl (by decide) rfl rfl C w hi1 (by decide +kernel) dX1_admit_87 (oP1 hX) (by show sQ (mvd (uI S 1 0 5 (nI mm)) br mm _) 1 0 4 = _; unfold mvd; rw [sQ_rq2, if_neg (by simp)]; exact (hS.2.2.2.2.2.2.2.2.2.2.2.2.2.1)) ?_
              refine lv_iload hx hb dX1_admit_90 (lv_at hl 4 rfl) ?_
              refine lv_iconst (v := 1) hx hb dX1_admit_92 (by decide) ?_
              refine lv_isub hx hb dX1_admit_93 ?_
              refine paQ C w dX1_admit_94 (oP10 hX (by decide)) (n := i) (nI_pred i) (oN102 hX) (by omega) (by decide) (r1 := br i) (by show sQ (mvd (uI S 1 0 5 (nI mm)) br mm (i + 1)) 10 2 i = _; unfold mvd; rw [sQ_rq2, if_pos ⟨rfl, rfl⟩, if_neg (by omega)]; exact (hbr i (by omega)).1) ?_
              refine psQ C w dX1_admit_95 (oP10 hX (by decide)) (oP2 hX (hbr i (by omega)).2) rfl (oN102 hX) (by omega) (by decide) (fun H locs w => ?_)
              refine lv_iinc (v := nI i) hx hb dX1_admit_96 hl (k := 4) rfl (pk_m1 i) (by decide) rfl (fun ls hl => ?_)
              refine lv_goto (tgt := 74) hx hb dX1_admit_99 (by decide) ?_
              rw [mvd_s (by omega)] at w
              exact ih i _ _ _ (by omega) (by omega) w (lv_sub hl [1, 2, 3, 4, 0] rfl)
          exact loop_74 (mm - 1 - k) (mm - 1) _ _ _ (by omega) (by omega) (by rw [mvd_0 _ _ _ (by omega)]; exact w) (by rw [← nI_sub1 (show 0 < mm by omega)]; exact lv_sub hl [2, 3, 4, 1, 0] rfl)
      · refine lv_iconst (v := (-1)) hx hb dX1_admit_34 (by decide) ?_
        exact hret _ _ _ _ _ _ dX1_admit_35 w (Or.inl ⟨by rw [hpk]; have : ¬ k < 5 := fun q => c_31 ((nI_ltI (by omega) (by decide)).mpr q); omega, rfl, rfl⟩)
    | succ n ih =>
      intro k H locs ls hk hI w hl
      refine lv_iload_n hx hb dX1_admit_2 rfl (lv_at hl 2 rfl) ?_
      refine lv_aload_n hx hb dX1_admit_3 rfl (lv_at hl 0 rfl) ?_
      refine pgI 1 5 (by decide) rfl (by decide) (Or.inl rfl) rfl C w hi1 (by decide +kernel) dX1_admit_4 (oP1 hX) (v := nI nh) hh ?_
      refine lv_icmp_ge (tgt := 29) hx hb dX1_admit_7 (by decide) (fun c_7 => absurd c_7 (nI_ge (by omega) (by omega))) (fun c_7 => ?_)
      refine lv_aload_n hx hb dX1_admit_10 rfl (lv_at hl 0 rfl) ?_
      refine pgQ 1 4 10 (by decide) rfl (by decide) rfl rfl C w hi1 (by decide +kernel) dX1_admit_11 (oP1 hX) (hS.2.2.2.2.2.2.2.2.2.2.2.2.2.1) ?_
      refine lv_iload_n hx hb dX1_admit_14 rfl (lv_at hl 2 rfl) ?_
      refine paQ C w dX1_admit_15 (oP10 hX (by decide)) rfl (oN102 hX) (by omega) (by decide) (r1 := br k) (hbr k (by omega)).1 ?_
      refine lv_aload_n hx hb dX1_admit_16 rfl (lv_at hl 1 rfl) ?_
      refine cvI (n := 1) C w hl dX1_admit_17 (c_X2_compareWith l G hX S hS (br k) a z (hbr k (by omega)).2 ha (hbz k (by omega)) hz12) gX1_admit_X2_compareWith rfl (by decide +kernel) rfl rfl (Nat.le_of_ble_eq_true rfl) ⟨by decide, by decide⟩ (by decide) rfl (oP2 hX (hbr k (by omega)).2) (fun v2 S2 H locs hp w => ?_)
      obtain ⟨e2, e0⟩ := hp
      rw [e0] at w
      rw [e2]
      refine lv_if_lt (tgt := 29) hx hb dX1_admit_20 (by decide) (fun c_20 => ?_) (fun c_20 => ?_)
      · have hpk : plc (fun j => cmpG (sJ S 9 (br j)) (sJ S 9 a) z 0) nh 0 = k := by rw [hI, plc, if_pos c_20]
        have h5 : k ≤ nh := by omega
        refine lv_iload_n hx hb dX1_admit_29 rfl (lv_at hl 2 rfl) ?_
        refine lv_iconst (v := 5) hx hb dX1_admit_30 (by decide) ?_
        refine lv_icmp_lt (tgt := 36) hx hb dX1_admit_31 (by decide) (fun c_31 => ?_) (fun c_31 => ?_)
        · have hk5 : k < 5 := (nI_ltI (by omega) (by decide)).mp c_31
          refine lv_aload_n hx hb dX1_admit_36 rfl (lv_at hl 0 rfl) ?_
          refine pgI 1 5 (by decide) rfl (by decide) (Or.inl rfl) rfl C w hi1 (by decide +kernel) dX1_admit_37 (oP1 hX) (v := nI nh) hh ?_
          refine lv_iconst (v := 5) hx hb dX1_admit_40 (by decide) ?_
          refine lv_icmp_ge (tgt := 54) hx hb dX1_admit_41 (by decide) (fun c_41 => ?_) (fun c_41 => ?_)
          · have e5 : nh = 5 := by have : ¬ nh < 5 := fun q => absurd c_41 (nI_ge q (by decide)); omega
            obtain ⟨mm, em⟩ : ∃ mm, mm = (if nh < 5 then nh + 1 else 5) := ⟨_, rfl⟩
            have emm : mm = 5 := by rw [em, if_neg (by omega)]
            rw [← uI_same (v := nI mm) (show sI S 1 0 5 = nI mm by rw [hh, e5, emm])] at w
            have hkm : k < mm := by omega
            have hm5 : mm ≤ 5 := by omega
            refine lv_aload_n hx hb dX1_admit_54 rfl (lv_at hl 0 rfl) ?_
            refine pgQ 1 4 10 (by decide) rfl (by decide) rfl rfl C w hi1 (by decide +kernel) dX1_admit_55 (oP1 hX) (hS.2.2.2.2.2.2.2.2.2.2.2.2.2.1) ?_
            refine lv_aload_n hx hb dX1_admit_58 rfl (lv_at hl 0 rfl) ?_
            refine pgI 1 5 (by decide) rfl (by decide) (Or.inl rfl) rfl C w hi1 (by decide +kernel) dX1_admit_59 (oP1 hX) (v := nI mm) (by rw [sI_uI, if_pos ⟨rfl, rfl, rfl⟩]) ?_
            refine lv_iconst (v := 1) hx hb dX1_admit_62 (by decide) ?_
            refine lv_isub hx hb dX1_admit_63 ?_
            refine paQ C w dX1_admit_64 (oP10 hX (by decide)) (n := mm - 1) (nI_sub1 (by omega)) (oN102 hX) (by omega) (by decide) (r1 := br (mm - 1)) (hbr (mm - 1) (by omega)).1 ?_
            refine lv_astore_n hx hb dX1_admit_65 rfl hl (by decide) rfl (fun ls hl => ?_)
            refine lv_aload_n hx hb dX1_admit_66 rfl (lv_at hl 1 rfl) ?_
            refine pgI 1 5 (by decide) rfl (by decide) (Or.inl rfl) rfl C w hi1 (by decide +kernel) dX1_admit_67 (oP1 hX) (v := nI mm) (by rw [sI_uI, if_pos ⟨rfl, rfl, rfl⟩]) ?_
            refine lv_iconst (v := 1) hx hb dX1_admit_70 (by decide) ?_
            refine lv_isub hx hb dX1_admit_71 ?_
            refine lv_istore hx hb dX1_admit_72 hl (by decide) rfl (fun ls hl => ?_)
            have loop_74 : ∀ (n : Nat) (i : Nat) (H : Heap) (locs : List Loc) (ls : Array Slot), i = k + n → i < mm → Wd G A s.heap (mvd (uI S 1 0 5 (nI mm)) br mm i) H locs → lv_has ls 5 [(0, .ref (gA G 1 0)), (1, .ref (gA G 2 a)), (2, .int (nI k)), (3, .ref (gA G 2 (br (mm - 1)))), (4, .int (nI i))] → W p l e (rmK 3 66) s m args below meth c H locs 0 0 Q (F0 m 74 ls []) := by
              intro n
              induction n with
              | zero =>
                intro i H locs ls hi him w hl
                refine lv_iload hx hb dX1_admit_74 (lv_at hl 4 rfl) ?_
                refine lv_iload_n hx hb dX1_admit_76 rfl (lv_at hl 2 rfl) ?_
                refine lv_icmp_le (tgt := 102) hx hb dX1_admit_77 (by decide) (fun c_77 => ?_) (fun c_77 => absurd (nI_le (by omega) (by omega)) c_77)
                have ei : i = k := by omega
                subst ei
                refine lv_aload_n hx hb dX1_admit_102 rfl (lv_at hl 0 rfl) ?_
                refine pgQ 1 4 10 (by decide) rfl (by decide) rfl rfl C w hi1 (by decide +kernel) dX1_admit_103 (oP1 hX) (by show sQ (mvd (uI S 1 0 5 (nI mm)) br mm _) 1 0 4 = _; unfold mvd; rw [sQ_rq2, if_neg (by simp)]; exact (hS.2.2.2.2.2.2.2.2.2.2.2.2.2.1)) ?_
                refine lv_iload_n hx hb dX1_admit_106 rfl (lv_at hl 2 rfl) ?_
                refine lv_aload_n hx hb dX1_admit_107 rfl (lv_at hl 3 rfl) ?_
                refine psQ C w dX1_admit_108 (oP10 hX (by decide)) (oP2 hX (hbr (mm - 1) (by omega)).2) rfl (oN102 hX) (by omega) (by decide) (fun H locs w => ?_)
                rw [adm_s] at w
                have e2 : ∀ r x, sI (admS S br mm i) 2 r x = sI S 2 r x := fun r x => by unfold admS; rw [sI_rq2, sI_uI, if_neg (by simp)]
                refine lv_aload_n hx hb dX1_admit_109 rfl (lv_at hl 3 rfl) ?_
                refine lv_aload_n hx hb dX1_admit_110 rfl (lv_at hl 1 rfl) ?_
                refine cvV (n := 1) C w hl dX1_admit_111 (c_X2_copy l G hX (admS S br mm i) (lkX_rq2 (lkX_of hS rfl) _) (br (mm - 1)) a z (hbr (mm - 1) (by omega)).2 ha (hna (mm - 1) (by omega)) (by rw [e2]; exact hza) hz12) gX1_admit_X2_copy rfl (by decide +kernel) rfl rfl (Nat.le_of_ble_eq_true rfl) ⟨by decide, by decide⟩ (by decide) rfl (oP2 hX (hbr (mm - 1) (by omega)).2) (fun S4 H locs hp4 w => ?_)
                
                refine lv_iload_n hx hb dX1_admit_114 rfl (lv_at hl 2 rfl) ?_
                exact hret _ _ _ _ _ _ dX1_admit_115 w (Or.inr ⟨by rw [hpk]; omega, by rw [hpk], mm, em, by rw [hpk, hp4, e2, e2, e2]; rfl⟩)
              | succ n ih =>
                intro i H locs ls hi him w hl
                refine lv_iload hx hb dX1_admit_74 (lv_at hl 4 rfl) ?_
                refine lv_iload_n hx hb dX1_admit_76 rfl (lv_at hl 2 rfl) ?_
                refine lv_icmp_le (tgt := 102) hx hb dX1_admit_77 (by decide) (fun c_77 => absurd c_77 (nI_ge (by omega) (by omega))) (fun c_77 => ?_)
                obtain ⟨i, rfl⟩ : ∃ x, i = x + 1 := ⟨i - 1, by omega⟩
                refine lv_aload_n hx hb dX1_admit_80 rfl (lv_at hl 0 rfl) ?_
                refine pgQ 1 4 10 (by decide) rfl (by decide) rfl rfl C w hi1 (by decide +kernel) dX1_admit_81 (oP1 hX) (by show sQ (mvd (uI S 1 0 5 (nI mm)) br mm _) 1 0 4 = _; unfold mvd; rw [sQ_rq2, if_neg (by simp)]; exact (hS.2.2.2.2.2.2.2.2.2.2.2.2.2.1)) ?_
                refine lv_iload hx hb dX1_admit_84 (lv_at hl 4 rfl) ?_
                refine lv_aload_n hx hb dX1_admit_86 rfl (lv_at hl 0 rfl) ?_
                refine pgQ 1 4 10 (by decide) rfl (by decide) rfl rfl C w hi1 (by decide +kernel) dX1_admit_87 (oP1 hX) (by show sQ (mvd (uI S 1 0 5 (nI mm)) br mm _) 1 0 4 = _; unfold mvd; rw [sQ_rq2, if_neg (by simp)]; exact (hS.2.2.2.2.2.2.2.2.2.2.2.2.2.1)) ?_
                refine lv_iload hx hb dX1_admit_90 (lv_at hl 4 rfl) ?_
                refine lv_iconst (v := 1) hx hb dX1_admit_92 (by decide) ?_
                refine lv_isub hx hb dX1_admit_93 ?_
                refine paQ C w dX1_admit_94 (oP10 hX (by decide)) (n := i) (nI_pred i) (oN102 hX) (by omega) (by decide) (r1 := br i) (by show sQ (mvd (uI S 1 0 5 (nI mm)) br mm (i + 1)) 10 2 i = _; unfold mvd; rw [sQ_rq2, if_pos ⟨rfl, rfl⟩, if_neg (by omega)]; exact (hbr i (by omega)).1) ?_
                refine psQ C w dX1_admit_95 (oP10 hX (by decide)) (oP2 hX (hbr i (by omega)).2) rfl (oN102 hX) (by omega) (by decide) (fun H locs w => ?_)
                refine lv_iinc (v := nI i) hx hb dX1_admit_96 hl (k := 4) rfl (pk_m1 i) (by decide) rfl (fun ls hl => ?_)
                refine lv_goto (tgt := 74) hx hb dX1_admit_99 (by decide) ?_
                rw [mvd_s (by omega)] at w
                exact ih i _ _ _ (by omega) (by omega) w (lv_sub hl [1, 2, 3, 4, 0] rfl)
            exact loop_74 (mm - 1 - k) (mm - 1) _ _ _ (by omega) (by omega) (by rw [mvd_0 _ _ _ (by omega)]; exact w) (by rw [← nI_sub1 (show 0 < mm by omega)]; exact lv_sub hl [2, 3, 4, 1, 0] rfl)
          · have e5 : nh < 5 := by apply Nat.lt_of_not_le; intro q; exact c_41 (nI_le (a := 5) q (by omega))
            refine lv_aload_n hx hb dX1_admit_44 rfl (lv_at hl 0 rfl) ?_
            refine lv_dup hx hb dX1_admit_45 rfl ?_
            refine pgI 1 5 (by decide) rfl (by decide) (Or.inl rfl) rfl C w hi1 (by decide +kernel) dX1_admit_46 (oP1 hX) (v := nI nh) hh ?_
            refine lv_iconst (v := 1) hx hb dX1_admit_49 (by decide) ?_
            refine lv_iadd hx hb dX1_admit_50 ?_
            refine ppI 1 5 (by decide) rfl (by decide) rfl rfl tyX1_ok nmX1 rfl (by decide +kernel) C w hi1 (by decide +kernel) dX1_admit_51 (oP1 hX) (fun H locs w => ?_)
            obtain ⟨mm, em⟩ : ∃ mm, mm = (if nh < 5 then nh + 1 else 5) := ⟨_, rfl⟩
            have emm : mm = nh + 1 := by rw [em, if_pos e5]
            rw [nI_1, ← emm] at w
            have hkm : k < mm := by omega
            have hm5 : mm ≤ 5 := by omega
            refine lv_aload_n hx hb dX1_admit_54 rfl (lv_at hl 0 rfl) ?_
            refine pgQ 1 4 10 (by decide) rfl (by decide) rfl rfl C w hi1 (by decide +kernel) dX1_admit_55 (oP1 hX) (hS.2.2.2.2.2.2.2.2.2.2.2.2.2.1) ?_
            refine lv_aload_n hx hb dX1_admit_58 rfl (lv_at hl 0 rfl) ?_
            refine pgI 1 5 (by decide) rfl (by decide) (Or.inl rfl) rfl C w hi1 (by decide +kernel) dX1_admit_59 (oP1 hX) (v := nI mm) (by rw [sI_uI, if_pos ⟨rfl, rfl, rfl⟩]) ?_
            refine lv_iconst (v := 1) hx hb dX1_admit_62 (by decide) ?_
            refine lv_isub hx hb dX1_admit_63 ?_
            refine paQ C w dX1_admit_64 (oP10 hX (by decide)) (n := mm - 1) (nI_sub1 (by omega)) (oN102 hX) (by omega) (by decide) (r1 := br (mm - 1)) (hbr (mm - 1) (by omega)).1 ?_
            refine lv_astore_n hx hb dX1_admit_65 rfl hl (by decide) rfl (fun ls hl => ?_)
            refine lv_aload_n hx hb dX1_admit_66 rfl (lv_at hl 1 rfl) ?_
            refine pgI 1 5 (by decide) rfl (by decide) (Or.inl rfl) rfl C w hi1 (by decide +kernel) dX1_admit_67 (oP1 hX) (v := nI mm) (by rw [sI_uI, if_pos ⟨rfl, rfl, rfl⟩]) ?_
            refine lv_iconst (v := 1) hx hb dX1_admit_70 (by decide) ?_
            refine lv_isub hx hb dX1_admit_71 ?_
            refine lv_istore hx hb dX1_admit_72 hl (by decide) rfl (fun ls hl => ?_)
            have loop_74 : ∀ (n : Nat) (i : Nat) (H : Heap) (locs : List Loc) (ls : Array Slot), i = k + n → i < mm → Wd G A s.heap (mvd (uI S 1 0 5 (nI mm)) br mm i) H locs → lv_has ls 5 [(0, .ref (gA G 1 0)), (1, .ref (gA G 2 a)), (2, .int (nI k)), (3, .ref (gA G 2 (br (mm - 1)))), (4, .int (nI i))] → W p l e (rmK 3 66) s m args below meth c H locs 0 0 Q (F0 m 74 ls []) := by
              intro n
              induction n with
              | zero =>
                intro i H locs ls hi him w hl
                refine lv_iload hx hb dX1_admit_74 (lv_at hl 4 rfl) ?_
                refine lv_iload_n hx hb dX1_admit_76 rfl (lv_at hl 2 rfl) ?_
                refine lv_icmp_le (tgt := 102) hx hb dX1_admit_77 (by decide) (fun c_77 => ?_) (fun c_77 => absurd (nI_le (by omega) (by omega)) c_77)
                have ei : i = k := by omega
                subst ei
                refine lv_aload_n hx hb dX1_admit_102 rfl (lv_at hl 0 rfl) ?_
                refine pgQ 1 4 10 (by decide) rfl (by decide) rfl rfl C w hi1 (by decide +kernel) dX1_admit_103 (oP1 hX) (by show sQ (mvd (uI S 1 0 5 (nI mm)) br mm _) 1 0 4 = _; unfold mvd; rw [sQ_rq2, if_neg (by simp)]; exact (hS.2.2.2.2.2.2.2.2.2.2.2.2.2.1)) ?_
                refine lv_iload_n hx hb dX1_admit_106 rfl (lv_at hl 2 rfl) ?_
                refine lv_aload_n hx hb dX1_admit_107 rfl (lv_at hl 3 rfl) ?_
                refine psQ C w dX1_admit_108 (oP10 hX (by decide)) (oP2 hX (hbr (mm - 1) (by omega)).2) rfl (oN102 hX) (by omega) (by decide) (fun H locs w => ?_)
                rw [adm_s] at w
                have e2 : ∀ r x, sI (admS S br mm i) 2 r x = sI S 2 r x := fun r x => by unfold admS; rw [sI_rq2, sI_uI, if_neg (by simp)]
                refine lv_aload_n hx hb dX1_admit_109 rfl (lv_at hl 3 rfl) ?_
                refine lv_aload_n hx hb dX1_admit_110 rfl (lv_at hl 1 rfl) ?_
                refine cvV (n := 1) C w hl dX1_admit_111 (c_X2_copy l G hX (admS S br mm i) (lkX_rq2 (lkX_of hS rfl) _) (br (mm - 1)) a z (hbr (mm - 1) (by omega)).2 ha (hna (mm - 1) (by omega)) (by rw [e2]; exact hza) hz12) gX1_admit_X2_copy rfl (by decide +kernel) rfl rfl (Nat.le_of_ble_eq_true rfl) ⟨by decide, by decide⟩ (by decide) rfl (oP2 hX (hbr (mm - 1) (by omega)).2) (fun S4 H locs hp4 w => ?_)
                
                refine lv_iload_n hx hb dX1_admit_114 rfl (lv_at hl 2 rfl) ?_
                exact hret _ _ _ _ _ _ dX1_admit_115 w (Or.inr ⟨by rw [hpk]; omega, by rw [hpk], mm, em, by rw [hpk, hp4, e2, e2, e2]; rfl⟩)
              | succ n ih =>
                intro i H locs ls hi him w hl
                refine lv_iload hx hb dX1_admit_74 (lv_at hl 4 rfl) ?_
                refine lv_iload_n hx hb dX1_admit_76 rfl (lv_at hl 2 rfl) ?_
                refine lv_icmp_le (tgt := 102) hx hb dX1_admit_77 (by decide) (fun c_77 => absurd c_77 (nI_ge (by omega) (by omega))) (fun c_77 => ?_)
                obtain ⟨i, rfl⟩ : ∃ x, i = x + 1 := ⟨i - 1, by omega⟩
                refine lv_aload_n hx hb dX1_admit_80 rfl (lv_at hl 0 rfl) ?_
                refine pgQ 1 4 10 (by decide) rfl (by decide) rfl rfl C w hi1 (by decide +kernel) dX1_admit_81 (oP1 hX) (by show sQ (mvd (uI S 1 0 5 (nI mm)) br mm _) 1 0 4 = _; unfold mvd; rw [sQ_rq2, if_neg (by simp)]; exact (hS.2.2.2.2.2.2.2.2.2.2.2.2.2.1)) ?_
                refine lv_iload hx hb dX1_admit_84 (lv_at hl 4 rfl) ?_
                refine lv_aload_n hx hb dX1_admit_86 rfl (lv_at hl 0 rfl) ?_
                refine pgQ 1 4 10 (by decide) rfl (by decide) rfl rfl C w hi1 (by decide +kernel) dX1_admit_87 (oP1 hX) (by show sQ (mvd (uI S 1 0 5 (nI mm)) br mm _) 1 0 4 = _; unfold mvd; rw [sQ_rq2, if_neg (by simp)]; exact (hS.2.2.2.2.2.2.2.2.2.2.2.2.2.1)) ?_
                refine lv_iload hx hb dX1_admit_90 (lv_at hl 4 rfl) ?_
                refine lv_iconst (v := 1) hx hb dX1_admit_92 (by decide) ?_
                refine lv_isub hx hb dX1_admit_93 ?_
                refine paQ C w dX1_admit_94 (oP10 hX (by decide)) (n := i) (nI_pred i) (oN102 hX) (by omega) (by decide) (r1 := br i) (by show sQ (mvd (uI S 1 0 5 (nI mm)) br mm (i + 1)) 10 2 i = _; unfold mvd; rw [sQ_rq2, if_pos ⟨rfl, rfl⟩, if_neg (by omega)]; exact (hbr i (by omega)).1) ?_
                refine psQ C w dX1_admit_95 (oP10 hX (by decide)) (oP2 hX (hbr i (by omega)).2) rfl (oN102 hX) (by omega) (by decide) (fun H locs w => ?_)
                refine lv_iinc (v := nI i) hx hb dX1_admit_96 hl (k := 4) rfl (pk_m1 i) (by decide) rfl (fun ls hl => ?_)
                refine lv_goto (tgt := 74) hx hb dX1_admit_99 (by decide) ?_
                rw [mvd_s (by omega)] at w
                exact ih i _ _ _ (by omega) (by omega) w (lv_sub hl [1, 2, 3, 4, 0] rfl)
            exact loop_74 (mm - 1 - k) (mm - 1) _ _ _ (by omega) (by omega) (by rw [mvd_0 _ _ _ (by omega)]; exact w) (by rw [← nI_sub1 (show 0 < mm by omega)]; exact lv_sub hl [2, 3, 4, 1, 0] rfl)
        · refine lv_iconst (v := (-1)) hx hb dX1_admit_34 (by decide) ?_
          exact hret _ _ _ _ _ _ dX1_admit_35 w (Or.inl ⟨by rw [hpk]; have : ¬ k < 5 := fun q => c_31 ((nI_ltI (by omega) (by decide)).mpr q); omega, rfl, rfl⟩)
      · refine lv_iinc (v := nI (k + 1)) hx hb dX1_admit_23 hl (k := 2) rfl (nI_1 k) (by decide) rfl (fun ls hl => ?_)
        refine lv_goto (tgt := 2) hx hb dX1_admit_26 (by decide) ?_
        exact ih (k + 1) _ _ _ (by omega) (by rw [hI, plc, if_neg c_20]) w (lv_sub hl [1, 2, 0] rfl)
  exact loop_2 nh 0 _ _ _ (by omega) rfl w (lv_sub hl [1, 2, 0] rfl)
