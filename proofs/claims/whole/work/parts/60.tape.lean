/-- the tape in the pool: its bytes, its length, the place -/
def tpX (S : PS) (T : Nat → Int32) (tl q : Nat) : Prop := lkX S ∧ sI S 7 0 = T ∧ sI S 3 0 1 = nI tl ∧ sI S 3 0 2 = nI q
theorem tpX.at {S : PS} {T : Nat → Int32} {tl q : Nat} (h : tpX S T tl q) (q2 : Nat) : tpX (uI S 3 0 2 (nI q2)) T tl q2 :=
  ⟨h.1, by rw [← h.2.1]; exact funext fun j => by rw [sI_uI, if_neg (by simp)], by rw [sI_uI, if_neg (by simp)]; exact h.2.2.1, by rw [sI_uI, if_pos ⟨rfl, rfl, rfl⟩]⟩
theorem tpX.j {S : PS} {T : Nat → Int32} {tl q : Nat} (h : tpX S T tl q) (r k : Nat) (v : Int64) : tpX (uJ S 9 r k v) T tl q := h
theorem noN_0 {h : Nat → Int32} {q : Nat} (hb : ¬ h q = 45) : noN h q ↔ dgv (h (mp h q)) < 0 := by
  rw [dgv_neg]
  exact ⟨fun x => x.elim id (fun y => absurd y.1 hb), fun x => Or.inl x⟩
theorem noN_1 {h : Nat → Int32} {q : Nat} (hb : h q = 45) : noN h q ↔ dgv (h (mp h q)) < 1 := by
  by_cases hd : dig (h (mp h q))
  · rw [Int32.lt_iff_toInt_lt, dgv_dig hd, i32_1]
    have e : h (mp h q) = 48 ↔ (h (mp h q)).toInt = 48 := by rw [← Int32.toInt_inj]; rfl
    constructor
    · intro x
      rcases x with x | x
      · exact absurd hd x
      · have := e.mp x.2; omega
    · intro x; exact Or.inr ⟨hb, e.mpr (by omega)⟩
  · have := dgv_neg.mpr hd
    rw [Int32.lt_iff_toInt_lt, i32_0] at this
    rw [Int32.lt_iff_toInt_lt, i32_1]
    exact ⟨fun _ => by omega, fun _ => Or.inl hd⟩
theorem fitL {V : Int} {x : Int64} {y : Int32} {b : Bool} (hx : x.toInt = lo b) (hV : V ≤ 0) (hV2 : lo b ≤ V) (hd : dig y) : Int64.ofInt V < (x + (dgv y).toInt64) / 10 ↔ ¬ lo b ≤ 10 * V - (y.toInt - 48) := by
  have hl : -9223372036854775808 ≤ lo b ∧ lo b ≤ -9223372036854775807 := by unfold lo; split <;> omega
  have h2 := dgv_dig hd
  rw [Int64.lt_iff_toInt_lt, div_pos_int (by decide), i64_10, i64_small (by omega) (by omega), Int64.toInt_add, Int32.toInt_toInt64, hx, h2, Int.bmod_eq_of_le (by omega) (by omega), ← fit_C hV hV2 (show 0 ≤ y.toInt - 48 by omega) (by omega)]
  omega
theorem stepL {y : Int32} (hd : dig y) (V : Int) : Int64.ofInt V * 10 - (dgv y).toInt64 = Int64.ofInt (10 * V - (y.toInt - 48)) := by
  rw [show (10 : Int64) = Int64.ofInt 10 from rfl, ← Int64.ofInt_mul, ← dgv_dig hd, Int64.ofInt_sub, Int.mul_comm]
  congr 1
theorem wrd_c {h : Nat → Int32} {c : Int32} {w : List Int32} {p : Nat} : wrd h (c :: w) p = if h p = c then wrd h w (p + 1) else (p, false) := rfl
theorem drop_s {t : List Int32} {j : Nat} (h : j < t.length) : t.drop j = t.getD j 0 :: t.drop (j + 1) := by
  rw [List.drop_eq_getElem_cons h, List.getD_eq_getElem?_getD, List.getElem?_eq_getElem h]
  rfl
theorem sTx_ne : ∀ i, i < 6 → ∀ j, j < sLen.getD i 0 → ¬ (sTx i).getD j 0 = -1 := by decide +kernel
theorem mp_1 {h : Nat → Int32} {q : Nat} (hb : h q = 45) : mp h q = q + 1 := if_pos hb
theorem mp_0 {h : Nat → Int32} {q : Nat} (hb : ¬ h q = 45) : mp h q = q := if_neg hb

set_option maxHeartbeats 4000000 in
set_option maxRecDepth 100000 in
/-- isNext -/
theorem c_X3_isNext (l : Launch) (G : GT) (hX : okX G) (S : PS) (T : Nat → Int32) (tl q0 : Nat) (ht : tpX S T tl q0) (h300 : tl ≤ 300) (hq0 : q0 ≤ tl) (c2 : Int32) (hc : ¬ c2 = -1) : CtI l G yX3_isNext wsX3_isNext (rmK 0 0) [.ref (gA G 3 0), .int c2] S (fun v S2 => ((v = 1 ∧ hr T tl q0 = c2) ∨ (v = 0 ∧ ¬ hr T tl q0 = c2)) ∧ S2 = S) := by
  refine ofCtZ (cc := cX3_isNext) (nL := 2) RX3 (by decide +kernel) rfl rfl (Nat.le_of_ble_eq_true rfl) ?_
  intro p e s m args below meth c A Q ls C w hl hret
  have hx := C.1
  have hb := C.2.1
  have hown := C.2.2.2.1
  have hts := C.2.2.2.2.1
  have hi3 : ∀ w ∈ wsX30, w ∈ wsX3_isNext := by decide +kernel
  refine lv_aload_n hx hb dX3_isNext_0 rfl (lv_at hl 0 rfl) ?_
  refine pgI 3 2 (by decide) rfl (by decide) (Or.inl rfl) rfl C w hi3 (by decide +kernel) dX3_isNext_1 (oP3 hX) (v := nI q0) ht.2.2.2 ?_
  refine lv_aload_n hx hb dX3_isNext_4 rfl (lv_at hl 0 rfl) ?_
  refine pgI 3 1 (by decide) rfl (by decide) (Or.inl rfl) rfl C w hi3 (by decide +kernel) dX3_isNext_5 (oP3 hX) (v := nI tl) ht.2.2.1 ?_
  refine lv_icmp_ge (tgt := 28) hx hb dX3_isNext_8 (by decide) (fun c_8 => ?_) (fun c_8 => ?_)
  · have hh : ¬ hr T tl q0 = c2 := by rw [hr_end ((nI_leI (by omega) (by omega)).mp c_8)]; exact fun x => hc x.symm
    refine lv_iconst (v := 0) hx hb dX3_isNext_28 (by decide) ?_
    exact hret _ _ _ _ _ _ dX3_isNext_29 w (by decide) ⟨by first | exact Or.inl ⟨rfl, hh⟩ | exact Or.inr ⟨rfl, hh⟩, rfl⟩
  · have hlt : q0 < tl := by have := mt (nI_leI (a := tl) (b := q0) (by omega) (by omega)).mpr c_8; omega
    refine lv_aload_n hx hb dX3_isNext_11 rfl (lv_at hl 0 rfl) ?_
    refine pgQ 3 0 7 (by decide) rfl (by decide) rfl rfl C w hi3 (by decide +kernel) dX3_isNext_12 (oP3 hX) (ht.1.2.2.2.2.2.2.2.1) ?_
    refine lv_aload_n hx hb dX3_isNext_15 rfl (lv_at hl 0 rfl) ?_
    refine pgI 3 2 (by decide) rfl (by decide) (Or.inl rfl) rfl C w hi3 (by decide +kernel) dX3_isNext_16 (oP3 hX) (v := nI q0) ht.2.2.2 ?_
    refine paB C w dX3_isNext_19 (oP7 hX (by decide)) (n := q0) rfl (oN70 hX) (by omega) (by decide) (v := T q0) (by rw [ht.2.1]) ?_
    refine lv_iload_n hx hb dX3_isNext_20 rfl (lv_at hl 1 rfl) ?_
    refine lv_icmp_ne (tgt := 28) hx hb dX3_isNext_21 (by decide) (fun c_21 => ?_) (fun c_21 => ?_)
    · have hh : ¬ hr T tl q0 = c2 := by rw [hr_lt hlt]; exact c_21
      refine lv_iconst (v := 0) hx hb dX3_isNext_28 (by decide) ?_
      exact hret _ _ _ _ _ _ dX3_isNext_29 w (by decide) ⟨by first | exact Or.inl ⟨rfl, hh⟩ | exact Or.inr ⟨rfl, hh⟩, rfl⟩
    · have hh : hr T tl q0 = c2 := by rw [hr_lt hlt]; exact c_21
      refine lv_iconst (v := 1) hx hb dX3_isNext_24 (by decide) ?_
      refine lv_goto (tgt := 29) hx hb dX3_isNext_25 (by decide) ?_
      exact hret _ _ _ _ _ _ dX3_isNext_29 w (by decide) ⟨by first | exact Or.inl ⟨rfl, hh⟩ | exact Or.inr ⟨rfl, hh⟩, rfl⟩

set_option maxHeartbeats 4000000 in
set_option maxRecDepth 100000 in
/-- nextDigit -/
theorem c_X3_nextDigit (l : Launch) (G : GT) (hX : okX G) (S : PS) (T : Nat → Int32) (tl q0 : Nat) (ht : tpX S T tl q0) (h300 : tl ≤ 300) (hq0 : q0 ≤ tl)  : CtI l G yX3_nextDigit wsX3_nextDigit (rmK 0 0) [.ref (gA G 3 0)] S (fun v S2 => v = dgv (hr T tl q0) ∧ S2 = S) := by
  refine ofCtI (cc := cX3_nextDigit) (nL := 1) RX3 (by decide +kernel) rfl rfl (Nat.le_of_ble_eq_true rfl) ?_
  intro p e s m args below meth c A Q ls C w hl hret
  have hx := C.1
  have hb := C.2.1
  have hown := C.2.2.2.1
  have hts := C.2.2.2.2.1
  have hi3 : ∀ w ∈ wsX30, w ∈ wsX3_nextDigit := by decide +kernel
  refine lv_aload_n hx hb dX3_nextDigit_0 rfl (lv_at hl 0 rfl) ?_
  refine pgI 3 2 (by decide) rfl (by decide) (Or.inl rfl) rfl C w hi3 (by decide +kernel) dX3_nextDigit_1 (oP3 hX) (v := nI q0) ht.2.2.2 ?_
  refine lv_aload_n hx hb dX3_nextDigit_4 rfl (lv_at hl 0 rfl) ?_
  refine pgI 3 1 (by decide) rfl (by decide) (Or.inl rfl) rfl C w hi3 (by decide +kernel) dX3_nextDigit_5 (oP3 hX) (v := nI tl) ht.2.2.1 ?_
  refine lv_icmp_ge (tgt := 39) hx hb dX3_nextDigit_8 (by decide) (fun c_8 => ?_) (fun c_8 => ?_)
  · have hh : ¬ dig (hr T tl q0) := ndig_end ((nI_leI (by omega) (by omega)).mp c_8)
    refine lv_iconst (v := (-1)) hx hb dX3_nextDigit_39 (by decide) ?_
    exact hret _ _ _ _ _ _ dX3_nextDigit_40 w ⟨by unfold dgv; rw [if_neg hh], rfl⟩
  · have hlt : q0 < tl := by have := mt (nI_leI (a := tl) (b := q0) (by omega) (by omega)).mpr c_8; omega
    refine lv_aload_n hx hb dX3_nextDigit_11 rfl (lv_at hl 0 rfl) ?_
    refine pgQ 3 0 7 (by decide) rfl (by decide) rfl rfl C w hi3 (by decide +kernel) dX3_nextDigit_12 (oP3 hX) (ht.1.2.2.2.2.2.2.2.1) ?_
    refine lv_aload_n hx hb dX3_nextDigit_15 rfl (lv_at hl 0 rfl) ?_
    refine pgI 3 2 (by decide) rfl (by decide) (Or.inl rfl) rfl C w hi3 (by decide +kernel) dX3_nextDigit_16 (oP3 hX) (v := nI q0) ht.2.2.2 ?_
    refine paB C w dX3_nextDigit_19 (oP7 hX (by decide)) (n := q0) rfl (oN70 hX) (by omega) (by decide) (v := T q0) (by rw [ht.2.1]) ?_
    refine lv_bipush (v := 48) hx hb dX3_nextDigit_20 (by decide) ?_
    refine lv_icmp_lt (tgt := 39) hx hb dX3_nextDigit_22 (by decide) (fun c_22 => ?_) (fun c_22 => ?_)
    · have hh : ¬ dig (hr T tl q0) := by rw [hr_lt hlt]; rw [Int32.lt_iff_toInt_lt, show (48 : Int32).toInt = 48 from rfl] at c_22; exact fun x => absurd x.1 (by omega)
      refine lv_iconst (v := (-1)) hx hb dX3_nextDigit_39 (by decide) ?_
      exact hret _ _ _ _ _ _ dX3_nextDigit_40 w ⟨by unfold dgv; rw [if_neg hh], rfl⟩
    · refine lv_aload_n hx hb dX3_nextDigit_25 rfl (lv_at hl 0 rfl) ?_
      refine pgQ 3 0 7 (by decide) rfl (by decide) rfl rfl C w hi3 (by decide +kernel) dX3_nextDigit_26 (oP3 hX) (ht.1.2.2.2.2.2.2.2.1) ?_
      refine lv_aload_n hx hb dX3_nextDigit_29 rfl (lv_at hl 0 rfl) ?_
      refine pgI 3 2 (by decide) rfl (by decide) (Or.inl rfl) rfl C w hi3 (by decide +kernel) dX3_nextDigit_30 (oP3 hX) (v := nI q0) ht.2.2.2 ?_
      refine paB C w dX3_nextDigit_33 (oP7 hX (by decide)) (n := q0) rfl (oN70 hX) (by omega) (by decide) (v := T q0) (by rw [ht.2.1]) ?_
      refine lv_bipush (v := 57) hx hb dX3_nextDigit_34 (by decide) ?_
      refine lv_icmp_le (tgt := 41) hx hb dX3_nextDigit_36 (by decide) (fun c_36 => ?_) (fun c_36 => ?_)
      · have hh : dig (hr T tl q0) := by rw [hr_lt hlt]; rw [Int32.lt_iff_toInt_lt, show (48 : Int32).toInt = 48 from rfl] at c_22; rw [Int32.le_iff_toInt_le, show (57 : Int32).toInt = 57 from rfl] at c_36; exact ⟨by omega, by omega⟩
        refine lv_aload_n hx hb dX3_nextDigit_41 rfl (lv_at hl 0 rfl) ?_
        refine pgQ 3 0 7 (by decide) rfl (by decide) rfl rfl C w hi3 (by decide +kernel) dX3_nextDigit_42 (oP3 hX) (ht.1.2.2.2.2.2.2.2.1) ?_
        refine lv_aload_n hx hb dX3_nextDigit_45 rfl (lv_at hl 0 rfl) ?_
        refine pgI 3 2 (by decide) rfl (by decide) (Or.inl rfl) rfl C w hi3 (by decide +kernel) dX3_nextDigit_46 (oP3 hX) (v := nI q0) ht.2.2.2 ?_
        refine paB C w dX3_nextDigit_49 (oP7 hX (by decide)) (n := q0) rfl (oN70 hX) (by omega) (by decide) (v := T q0) (by rw [ht.2.1]) ?_
        refine lv_bipush (v := 48) hx hb dX3_nextDigit_50 (by decide) ?_
        refine lv_isub hx hb dX3_nextDigit_52 ?_
        exact hret _ _ _ _ _ _ dX3_nextDigit_53 w ⟨by unfold dgv; rw [if_pos hh, hr_lt hlt], rfl⟩
      · have hh : ¬ dig (hr T tl q0) := by rw [hr_lt hlt]; rw [Int32.le_iff_toInt_le, show (57 : Int32).toInt = 57 from rfl] at c_36; exact fun x => absurd x.2 (by omega)
        refine lv_iconst (v := (-1)) hx hb dX3_nextDigit_39 (by decide) ?_
        exact hret _ _ _ _ _ _ dX3_nextDigit_40 w ⟨by unfold dgv; rw [if_neg hh], rfl⟩

set_option maxHeartbeats 4000000 in
set_option maxRecDepth 100000 in
/-- parseNumber -/
theorem c_X3_parseNumber (l : Launch) (G : GT) (hX : okX G) (S : PS) (T : Nat → Int32) (tl q0 : Nat) (ht : tpX S T tl q0) (h300 : tl ≤ 300) (hq0 : q0 ≤ tl) (r lv : Nat) (hr9 : r < 79) (hlv : lv < 12) : CtI l G yX3_parseNumber wsX3_parseNumber (rmK 1 21) [.ref (gA G 3 0), .ref (gA G 2 r), .int (nI lv)] S (fun v S2 => if (num (hr T tl) tl q0).2.2 = 0 then v = 0 ∧ S2 = (uI S 3 0 2 (nI (num (hr T tl) tl q0).1)) else v = 1 ∧ S2 = uJ (uI S 3 0 2 (nI (num (hr T tl) tl q0).1)) 9 r lv (Int64.ofInt (num (hr T tl) tl q0).2.1)) := by
  refine ofCtZ (cc := cX3_parseNumber) (nL := 11) RX3 (by decide +kernel) rfl rfl (Nat.le_of_ble_eq_true rfl) ?_
  intro p e s m args below meth c A Q ls C w hl hret
  have hx := C.1
  have hb := C.2.1
  have hown := C.2.2.2.1
  have hts := C.2.2.2.2.1
  have hi2 : ∀ w ∈ wsX20, w ∈ wsX3_parseNumber := by decide +kernel
  have hi3 : ∀ w ∈ wsX30, w ∈ wsX3_parseNumber := by decide +kernel
  refine lv_aload_n hx hb dX3_parseNumber_0 rfl (lv_at hl 0 rfl) ?_
  refine lv_bipush (v := 45) hx hb dX3_parseNumber_1 (by decide) ?_
  refine cvI (n := 1) C w hl dX3_parseNumber_3 (c_X3_isNext l G hX S T tl q0 ht h300 hq0 45 (by decide)) gX3_parseNumber_X3_isNext rfl (by decide +kernel) rfl rfl (Nat.le_of_ble_eq_true rfl) ⟨by decide, by decide⟩ (by decide) rfl (oP3 hX) (fun v1 S9 H locs hp w => ?_)
  obtain ⟨q1, e0⟩ := hp
  rw [e0] at w
  have hml := mp_le (T := T) hq0
  have htm := ht.at (mp (hr T tl) q0)
  refine lv_istore_n hx hb dX3_parseNumber_6 rfl hl (by decide) rfl (fun ls hl => ?_)
  have join_21 : ∀  (H : Heap) (locs : List Loc) (ls : Array Slot), Wd G A s.heap (uI S 3 0 2 (nI (mp (hr T tl) q0))) H locs → lv_has ls 11 [(0, .ref (gA G 3 0)), (1, .ref (gA G 2 r)), (2, .int (nI lv)), (3, .int v1)] → W p l e (rmK 1 21) s m args below meth c H locs 0 0 Q (F0 m 21 ls []) := by
    intro  H locs ls  w hl
    refine lv_aload_n hx hb dX3_parseNumber_21 rfl (lv_at hl 0 rfl) ?_
    refine cvI (n := 0) C w hl dX3_parseNumber_22 (c_X3_nextDigit l G hX (uI S 3 0 2 (nI (mp (hr T tl) q0))) T tl (mp (hr T tl) q0) htm h300 hml) gX3_parseNumber_X3_nextDigit rfl (by decide +kernel) rfl rfl (Nat.le_of_ble_eq_true rfl) ⟨by decide, by decide⟩ (by decide) rfl (oP3 hX) (fun v4 S9 H locs hp w => ?_)
    obtain ⟨rfl, e0⟩ := hp
    rw [e0] at w
    refine lv_istore hx hb dX3_parseNumber_25 hl (by decide) rfl (fun ls hl => ?_)
    have join_43 : ∀  (H : Heap) (locs : List Loc) (ls : Array Slot), (¬ noN (hr T tl) q0) → Wd G A s.heap (uI S 3 0 2 (nI (mp (hr T tl) q0))) H locs → lv_has ls 11 [(0, .ref (gA G 3 0)), (1, .ref (gA G 2 r)), (2, .int (nI lv)), (3, .int v1), (4, .int (dgv (hr T tl (mp (hr T tl) q0))))] → W p l e (rmK 1 21) s m args below meth c H locs 0 0 Q (F0 m 43 ls []) := by
      intro  H locs ls hn w hl
      have join_56 : ∀ (x : Int64) (H : Heap) (locs : List Loc) (ls : Array Slot), (x.toInt = lo (bN (hr T tl) q0)) → Wd G A s.heap (uI S 3 0 2 (nI (mp (hr T tl) q0))) H locs → lv_has ls 11 [(0, .ref (gA G 3 0)), (1, .ref (gA G 2 r)), (2, .int (nI lv)), (3, .int v1), (4, .int (dgv (hr T tl (mp (hr T tl) q0))))] → W p l e (rmK 1 21) s m args below meth c H locs 0 0 Q (F0 m 56 ls [.long x]) := by
        intro x H locs ls hx5 w hl
        refine lv_lstore hx hb dX3_parseNumber_56 hl (by decide) rfl (fun ls hl => ?_)
        have join_69 : ∀ (mo : Nat) (H : Heap) (locs : List Loc) (ls : Array Slot), (mo = if dgv (hr T tl (mp (hr T tl) q0)) = 0 then 1 else 19) → Wd G A s.heap (uI S 3 0 2 (nI (mp (hr T tl) q0))) H locs → lv_has ls 11 [(0, .ref (gA G 3 0)), (1, .ref (gA G 2 r)), (2, .int (nI lv)), (3, .int v1), (4, .int (dgv (hr T tl (mp (hr T tl) q0)))), (5, .long x)] → W p l e (rmK 1 21) s m args below meth c H locs 0 0 Q (F0 m 69 ls [.int (nI mo)]) := by
          intro mo H locs ls hmo w hl
          refine lv_istore hx hb dX3_parseNumber_69 hl (by decide) rfl (fun ls hl => ?_)
          have hgn := gatC_num hn hq0
          rw [← hmo] at hgn
          have hmo19 : mo ≤ 19 := by rw [hmo]; split <;> decide
          have join_139 : ∀ (q : Nat) (V : Int) (H : Heap) (locs : List Loc) (ls : Array Slot), ((q, V) = ((num (hr T tl) tl q0).1, if hr T tl q0 = 45 then (num (hr T tl) tl q0).2.1 else -(num (hr T tl) tl q0).2.1)) → Wd G A s.heap (uI S 3 0 2 (nI q)) H locs → lv_has ls 11 [(1, .ref (gA G 2 r)), (2, .int (nI lv)), (3, .int v1), (8, .long (Int64.ofInt V))] → W p l e (rmK 1 21) s m args below meth c H locs 0 0 Q (F0 m 139 ls []) := by
            intro q V H locs ls hR w hl
            obtain ⟨hq9, hV9⟩ := Prod.mk.inj hR
            subst hq9
            subst hV9
            refine lv_aload_n hx hb dX3_parseNumber_139 rfl (lv_at hl 0 rfl) ?_
            refine pgQ 2 3 9 (by decide) rfl (by decide) rfl rfl C w hi2 (by decide +kernel) dX3_parseNumber_140 (oP2 hX hr9) (lk2 ht.1 hr9) ?_
            refine lv_iload_n hx hb dX3_parseNumber_143 rfl (lv_at hl 1 rfl) ?_
            refine lv_iload_n hx hb dX3_parseNumber_144 rfl (lv_at hl 2 rfl) ?_
            refine lv_if_eq (tgt := 153) hx hb dX3_parseNumber_145 (by decide) (fun c_145 => ?_) (fun c_145 => ?_)
            · refine lv_lload hx hb dX3_parseNumber_153 (lv_at hl 3 rfl) ?_
              refine lv_lneg hx hb dX3_parseNumber_155 ?_
              refine psJ C w dX3_parseNumber_156 (oP9 hX hr9) rfl (oN9 hX hr9) (by omega) (by decide) (fun H locs w => ?_)
              refine lv_iconst (v := 1) hx hb dX3_parseNumber_157 (by decide) ?_
              exact hret _ _ _ _ _ _ dX3_parseNumber_158 w (by decide) (by rw [if_neg (num_1 hn)]; exact ⟨rfl, by first | rw [if_pos (yes_of q1 c_145)] | rw [if_neg (no_of q1 c_145), Int64.ofInt_neg, Int64.neg_neg]⟩)
            · refine lv_lload hx hb dX3_parseNumber_148 (lv_at hl 3 rfl) ?_
              refine lv_goto (tgt := 156) hx hb dX3_parseNumber_150 (by decide) ?_
              refine psJ C w dX3_parseNumber_156 (oP9 hX hr9) rfl (oN9 hX hr9) (by omega) (by decide) (fun H locs w => ?_)
              refine lv_iconst (v := 1) hx hb dX3_parseNumber_157 (by decide) ?_
              exact hret _ _ _ _ _ _ dX3_parseNumber_158 w (by decide) (by rw [if_neg (num_1 hn)]; exact ⟨rfl, by first | rw [if_pos (yes_of q1 c_145)] | rw [if_neg (no_of q1 c_145), Int64.ofInt_neg, Int64.neg_neg]⟩)
          refine lv_lconst (v := 0) hx hb dX3_parseNumber_71 (by decide) ?_
          refine lv_lstore hx hb dX3_parseNumber_72 hl (by decide) rfl (fun ls hl => ?_)
          refine lv_iconst (v := 0) hx hb dX3_parseNumber_74 (by decide) ?_
          refine lv_istore hx hb dX3_parseNumber_75 hl (by decide) rfl (fun ls hl => ?_)
          have loop_77 : ∀ (n : Nat) (i q : Nat) (V : Int) (H : Heap) (locs : List Loc) (ls : Array Slot), (q + n = tl) → (i ≤ 19) → (V ≤ 0) → (lo (bN (hr T tl) q0) ≤ V) → (gatC (hr T tl) (bN (hr T tl) q0) mo n i q V = ((num (hr T tl) tl q0).1, if hr T tl q0 = 45 then (num (hr T tl) tl q0).2.1 else -(num (hr T tl) tl q0).2.1)) → Wd G A s.heap (uI S 3 0 2 (nI q)) H locs → lv_has ls 11 [(0, .ref (gA G 3 0)), (1, .ref (gA G 2 r)), (2, .int (nI lv)), (3, .int v1), (4, .int (dgv (hr T tl q))), (5, .long x), (7, .int (nI mo)), (8, .long (Int64.ofInt V)), (10, .int (nI i))] → W p l e (rmK 1 21) s m args below meth c H locs 0 0 Q (F0 m 77 ls []) := by
            intro n
            induction n with
            | zero =>
              intro i q V H locs ls hq hi hV hV2 hg w hl
              refine lv_iload hx hb dX3_parseNumber_77 (lv_at hl 8 rfl) ?_
              refine lv_iload hx hb dX3_parseNumber_79 (lv_at hl 6 rfl) ?_
              refine lv_icmp_ge (tgt := 139) hx hb dX3_parseNumber_81 (by decide) (fun c_81 => ?_) (fun c_81 => ?_)
              · have hR : (q, V) = ((num (hr T tl) tl q0).1, if hr T tl q0 = 45 then (num (hr T tl) tl q0).2.1 else -(num (hr T tl) tl q0).2.1) := hg
                exact join_139 q V _ _ _ hR w (lv_sub hl [1, 2, 3, 7] rfl)
              · refine lv_iload hx hb dX3_parseNumber_84 (lv_at hl 4 rfl) ?_
                refine lv_if_lt (tgt := 139) hx hb dX3_parseNumber_86 (by decide) (fun c_86 => ?_) (fun c_86 => absurd (dgv_neg.mpr (ndig_end (by omega))) c_86)
                have hR : (q, V) = ((num (hr T tl) tl q0).1, if hr T tl q0 = 45 then (num (hr T tl) tl q0).2.1 else -(num (hr T tl) tl q0).2.1) := hg
                exact join_139 q V _ _ _ hR w (lv_sub hl [1, 2, 3, 7] rfl)
            | succ n ih =>
              intro i q V H locs ls hq hi hV hV2 hg w hl
              refine lv_iload hx hb dX3_parseNumber_77 (lv_at hl 8 rfl) ?_
              refine lv_iload hx hb dX3_parseNumber_79 (lv_at hl 6 rfl) ?_
              refine lv_icmp_ge (tgt := 139) hx hb dX3_parseNumber_81 (by decide) (fun c_81 => ?_) (fun c_81 => ?_)
              · have hR : (q, V) = ((num (hr T tl) tl q0).1, if hr T tl q0 = 45 then (num (hr T tl) tl q0).2.1 else -(num (hr T tl) tl q0).2.1) := by
                  unfold gatC at hg
                  rw [if_neg (fun x => absurd x.1 (by have := (nI_leI (a := mo) (b := i) (by omega) (by omega)).mp c_81; omega))] at hg
                  exact hg
                exact join_139 q V _ _ _ hR w (lv_sub hl [1, 2, 3, 7] rfl)
              · have hlt : i < mo := by have := mt (nI_leI (a := mo) (b := i) (by omega) (by omega)).mpr c_81; omega
                refine lv_iload hx hb dX3_parseNumber_84 (lv_at hl 4 rfl) ?_
                refine lv_if_lt (tgt := 139) hx hb dX3_parseNumber_86 (by decide) (fun c_86 => ?_) (fun c_86 => ?_)
                · have hR : (q, V) = ((num (hr T tl) tl q0).1, if hr T tl q0 = 45 then (num (hr T tl) tl q0).2.1 else -(num (hr T tl) tl q0).2.1) := by
                    unfold gatC at hg
                    rw [if_neg (fun x => absurd x.2.1 (dgv_neg.mp c_86))] at hg
                    exact hg
                  exact join_139 q V _ _ _ hR w (lv_sub hl [1, 2, 3, 7] rfl)
                · have hdg : dig (hr T tl q) := Classical.byContradiction fun x => c_86 (dgv_neg.mpr x)
                  refine lv_lload hx hb dX3_parseNumber_89 (lv_at hl 7 rfl) ?_
                  refine lv_lload hx hb dX3_parseNumber_91 (lv_at hl 5 rfl) ?_
                  refine lv_iload hx hb dX3_parseNumber_93 (lv_at hl 4 rfl) ?_
                  refine lv_i2l hx hb dX3_parseNumber_95 rfl ?_
                  refine lv_ladd hx hb dX3_parseNumber_96 ?_
                  refine lv_ldc2 (v := (10)) hx hb hown (hts (.constantLong RX3 71 (10)) (by decide +kernel)) dX3_parseNumber_97 ?_
                  refine lv_ldiv hx hb dX3_parseNumber_100 (by decide) ?_
                  refine W.lcmp hx hb dX3_parseNumber_101 ?_
                  refine lv_if_lt (tgt := 139) hx hb dX3_parseNumber_102 (by decide) (fun c_102 => ?_) (fun c_102 => ?_)
                  · rw [lg_cmp_lt] at c_102
                    have hR : (q, V) = ((num (hr T tl) tl q0).1, if hr T tl q0 = 45 then (num (hr T tl) tl q0).2.1 else -(num (hr T tl) tl q0).2.1) := by
                      unfold gatC at hg
                      rw [if_neg (fun x => absurd x.2.2 ((fitL hx5 hV hV2 hdg).mp c_102))] at hg
                      exact hg
                    exact join_139 q V _ _ _ hR w (lv_sub hl [1, 2, 3, 7] rfl)
                  · rw [lg_cmp_lt] at c_102
                    have hfit : lo (bN (hr T tl) q0) ≤ 10 * V - ((hr T tl q).toInt - 48) := Classical.byContradiction fun x => c_102 ((fitL hx5 hV hV2 hdg).mpr x)
                    refine lv_lload hx hb dX3_parseNumber_105 (lv_at hl 7 rfl) ?_
                    refine lv_ldc2 (v := (10)) hx hb hown (hts (.constantLong RX3 71 (10)) (by decide +kernel)) dX3_parseNumber_107 ?_
                    refine lv_lmul hx hb dX3_parseNumber_110 ?_
                    refine lv_iload hx hb dX3_parseNumber_111 (lv_at hl 4 rfl) ?_
                    refine lv_i2l hx hb dX3_parseNumber_113 rfl ?_
                    refine lv_lsub hx hb dX3_parseNumber_114 ?_
                    rw [stepL hdg]
                    refine lv_lstore hx hb dX3_parseNumber_115 hl (by decide) rfl (fun ls hl => ?_)
                    refine lv_aload_n hx hb dX3_parseNumber_117 rfl (lv_at hl 1 rfl) ?_
                    refine lv_dup hx hb dX3_parseNumber_118 rfl ?_
                    refine pgI 3 2 (by decide) rfl (by decide) (Or.inl rfl) rfl C w hi3 (by decide +kernel) dX3_parseNumber_119 (oP3 hX) (v := nI q) (by rw [sI_uI, if_pos ⟨rfl, rfl, rfl⟩]) ?_
                    refine lv_iconst (v := 1) hx hb dX3_parseNumber_122 (by decide) ?_
                    refine lv_iadd hx hb dX3_parseNumber_123 ?_
                    refine ppI 3 2 (by decide) rfl (by decide) rfl rfl tyX3_ok nmX3 rfl (by decide +kernel) C w hi3 (by decide +kernel) dX3_parseNumber_124 (oP3 hX) (fun H locs w => ?_)
                    rw [uI_uI, nI_1] at w
                    refine lv_aload_n hx hb dX3_parseNumber_127 rfl (lv_at hl 1 rfl) ?_
                    refine cvI (n := 0) C w hl dX3_parseNumber_128 (c_X3_nextDigit l G hX (uI S 3 0 2 (nI (q + 1))) T tl (q + 1) (ht.at (q + 1)) h300 (by omega)) gX3_parseNumber_X3_nextDigit rfl (by decide +kernel) rfl rfl (Nat.le_of_ble_eq_true rfl) ⟨by decide, by decide⟩ (by decide) rfl (oP3 hX) (fun v4 S9 H locs hp w => ?_)
                    obtain ⟨rfl, e0⟩ := hp
                    rw [e0] at w
                    refine lv_istore hx hb dX3_parseNumber_131 hl (by decide) rfl (fun ls hl => ?_)
                    refine lv_iinc (v := nI (i + 1)) hx hb dX3_parseNumber_133 hl (k := 8) rfl (nI_1 i) (by decide) rfl (fun ls hl => ?_)
                    refine lv_goto (tgt := 77) hx hb dX3_parseNumber_136 (by decide) ?_
                    unfold gatC at hg
                    rw [if_pos ⟨hlt, hdg, hfit⟩] at hg
                    exact ih (i + 1) (q + 1) _ _ _ _ (by omega) (by omega) (by have := hdg.1; omega) hfit hg w (lv_sub hl [3, 4, 5, 6, 1, 7, 8, 2, 0] rfl)
          exact loop_77 (tl - (mp (hr T tl) q0)) 0 (mp (hr T tl) q0) 0 _ _ _ (by omega) (by omega) (Int.le_refl _) (by unfold lo; split <;> decide) hgn w (lv_sub hl [3, 4, 5, 6, 7, 8, 2, 1, 0] rfl)
        refine lv_iload hx hb dX3_parseNumber_58 (lv_at hl 5 rfl) ?_
        refine lv_if_ne (tgt := 67) hx hb dX3_parseNumber_60 (by decide) (fun c_60 => ?_) (fun c_60 => ?_)
        · have hm1 : 19 = if dgv (hr T tl (mp (hr T tl) q0)) = 0 then 1 else 19 := by rw [if_neg c_60]
          refine lv_bipush (v := 19) hx hb dX3_parseNumber_67 (by decide) ?_
          exact join_69 _ _ _ _ hm1 w (lv_sub hl [1, 2, 3, 4, 5, 0] rfl)
        · have hm1 : 1 = if dgv (hr T tl (mp (hr T tl) q0)) = 0 then 1 else 19 := by rw [if_pos c_60]
          refine lv_iconst (v := 1) hx hb dX3_parseNumber_63 (by decide) ?_
          refine lv_goto (tgt := 69) hx hb dX3_parseNumber_64 (by decide) ?_
          exact join_69 _ _ _ _ hm1 w (lv_sub hl [1, 2, 3, 4, 5, 0] rfl)
      refine lv_iload_n hx hb dX3_parseNumber_43 rfl (lv_at hl 3 rfl) ?_
      refine lv_if_eq (tgt := 53) hx hb dX3_parseNumber_44 (by decide) (fun c_44 => ?_) (fun c_44 => ?_)
      · have hle : (-9223372036854775807 : Int64).toInt = lo (bN (hr T tl) q0) := by unfold lo; rw [if_neg (fun x => no_of q1 c_44 (of_decide_eq_true x))]; decide
        refine lv_ldc2 (v := (-9223372036854775807)) hx hb hown (hts (.constantLong RX3 69 (-9223372036854775807)) (by decide +kernel)) dX3_parseNumber_53 ?_
        exact join_56 _ _ _ _ hle w (lv_sub hl [0, 1, 2, 3, 4] rfl)
      · have hle : (-9223372036854775808 : Int64).toInt = lo (bN (hr T tl) q0) := by unfold lo; rw [if_pos (decide_eq_true (yes_of q1 c_44))]; decide
        refine lv_ldc2 (v := (-9223372036854775808)) hx hb hown (hts (.constantLong RX3 67 (-9223372036854775808)) (by decide +kernel)) dX3_parseNumber_47 ?_
        refine lv_goto (tgt := 56) hx hb dX3_parseNumber_50 (by decide) ?_
        exact join_56 _ _ _ _ hle w (lv_sub hl [0, 1, 2, 3, 4] rfl)
    refine lv_iload hx hb dX3_parseNumber_27 (lv_at hl 0 rfl) ?_
    refine lv_iload_n hx hb dX3_parseNumber_29 rfl (lv_at hl 4 rfl) ?_
    refine lv_if_eq (tgt := 37) hx hb dX3_parseNumber_30 (by decide) (fun c_30 => ?_) (fun c_30 => ?_)
    · refine lv_iconst (v := 0) hx hb dX3_parseNumber_37 (by decide) ?_
      refine lv_icmp_ge (tgt := 43) hx hb dX3_parseNumber_38 (by decide) (fun c_38 => ?_) (fun c_38 => ?_)
      · have hn : ¬ noN (hr T tl) q0 := by first | exact (fun x => absurd ((noN_0 (no_of q1 c_30)).mp x) (Int32.not_lt.mpr c_38)) | exact (fun x => absurd ((noN_1 (yes_of q1 c_30)).mp x) (Int32.not_lt.mpr c_38))
        exact join_43 _ _ _ hn w (lv_sub hl [1, 2, 3, 4, 0] rfl)
      · have hn : noN (hr T tl) q0 := by first | exact (noN_0 (no_of q1 c_30)).mpr (Int32.not_le.mp c_38) | exact (noN_1 (yes_of q1 c_30)).mpr (Int32.not_le.mp c_38)
        refine lv_iconst (v := 0) hx hb dX3_parseNumber_41 (by decide) ?_
        exact hret _ _ _ _ _ _ dX3_parseNumber_42 w (by decide) (by rw [num_0 hn, if_pos rfl]; exact ⟨rfl, rfl⟩)
    · refine lv_iconst (v := 1) hx hb dX3_parseNumber_33 (by decide) ?_
      refine lv_goto (tgt := 38) hx hb dX3_parseNumber_34 (by decide) ?_
      refine lv_icmp_ge (tgt := 43) hx hb dX3_parseNumber_38 (by decide) (fun c_38 => ?_) (fun c_38 => ?_)
      · have hn : ¬ noN (hr T tl) q0 := by first | exact (fun x => absurd ((noN_0 (no_of q1 c_30)).mp x) (Int32.not_lt.mpr c_38)) | exact (fun x => absurd ((noN_1 (yes_of q1 c_30)).mp x) (Int32.not_lt.mpr c_38))
        exact join_43 _ _ _ hn w (lv_sub hl [1, 2, 3, 4, 0] rfl)
      · have hn : noN (hr T tl) q0 := by first | exact (noN_0 (no_of q1 c_30)).mpr (Int32.not_le.mp c_38) | exact (noN_1 (yes_of q1 c_30)).mpr (Int32.not_le.mp c_38)
        refine lv_iconst (v := 0) hx hb dX3_parseNumber_41 (by decide) ?_
        exact hret _ _ _ _ _ _ dX3_parseNumber_42 w (by decide) (by rw [num_0 hn, if_pos rfl]; exact ⟨rfl, rfl⟩)
  refine lv_iload_n hx hb dX3_parseNumber_7 rfl (lv_at hl 0 rfl) ?_
  refine lv_if_eq (tgt := 21) hx hb dX3_parseNumber_8 (by decide) (fun c_8 => ?_) (fun c_8 => ?_)
  · have hb := no_of q1 c_8
    have hwj : Wd G A s.heap (uI S 3 0 2 (nI (mp (hr T tl) q0))) H locs := by rw [mp_0 hb, uI_self S 3 0 2 ht.2.2.2]; exact w
    exact join_21 _ _ _ hwj (lv_sub hl [1, 2, 3, 0] rfl)
  · have hb2 := yes_of q1 c_8
    refine lv_aload_n hx hb dX3_parseNumber_11 rfl (lv_at hl 1 rfl) ?_
    refine lv_dup hx hb dX3_parseNumber_12 rfl ?_
    refine pgI 3 2 (by decide) rfl (by decide) (Or.inl rfl) rfl C w hi3 (by decide +kernel) dX3_parseNumber_13 (oP3 hX) (v := nI q0) ht.2.2.2 ?_
    refine lv_iconst (v := 1) hx hb dX3_parseNumber_16 (by decide) ?_
    refine lv_iadd hx hb dX3_parseNumber_17 ?_
    refine ppI 3 2 (by decide) rfl (by decide) rfl rfl tyX3_ok nmX3 rfl (by decide +kernel) C w hi3 (by decide +kernel) dX3_parseNumber_18 (oP3 hX) (fun H locs w => ?_)
    have hwj : Wd G A s.heap (uI S 3 0 2 (nI (mp (hr T tl) q0))) H locs := by rw [mp_1 hb2, ← nI_1]; exact w
    exact join_21 _ _ _ hwj (lv_sub hl [1, 2, 3, 0] rfl)

set_option maxHeartbeats 4000000 in
set_option maxRecDepth 100000 in
/-- parseWord -/
theorem c_X3_parseWord (l : Launch) (G : GT) (k : SK) (hX : okX G) (S : PS) (T : Nat → Int32) (tl q0 : Nat) (ht : tpX S T tl q0) (h300 : tl ≤ 300) (hq0 : q0 ≤ tl) (i : Nat) (hi : i < 6) : CkI l G k yX3_parseWord wsX3_parseWord (rmK 5 106) [.ref (gA G 3 0), .ref (k.1 i)] S (fun v S2 => ((v = 1 ∧ (wrd (hr T tl) (sTx i) q0).2 = true) ∨ (v = 0 ∧ ¬ (wrd (hr T tl) (sTx i) q0).2 = true)) ∧ S2 = (uI S 3 0 2 (nI (wrd (hr T tl) (sTx i) q0).1))) := by
  refine ofCkN (cc := cX3_parseWord) (nL := 3) .boolean RX3 (by decide +kernel) rfl rfl (Nat.le_of_ble_eq_true rfl) ?_
  intro p e s m args below meth c A Q ls C hk w hl hret
  have hx := C.1
  have hb := C.2.1
  have hown := C.2.2.2.1
  have hts := C.2.2.2.2.1
  have hi3 : ∀ w ∈ wsX30, w ∈ wsX3_parseWord := by decide +kernel
  refine lv_iconst (v := 0) hx hb dX3_parseWord_0 (by decide) ?_
  refine lv_istore_n hx hb dX3_parseWord_1 rfl hl (by decide) rfl (fun ls hl => ?_)
  have loop_2 : ∀ (n : Nat) (j : Nat) (H : Heap) (locs : List Loc) (ls : Array Slot), (j + n = sLen.getD i 0) → (q0 + j ≤ tl) → (wrd (hr T tl) ((sTx i).drop j) (q0 + j) = (wrd (hr T tl) (sTx i) q0)) → Wd G A s.heap (uI S 3 0 2 (nI (q0 + j))) H locs → lv_has ls 3 [(0, .ref (gA G 3 0)), (1, .ref (k.1 i)), (2, .int (nI j))] → W p l e (rmK 5 106) s m args below meth c H locs 0 0 Q (F0 m 2 ls []) := by
    intro n
    induction n with
    | zero =>
      intro j H locs ls hj hqj hw w hl
      have htx := sTx_len i hi
      have h31 := sLen_lt hi
      have htj := ht.at (q0 + j)
      refine lv_iload_n hx hb dX3_parseWord_2 rfl (lv_at hl 2 rfl) ?_
      refine lv_aload_n hx hb dX3_parseWord_3 rfl (lv_at hl 1 rfl) ?_
      refine ktI (n := 0) hi C hk w hl dX3_parseWord_4 (c_J0_length_8abf5 l G k _ i hi) gX3_parseWord_J0_length_8abf5 rfl (by decide +kernel) rfl rfl (Nat.le_of_ble_eq_true rfl) ⟨by decide, by decide⟩ (fun v1 S7 H locs hp w => ?_)
      obtain ⟨rfl, e1⟩ := hp
      rw [e1] at w
      refine lv_icmp_ge (tgt := 40) hx hb dX3_parseWord_7 (by decide) (fun c_7 => ?_) (fun c_7 => absurd (nI_le (by omega) (by omega)) c_7)
      refine lv_iconst (v := 1) hx hb dX3_parseWord_40 (by decide) ?_
      exact hret _ _ _ _ _ _ dX3_parseWord_41 w (by decide) (by rw [List.drop_of_length_le (by omega)] at hw; rw [← hw]; exact ⟨Or.inl ⟨rfl, rfl⟩, rfl⟩)
    | succ n ih =>
      intro j H locs ls hj hqj hw w hl
      have htx := sTx_len i hi
      have h31 := sLen_lt hi
      have htj := ht.at (q0 + j)
      refine lv_iload_n hx hb dX3_parseWord_2 rfl (lv_at hl 2 rfl) ?_
      refine lv_aload_n hx hb dX3_parseWord_3 rfl (lv_at hl 1 rfl) ?_
      refine ktI (n := 0) hi C hk w hl dX3_parseWord_4 (c_J0_length_8abf5 l G k _ i hi) gX3_parseWord_J0_length_8abf5 rfl (by decide +kernel) rfl rfl (Nat.le_of_ble_eq_true rfl) ⟨by decide, by decide⟩ (fun v1 S7 H locs hp w => ?_)
      obtain ⟨rfl, e1⟩ := hp
      rw [e1] at w
      refine lv_icmp_ge (tgt := 40) hx hb dX3_parseWord_7 (by decide) (fun c_7 => absurd c_7 (nI_ge (by omega) (by omega))) (fun c_7 => ?_)
      rw [drop_s (by omega), wrd_c] at hw
      refine lv_aload_n hx hb dX3_parseWord_10 rfl (lv_at hl 0 rfl) ?_
      refine lv_aload_n hx hb dX3_parseWord_11 rfl (lv_at hl 1 rfl) ?_
      refine lv_iload_n hx hb dX3_parseWord_12 rfl (lv_at hl 2 rfl) ?_
      refine ktI (n := 1) hi C hk w hl dX3_parseWord_13 (c_J0_charAt_5068e l G k _ i hi j (by omega)) gX3_parseWord_J0_charAt_5068e rfl (by decide +kernel) rfl rfl (Nat.le_of_ble_eq_true rfl) ⟨by decide, by decide⟩ (fun v3 S8 H locs hp w => ?_)
      obtain ⟨rfl, e1⟩ := hp
      rw [e1] at w
      refine cvI (n := 1) C w hl dX3_parseWord_16 (c_X3_isNext l G hX (uI S 3 0 2 (nI (q0 + j))) T tl (q0 + j) htj h300 hqj _ (sTx_ne i hi j (by omega))) gX3_parseWord_X3_isNext rfl (by decide +kernel) rfl rfl (Nat.le_of_ble_eq_true rfl) ⟨by decide, by decide⟩ (by decide) rfl (oP3 hX) (fun v5 S9 H locs hp w => ?_)
      obtain ⟨q5, e0⟩ := hp
      rw [e0] at w
      refine lv_if_ne (tgt := 24) hx hb dX3_parseWord_19 (by decide) (fun c_19 => ?_) (fun c_19 => ?_)
      · have hh := yes_of q5 c_19
        rw [if_pos hh] at hw
        have hlt : q0 + (j + 1) ≤ tl := by
          apply Classical.byContradiction
          intro x
          rw [hr_end (by omega)] at hh
          exact sTx_ne i hi j (by omega) hh.symm
        refine lv_aload_n hx hb dX3_parseWord_24 rfl (lv_at hl 0 rfl) ?_
        refine lv_dup hx hb dX3_parseWord_25 rfl ?_
        refine pgI 3 2 (by decide) rfl (by decide) (Or.inl rfl) rfl C w hi3 (by decide +kernel) dX3_parseWord_26 (oP3 hX) (v := nI (q0 + j)) (by rw [sI_uI, if_pos ⟨rfl, rfl, rfl⟩]) ?_
        refine lv_iconst (v := 1) hx hb dX3_parseWord_29 (by decide) ?_
        refine lv_iadd hx hb dX3_parseWord_30 ?_
        refine ppI 3 2 (by decide) rfl (by decide) rfl rfl tyX3_ok nmX3 rfl (by decide +kernel) C w hi3 (by decide +kernel) dX3_parseWord_31 (oP3 hX) (fun H locs w => ?_)
        rw [uI_uI, nI_1] at w
        refine lv_iinc (v := nI (j + 1)) hx hb dX3_parseWord_34 hl (k := 2) rfl (nI_1 j) (by decide) rfl (fun ls hl => ?_)
        refine lv_goto (tgt := 2) hx hb dX3_parseWord_37 (by decide) ?_
        exact ih (j + 1) _ _ _ (by omega) hlt hw w (lv_sub hl [1, 2, 0] rfl)
      · rw [if_neg (no_of q5 (Classical.byContradiction fun x => absurd c_19 x))] at hw
        refine lv_iconst (v := 0) hx hb dX3_parseWord_22 (by decide) ?_
        exact hret _ _ _ _ _ _ dX3_parseWord_23 w (by decide) (by rw [← hw]; exact ⟨Or.inr ⟨rfl, Bool.false_ne_true⟩, rfl⟩)
  exact loop_2 (sLen.getD i 0) 0 _ _ _ (by omega) hq0 rfl (by rw [Nat.add_zero, uI_self S 3 0 2 ht.2.2.2]; exact w) (lv_sub hl [1, 2, 0] rfl)
