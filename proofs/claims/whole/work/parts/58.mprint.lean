set_option maxHeartbeats 4000000 in
set_option maxRecDepth 100000 in
/-- writeRow -/
theorem c_X6_writeRow (l : Launch) (G : GT) (hM : okM G) (S : PS) (hS : lkM S) (L : Nat) (hL : sI S 6 0 15 = nI L) (r a b : Nat) (hr : r < 61) (hab : a ≤ b) (hb12 : b ≤ 12) (h400 : L + (21 * (b - a) + 3) ≤ 400) : CtV l G yX6_writeRow wsX6_writeRow (rmK 2 49) [.ref (gA G 6 0), .int (nI r), .int (nI a), .int (nI b)] S (fun S2 => wrP 6 15 8 5 S S2 L (([91] ++ (lsT (fun k => sJ S 9 0 (12 * r + k)) a (b - a))) ++ [93])) := by
  refine ofCtV (cc := cX6_writeRow) (nL := 5) RX6 (by decide +kernel) rfl rfl (Nat.le_of_ble_eq_true rfl) ?_
  intro p e s m args below meth c A Q ls C w hl hret
  have hx := C.1
  have hb := C.2.1
  have hown := C.2.2.2.1
  have hts := C.2.2.2.2.1
  have hi6 : ∀ w ∈ wsX60, w ∈ wsX6_writeRow := by decide +kernel
  refine lv_aload_n hx hb dX6_writeRow_0 rfl (lv_at hl 0 rfl) ?_
  refine lv_bipush (v := 91) hx hb dX6_writeRow_1 (by decide) ?_
  refine cvV (n := 1) C w hl dX6_writeRow_3 (c_X6_write l G hM S hS L hL (by omega) 91) gX6_writeRow_X6_write rfl (by decide +kernel) rfl rfl (Nat.le_of_ble_eq_true rfl) ⟨by decide, by decide⟩ (by decide) rfl (oM6 hM) (fun S1 H locs hp w => ?_)
  have hw0 : wrP 6 15 8 5 S S1 L ([91] ++ []) := by
    rw [hp]
    exact wrP.ap (by decide) S L 91
  refine lv_iload_n hx hb dX6_writeRow_6 rfl (lv_at hl 2 rfl) ?_
  refine lv_istore hx hb dX6_writeRow_7 hl (by decide) rfl (fun ls hl => ?_)
  have loop_9 : ∀ (n : Nat) (j : Nat) (S2 : PS) (H : Heap) (locs : List Loc) (ls : Array Slot), (j + n = b - a) → (wrP 6 15 8 5 S S2 L ([91] ++ (lsT (fun k => sJ S 9 0 (12 * r + k)) a j))) → Wd G A s.heap S2 H locs → lv_has ls 5 [(0, .ref (gA G 6 0)), (1, .int (nI r)), (2, .int (nI a)), (3, .int (nI b)), (4, .int (nI (a + j)))] → W p l e (rmK 2 49) s m args below meth c H locs 0 0 Q (F0 m 9 ls []) := by
    intro n
    induction n with
    | zero =>
      intro j S2 H locs ls hj hw w hl
      have hle := lsT_le (fun k => sJ S 9 0 (12 * r + k)) a j
      have hS2 := lkM_of hS hw.1
      have hlb : (([91] ++ (lsT (fun k => sJ S 9 0 (12 * r + k)) a j))).length ≤ 1 + (21 * j - 1) := by rw [List.length_append]; show 1 + _ ≤ _; omega
      refine lv_iload hx hb dX6_writeRow_9 (lv_at hl 4 rfl) ?_
      refine lv_iload_n hx hb dX6_writeRow_11 rfl (lv_at hl 3 rfl) ?_
      refine lv_icmp_ge (tgt := 49) hx hb dX6_writeRow_12 (by decide) (fun c_12 => ?_) (fun c_12 => absurd (nI_le (by omega) (by omega)) c_12)
      refine lv_aload_n hx hb dX6_writeRow_49 rfl (lv_at hl 0 rfl) ?_
      refine lv_bipush (v := 93) hx hb dX6_writeRow_50 (by decide) ?_
      refine cvV (n := 1) C w hl dX6_writeRow_52 (c_X6_write l G hM S2 hS2 (L + (([91] ++ (lsT (fun k => sJ S 9 0 (12 * r + k)) a j))).length) hw.n (by omega) 93) gX6_writeRow_X6_write rfl (by decide +kernel) rfl rfl (Nat.le_of_ble_eq_true rfl) ⟨by decide, by decide⟩ (by decide) rfl (oM6 hM) (fun S8 H locs hp w => ?_)
      have hw8 : wrP 6 15 8 5 S S8 L (([91] ++ (lsT (fun k => sJ S 9 0 (12 * r + k)) a (b - a))) ++ [93]) := by
        rw [hp, show b - a = j by omega]
        exact hw.tr (by decide) (by decide) (wrP.ap (by decide) S2 _ 93)
      exact hret _ _ _ _ _ dX6_writeRow_55 w hw8
    | succ n ih =>
      intro j S2 H locs ls hj hw w hl
      have hle := lsT_le (fun k => sJ S 9 0 (12 * r + k)) a j
      have hS2 := lkM_of hS hw.1
      have hlb : (([91] ++ (lsT (fun k => sJ S 9 0 (12 * r + k)) a j))).length ≤ 1 + (21 * j - 1) := by rw [List.length_append]; show 1 + _ ≤ _; omega
      refine lv_iload hx hb dX6_writeRow_9 (lv_at hl 4 rfl) ?_
      refine lv_iload_n hx hb dX6_writeRow_11 rfl (lv_at hl 3 rfl) ?_
      refine lv_icmp_ge (tgt := 49) hx hb dX6_writeRow_12 (by decide) (fun c_12 => absurd c_12 (nI_ge (by omega) (by omega))) (fun c_12 => ?_)
      have join_27 : ∀ (S3 : PS) (t : List Int32) (H : Heap) (locs : List Loc) (ls : Array Slot), (t = (if j = 0 then [] else [47])) → (wrP 6 15 8 5 S S3 L (([91] ++ (lsT (fun k => sJ S 9 0 (12 * r + k)) a j)) ++ t)) → Wd G A s.heap S3 H locs → lv_has ls 5 [(0, .ref (gA G 6 0)), (1, .int (nI r)), (2, .int (nI a)), (3, .int (nI b)), (4, .int (nI (a + j)))] → W p l e (rmK 2 49) s m args below meth c H locs 0 0 Q (F0 m 27 ls []) := by
        intro S3 t H locs ls ht hw3 w hl
        have hS3 := lkM_of hS hw3.1
        have hln : (([91] ++ (lsT (fun k => sJ S 9 0 (12 * r + k)) a j)) ++ t).length ≤ 1 + 21 * j := by
          rw [List.length_append, List.length_append, ht]
          by_cases q : j = 0
          · rw [if_pos q, q]; exact Nat.le_refl _
          · rw [if_neg q]; show 1 + _ + 1 ≤ _; omega
        refine lv_aload_n hx hb dX6_writeRow_27 rfl (lv_at hl 0 rfl) ?_
        refine lv_aload_n hx hb dX6_writeRow_28 rfl (lv_at hl 0 rfl) ?_
        refine pgQ 6 4 9 (by decide) rfl (by decide) rfl rfl C w hi6 (by decide +kernel) dX6_writeRow_29 (oM6 hM) (hS3.2.2.2.1) ?_
        refine lv_bipush (v := 12) hx hb dX6_writeRow_32 (by decide) ?_
        refine lv_iload_n hx hb dX6_writeRow_34 rfl (lv_at hl 1 rfl) ?_
        refine lv_imul hx hb dX6_writeRow_35 ?_
        refine lv_iload hx hb dX6_writeRow_36 (lv_at hl 4 rfl) ?_
        refine lv_iadd hx hb dX6_writeRow_38 ?_
        refine paJ C w dX6_writeRow_39 (oM9 hM (by decide)) (n := 12 * r + (a + j)) (ix12 r (a + j)) (nM90 hM) (by omega) (by decide) (v := sJ S 9 0 (12 * r + (a + j))) (by rw [hw3.2.1]) ?_
        refine cvV (n := 1) C w hl dX6_writeRow_40 (c_X6_writeNumber l G hM S3 hS3 (L + (([91] ++ (lsT (fun k => sJ S 9 0 (12 * r + k)) a j)) ++ t).length) hw3.n (by omega) (sJ S 9 0 (12 * r + (a + j)))) gX6_writeRow_X6_writeNumber rfl (by decide +kernel) rfl rfl (Nat.le_of_ble_eq_true rfl) ⟨by decide, by decide⟩ (by decide) rfl (oM6 hM) (fun S9 H locs hp w => ?_)
        have hw9 : wrP 6 15 8 5 S S9 L ([91] ++ (lsT (fun k => sJ S 9 0 (12 * r + k)) a (j + 1))) := by
          have e := hw3.tr (by decide) (by decide) hp
          rw [List.append_assoc, List.append_assoc, ht] at e
          exact e
        refine lv_iinc (v := nI (a + (j + 1))) hx hb dX6_writeRow_43 hl (k := 4) rfl (nI_1 _) (by decide) rfl (fun ls hl => ?_)
        refine lv_goto (tgt := 9) hx hb dX6_writeRow_46 (by decide) ?_
        exact ih (j + 1) S9 _ _ _ (by omega) hw9 w (lv_sub hl [1, 2, 3, 4, 0] rfl)
      refine lv_iload hx hb dX6_writeRow_15 (lv_at hl 4 rfl) ?_
      refine lv_iload_n hx hb dX6_writeRow_17 rfl (lv_at hl 2 rfl) ?_
      refine lv_icmp_le (tgt := 27) hx hb dX6_writeRow_18 (by decide) (fun c_18 => ?_) (fun c_18 => ?_)
      · have h0 : j = 0 := by have := (nI_leI (a := a + j) (b := a) (by omega) (by omega)).mp c_18; omega
        have hte : ([] : List Int32) = (if j = 0 then [] else [47]) := by rw [if_pos h0]
        have hwe : wrP 6 15 8 5 S S2 L (([91] ++ (lsT (fun k => sJ S 9 0 (12 * r + k)) a j)) ++ []) := by rw [List.append_nil]; exact hw
        exact join_27 _ _ _ _ _ hte hwe w (lv_sub hl [0, 1, 2, 3, 4] rfl)
      · have h0 : ¬ j = 0 := by have := mt (nI_leI (a := a + j) (b := a) (by omega) (by omega)).mpr c_18; omega
        refine lv_aload_n hx hb dX6_writeRow_21 rfl (lv_at hl 0 rfl) ?_
        refine lv_bipush (v := 47) hx hb dX6_writeRow_22 (by decide) ?_
        refine cvV (n := 1) C w hl dX6_writeRow_24 (c_X6_write l G hM S2 hS2 (L + (([91] ++ (lsT (fun k => sJ S 9 0 (12 * r + k)) a j))).length) hw.n (by omega) 47) gX6_writeRow_X6_write rfl (by decide +kernel) rfl rfl (Nat.le_of_ble_eq_true rfl) ⟨by decide, by decide⟩ (by decide) rfl (oM6 hM) (fun S8 H locs hp w => ?_)
        have hte : ([47] : List Int32) = (if j = 0 then [] else [47]) := by rw [if_neg h0]
        have hwe : wrP 6 15 8 5 S S8 L (([91] ++ (lsT (fun k => sJ S 9 0 (12 * r + k)) a j)) ++ [47]) := by
          rw [hp]
          exact hw.tr (by decide) (by decide) (wrP.ap (by decide) S2 _ 47)
        exact join_27 _ _ _ _ _ hte hwe w (lv_sub hl [0, 1, 2, 3, 4] rfl)
  exact loop_9 (b - a) 0 S1 _ _ _ (by omega) hw0 w (lv_sub hl [1, 2, 3, 4, 0] rfl)

theorem mL0 : (mW 0).length = 4 := rfl
theorem mL1 : (mW 1).length = 6 := rfl
theorem mL2 : (mW 2).length = 4 := rfl
theorem bentT (x y : List Int32) : (((([91] ++ x) ++ [93]) ++ mW 0) ++ [47]) ++ (([91] ++ y) ++ [93]) ++ mW 2 = (((sTx 3 ++ x) ++ sTx 4) ++ y) ++ sTx 5 := by
  have e4 : sTx 4 = [93] ++ (mW 0 ++ ([47] ++ [91])) := rfl
  have e5 : sTx 5 = [93] ++ mW 2 := rfl
  have e3 : sTx 3 = [91] := rfl
  rw [e3, e4, e5]
  simp only [List.append_assoc]
theorem plT0 (x : List Int32) : (x ++ mW 0) ++ [47] = x ++ sTx 0 := by rw [List.append_assoc]; rfl
theorem plT1 (x : List Int32) : (x ++ mW 1) ++ [47] = x ++ sTx 1 := by rw [List.append_assoc]; rfl

set_option maxHeartbeats 4000000 in
set_option maxRecDepth 100000 in
/-- print -/
theorem c_X6_print (l : Launch) (G : GT) (hM : okM G) (S : PS) (hS : lkM S) (n : Nat) (hn : sI S 6 0 0 = nI n) (hn60 : n ≤ 60)(hsh : ∀ i, i < n → sI S 8 0 i = 3 → jn (sI S 8 1 i) ≤ 6 ∧ jn (sI S 8 1 i) ≤ jn (sI S 8 2 i) ∧ jn (sI S 8 2 i) - jn (sI S 8 1 i) ≤ 6) (hh0 : ∀ i, i < n → 0 ≤ (sI S 8 1 i).toInt) (hz0 : ∀ i, i < n → 0 ≤ (sI S 8 2 i).toInt) (hs0 : ∀ i, i < n → ¬ sI S 8 0 i = -1 → 0 ≤ (sI S 8 0 i).toInt) (a : Int32) : CtI l G yX6_print wsX6_print (rmK 3 73) [.ref (gA G 6 0), .int a] S (fun v S2 => spPrint n (sI S 8 0) (fun j => prT (sI S 8 0 j) (jn (sI S 8 1 j)) (jn (sI S 8 2 j)) (fun k => sJ S 9 0 (12 * j + k))) a v (S2 = S) (fun t => wrP 6 15 8 5 S S2 0 t)) := by
  refine ofCtI (cc := cX6_print) (nL := 2) RX6 (by decide +kernel) rfl rfl (Nat.le_of_ble_eq_true rfl) ?_
  intro p e s m args below meth c A Q ls C w hl hret
  have hx := C.1
  have hb := C.2.1
  have hown := C.2.2.2.1
  have hts := C.2.2.2.2.1
  have hi6 : ∀ w ∈ wsX60, w ∈ wsX6_print := by decide +kernel
  refine lv_aload_n hx hb dX6_print_0 rfl (lv_at hl 0 rfl) ?_
  refine lv_iload_n hx hb dX6_print_1 rfl (lv_at hl 1 rfl) ?_
  refine cvI (n := 1) C w hl dX6_print_2 (c_X6_isNumber l G hM S n hn hn60 a) gX6_print_X6_isNumber rfl (by decide +kernel) rfl rfl (Nat.le_of_ble_eq_true rfl) ⟨by decide, by decide⟩ (by decide) rfl (oM6 hM) (fun v1 S9 H locs hp w => ?_)
  obtain ⟨q1, e0⟩ := hp
  rw [e0] at w
  refine lv_if_ne (tgt := 11) hx hb dX6_print_5 (by decide) (fun c_5 => ?_) (fun c_5 => ?_)
  · have ha := yes_of q1 c_5
    have hja := jn_lt ha
    have hqa : a = nI (jn a) := jn_eq ha
    refine lv_aload_n hx hb dX6_print_11 rfl (lv_at hl 0 rfl) ?_
    refine lv_iload_n hx hb dX6_print_12 rfl (lv_at hl 1 rfl) ?_
    refine lv_rep hqa ?_
    refine cvI (n := 1) C w hl dX6_print_13 (c_X6_isNothing l G hM S hS (jn a) (by omega)) gX6_print_X6_isNothing rfl (by decide +kernel) rfl rfl (Nat.le_of_ble_eq_true rfl) ⟨by decide, by decide⟩ (by decide) rfl (oM6 hM) (fun v2 S2 H locs hp w => ?_)
    obtain ⟨q2, e0⟩ := hp
    rw [e0] at w
    refine lv_if_eq (tgt := 22) hx hb dX6_print_16 (by decide) (fun c_16 => ?_) (fun c_16 => ?_)
    · have hno := no_of q2 c_16
      have hsj := hsh _ hja
      have hhj := hh0 _ hja
      have hzj := hz0 _ hja
      have hs0j := hs0 _ hja hno
      have hl1 := lsT_le (fun k => sJ S 9 0 (12 * jn a + k)) 0 (jn (sI S 8 1 (jn a)) - 0)
      have hl2 := lsT_le (fun k => sJ S 9 0 (12 * jn a + k)) (jn (sI S 8 1 (jn a))) (jn (sI S 8 2 (jn a)) - jn (sI S 8 1 (jn a)))
      have hn0 := numT_le (sJ S 9 0 (12 * jn a + 0))
      have hn1 := numT_le (sJ S 9 0 (12 * jn a + 1))
      have hn2 := numT_le (sJ S 9 0 (12 * jn a + 2))
      refine lv_aload_n hx hb dX6_print_22 rfl (lv_at hl 0 rfl) ?_
      refine lv_iconst (v := 0) hx hb dX6_print_23 (by decide) ?_
      refine ppI 6 15 (by decide) rfl (by decide) rfl rfl tyX6_ok nmX6 rfl (by decide +kernel) C w hi6 (by decide +kernel) dX6_print_24 (oM6 hM) (fun H locs w => ?_)
      have w0 : wrP 6 15 8 5 S (uI S 6 0 15 0) 0 [] := ⟨rfl, rfl, by rw [sI_uI, if_pos ⟨rfl, rfl, rfl⟩]; rfl, fun j hj => absurd hj (Nat.not_lt_zero _), fun c r k q1 q2 q3 => by rw [sI_uI, if_neg q1]⟩
      generalize hU0 : uI S 6 0 15 0 = U0 at w w0
      refine lv_aload_n hx hb dX6_print_27 rfl (lv_at hl 0 rfl) ?_
      refine pgQ 6 1 8 (by decide) rfl (by decide) rfl rfl C w hi6 (by decide +kernel) dX6_print_28 (oM6 hM) ((lkM_of hS w0.1).1) ?_
      refine lv_iload_n hx hb dX6_print_31 rfl (lv_at hl 1 rfl) ?_
      refine lv_rep hqa ?_
      refine paI C w dX6_print_32 (oM8 hM (by decide)) rfl (nM80 hM) (by omega) (by decide) (v := sI S 8 0 (jn a)) (by rw [w0.2.2.2.2 8 0 (jn a) (by simp) (by simp) (by simp)]) ?_
      refine lv_iconst (v := 3) hx hb dX6_print_33 (by decide) ?_
      refine lv_icmp_ne (tgt := 87) hx hb dX6_print_34 (by decide) (fun c_34 => ?_) (fun c_34 => ?_)
      · have join_176 : ∀ (U9 : PS) (H : Heap) (locs : List Loc) (ls : Array Slot), (wrP 6 15 8 5 S U9 0 (prT (sI S 8 0 (jn a)) (jn (sI S 8 1 (jn a))) (jn (sI S 8 2 (jn a))) (fun k => sJ S 9 0 (12 * jn a + k)))) → Wd G A s.heap U9 H locs → lv_has ls 2 [(0, .ref (gA G 6 0)), (1, .int a)] → W p l e (rmK 3 73) s m args below meth c H locs 0 0 Q (F0 m 176 ls []) := by
          intro U9 H locs ls w9 w hl
          refine lv_aload_n hx hb dX6_print_176 rfl (lv_at hl 0 rfl) ?_
          refine pgI 6 15 (by decide) rfl (by decide) (Or.inl rfl) rfl C w hi6 (by decide +kernel) dX6_print_177 (oM6 hM) (v := nI (prT (sI S 8 0 (jn a)) (jn (sI S 8 1 (jn a))) (jn (sI S 8 2 (jn a))) (fun k => sJ S 9 0 (12 * jn a + k))).length) (by rw [w9.n, Nat.zero_add]) ?_
          exact hret _ _ _ _ _ _ dX6_print_180 w (by unfold spPrint; rw [if_pos ha, if_neg hno]; exact ⟨rfl, w9⟩)
        have join_171 : ∀ (U8 : PS) (t : List Int32) (H : Heap) (locs : List Loc) (ls : Array Slot), (t ++ mW 2 = (prT (sI S 8 0 (jn a)) (jn (sI S 8 1 (jn a))) (jn (sI S 8 2 (jn a))) (fun k => sJ S 9 0 (12 * jn a + k)))) → (t.length ≤ 200) → (wrP 6 15 8 5 S U8 0 t) → Wd G A s.heap U8 H locs → lv_has ls 2 [(0, .ref (gA G 6 0)), (1, .int a)] → W p l e (rmK 3 73) s m args below meth c H locs 0 0 Q (F0 m 171 ls []) := by
          intro U8 t H locs ls ht htl w8 w hl
          refine lv_aload_n hx hb dX6_print_171 rfl (lv_at hl 0 rfl) ?_
          refine lv_iconst (v := 2) hx hb dX6_print_172 (by decide) ?_
          refine cvV (n := 1) C w hl dX6_print_173 (c_X6_writeWord2 l G hM U8 (lkM_of hS w8.1) (0 + t.length) w8.n (by omega)) gX6_print_X6_writeWord rfl (by decide +kernel) rfl rfl (Nat.le_of_ble_eq_true rfl) ⟨by decide, by decide⟩ (by decide) rfl (oM6 hM) (fun U9 H locs hp w => ?_)
          have hwe := w8.tr (by decide) (by decide) hp
          rw [ht] at hwe
          exact join_176 _ _ _ _ hwe w (lv_sub hl [0, 1] rfl)
        refine lv_aload_n hx hb dX6_print_87 rfl (lv_at hl 0 rfl) ?_
        refine lv_aload_n hx hb dX6_print_88 rfl (lv_at hl 0 rfl) ?_
        refine pgQ 6 4 9 (by decide) rfl (by decide) rfl rfl C w hi6 (by decide +kernel) dX6_print_89 (oM6 hM) ((lkM_of hS w0.1).2.2.2.1) ?_
        refine lv_bipush (v := 12) hx hb dX6_print_92 (by decide) ?_
        refine lv_iload_n hx hb dX6_print_94 rfl (lv_at hl 1 rfl) ?_
        refine lv_rep hqa ?_
        refine lv_imul hx hb dX6_print_95 ?_
        refine lv_rep (ix12' (jn a)) ?_
        refine paJ C w dX6_print_96 (oM9 hM (by decide)) (n := 12 * jn a) rfl (nM90 hM) (by omega) (by decide) (v := sJ S 9 0 (12 * jn a + 0)) (by rw [w0.2.1]; rfl) ?_
        refine cvV (n := 1) C w hl dX6_print_97 (c_X6_writeNumber l G hM U0 (lkM_of hS w0.1) 0 w0.n (by decide) (sJ S 9 0 (12 * jn a + 0))) gX6_print_X6_writeNumber rfl (by decide +kernel) rfl rfl (Nat.le_of_ble_eq_true rfl) ⟨by decide, by decide⟩ (by decide) rfl (oM6 hM) (fun U1 H locs hp w => ?_)
        have p0 := w0.tr (by decide) (by decide) hp
        refine lv_aload_n hx hb dX6_print_100 rfl (lv_at hl 0 rfl) ?_
        refine pgQ 6 1 8 (by decide) rfl (by decide) rfl rfl C w hi6 (by decide +kernel) dX6_print_101 (oM6 hM) ((lkM_of hS p0.1).1) ?_
        refine lv_iload_n hx hb dX6_print_104 rfl (lv_at hl 1 rfl) ?_
        refine lv_rep hqa ?_
        refine paI C w dX6_print_105 (oM8 hM (by decide)) rfl (nM80 hM) (by omega) (by decide) (v := sI S 8 0 (jn a)) (by rw [p0.2.2.2.2 8 0 (jn a) (by simp) (by simp) (by simp)]) ?_
        refine lv_if_le (tgt := 176) hx hb dX6_print_106 (by decide) (fun c_106 => ?_) (fun c_106 => ?_)
        · have h00 : sI S 8 0 (jn a) = 0 := by rw [Int32.le_iff_toInt_le, i32_0] at c_106; exact Int32.toInt_inj.mp (by rw [i32_0]; omega)
          have hte : (numT (sJ S 9 0 (12 * jn a + 0))) = (prT (sI S 8 0 (jn a)) (jn (sI S 8 1 (jn a))) (jn (sI S 8 2 (jn a))) (fun k => sJ S 9 0 (12 * jn a + k))) := by unfold prT; rw [if_neg c_34, if_pos h00]
          have hwe := p0
          rw [show ([] ++ numT (sJ S 9 0 (12 * jn a + 0)) : List Int32) = (prT (sI S 8 0 (jn a)) (jn (sI S 8 1 (jn a))) (jn (sI S 8 2 (jn a))) (fun k => sJ S 9 0 (12 * jn a + k))) from hte] at hwe
          exact join_176 _ _ _ _ hwe w (lv_sub hl [0, 1] rfl)
        · have h01 : ¬ sI S 8 0 (jn a) = 0 := fun q => c_106 (by rw [q]; decide)
          refine lv_aload_n hx hb dX6_print_109 rfl (lv_at hl 0 rfl) ?_
          refine lv_iconst (v := 0) hx hb dX6_print_110 (by decide) ?_
          refine cvV (n := 1) C w hl dX6_print_111 (c_X6_writeWord0 l G hM U1 (lkM_of hS p0.1) (0 + ((numT (sJ S 9 0 (12 * jn a + 0)))).length) p0.n (by (try simp only [List.length_append, mL0, mL1, mL2, List.length_singleton, List.length_cons, List.length_nil]); omega)) gX6_print_X6_writeWord rfl (by decide +kernel) rfl rfl (Nat.le_of_ble_eq_true rfl) ⟨by decide, by decide⟩ (by decide) rfl (oM6 hM) (fun U2 H locs hp w => ?_)
          have p1 := p0.tr (by decide) (by decide) hp
          refine lv_aload_n hx hb dX6_print_114 rfl (lv_at hl 0 rfl) ?_
          refine lv_bipush (v := 47) hx hb dX6_print_115 (by decide) ?_
          refine cvV (n := 1) C w hl dX6_print_117 (c_X6_write l G hM U2 (lkM_of hS p1.1) (0 + (((numT (sJ S 9 0 (12 * jn a + 0))) ++ mW 0)).length) p1.n (by (try simp only [List.length_append, mL0, mL1, mL2, List.length_singleton, List.length_cons, List.length_nil]); omega) 47) gX6_print_X6_write rfl (by decide +kernel) rfl rfl (Nat.le_of_ble_eq_true rfl) ⟨by decide, by decide⟩ (by decide) rfl (oM6 hM) (fun U3 H locs hp w => ?_)
          rw [show U3 = uI (uI U2 8 5 (0 + (((numT (sJ S 9 0 (12 * jn a + 0))) ++ mW 0)).length) 47) 6 0 15 (nI (0 + (((numT (sJ S 9 0 (12 * jn a + 0))) ++ mW 0)).length + 1)) from hp] at w
          have p2 := p1.tr (by decide) (by decide) (wrP.ap (cl := 6) (kl := 15) (cb := 8) (rb := 5) (by decide) U2 (0 + (((numT (sJ S 9 0 (12 * jn a + 0))) ++ mW 0)).length) 47)
          rw [← hp] at p2 w
          refine lv_aload_n hx hb dX6_print_120 rfl (lv_at hl 0 rfl) ?_
          refine lv_aload_n hx hb dX6_print_121 rfl (lv_at hl 0 rfl) ?_
          refine pgQ 6 4 9 (by decide) rfl (by decide) rfl rfl C w hi6 (by decide +kernel) dX6_print_122 (oM6 hM) ((lkM_of hS p2.1).2.2.2.1) ?_
          refine lv_bipush (v := 12) hx hb dX6_print_125 (by decide) ?_
          refine lv_iload_n hx hb dX6_print_127 rfl (lv_at hl 1 rfl) ?_
          refine lv_rep hqa ?_
          refine lv_imul hx hb dX6_print_128 ?_
          refine lv_rep (ix12' (jn a)) ?_
          refine lv_iconst (v := 1) hx hb dX6_print_129 (by decide) ?_
          refine lv_iadd hx hb dX6_print_130 ?_
          refine paJ C w dX6_print_131 (oM9 hM (by decide)) (n := 12 * jn a + 1) (nI_1 _) (nM90 hM) (by omega) (by decide) (v := sJ S 9 0 (12 * jn a + 1)) (by rw [p2.2.1]) ?_
          refine cvV (n := 1) C w hl dX6_print_132 (c_X6_writeNumber l G hM U3 (lkM_of hS p2.1) (0 + ((((numT (sJ S 9 0 (12 * jn a + 0))) ++ mW 0) ++ [47])).length) p2.n (by (try simp only [List.length_append, mL0, mL1, mL2, List.length_singleton, List.length_cons, List.length_nil]); omega) (sJ S 9 0 (12 * jn a + 1))) gX6_print_X6_writeNumber rfl (by decide +kernel) rfl rfl (Nat.le_of_ble_eq_true rfl) ⟨by decide, by decide⟩ (by decide) rfl (oM6 hM) (fun U4 H locs hp w => ?_)
          have p3 := p2.tr (by decide) (by decide) hp
          refine lv_aload_n hx hb dX6_print_135 rfl (lv_at hl 0 rfl) ?_
          refine pgQ 6 1 8 (by decide) rfl (by decide) rfl rfl C w hi6 (by decide +kernel) dX6_print_136 (oM6 hM) ((lkM_of hS p3.1).1) ?_
          refine lv_iload_n hx hb dX6_print_139 rfl (lv_at hl 1 rfl) ?_
          refine lv_rep hqa ?_
          refine paI C w dX6_print_140 (oM8 hM (by decide)) rfl (nM80 hM) (by omega) (by decide) (v := sI S 8 0 (jn a)) (by rw [p3.2.2.2.2 8 0 (jn a) (by simp) (by simp) (by simp)]) ?_
          refine lv_iconst (v := 2) hx hb dX6_print_141 (by decide) ?_
          refine lv_icmp_ne (tgt := 171) hx hb dX6_print_142 (by decide) (fun c_142 => ?_) (fun c_142 => ?_)
          · have hte2 : ((((numT (sJ S 9 0 (12 * jn a + 0))) ++ mW 0) ++ [47]) ++ numT (sJ S 9 0 (12 * jn a + 1))) ++ mW 2 = (prT (sI S 8 0 (jn a)) (jn (sI S 8 1 (jn a))) (jn (sI S 8 2 (jn a))) (fun k => sJ S 9 0 (12 * jn a + k))) := by unfold prT; rw [if_neg c_34, if_neg h01, if_neg c_142, ← plT0]; rfl
            have htl2 : (((((numT (sJ S 9 0 (12 * jn a + 0))) ++ mW 0) ++ [47]) ++ numT (sJ S 9 0 (12 * jn a + 1)))).length ≤ 200 := by (try simp only [List.length_append, mL0, mL1, mL2, List.length_singleton, List.length_cons, List.length_nil]); omega
            have hwe2 := p3
            exact join_171 _ _ _ _ _ hte2 htl2 hwe2 w (lv_sub hl [0, 1] rfl)
          · refine lv_aload_n hx hb dX6_print_145 rfl (lv_at hl 0 rfl) ?_
            refine lv_iconst (v := 1) hx hb dX6_print_146 (by decide) ?_
            refine cvV (n := 1) C w hl dX6_print_147 (c_X6_writeWord1 l G hM U4 (lkM_of hS p3.1) (0 + (((((numT (sJ S 9 0 (12 * jn a + 0))) ++ mW 0) ++ [47]) ++ numT (sJ S 9 0 (12 * jn a + 1)))).length) p3.n (by (try simp only [List.length_append, mL0, mL1, mL2, List.length_singleton, List.length_cons, List.length_nil]); omega)) gX6_print_X6_writeWord rfl (by decide +kernel) rfl rfl (Nat.le_of_ble_eq_true rfl) ⟨by decide, by decide⟩ (by decide) rfl (oM6 hM) (fun U5 H locs hp w => ?_)
            have p4 := p3.tr (by decide) (by decide) hp
            refine lv_aload_n hx hb dX6_print_150 rfl (lv_at hl 0 rfl) ?_
            refine lv_bipush (v := 47) hx hb dX6_print_151 (by decide) ?_
            refine cvV (n := 1) C w hl dX6_print_153 (c_X6_write l G hM U5 (lkM_of hS p4.1) (0 + ((((((numT (sJ S 9 0 (12 * jn a + 0))) ++ mW 0) ++ [47]) ++ numT (sJ S 9 0 (12 * jn a + 1))) ++ mW 1)).length) p4.n (by (try simp only [List.length_append, mL0, mL1, mL2, List.length_singleton, List.length_cons, List.length_nil]); omega) 47) gX6_print_X6_write rfl (by decide +kernel) rfl rfl (Nat.le_of_ble_eq_true rfl) ⟨by decide, by decide⟩ (by decide) rfl (oM6 hM) (fun U6 H locs hp w => ?_)
            rw [show U6 = uI (uI U5 8 5 (0 + ((((((numT (sJ S 9 0 (12 * jn a + 0))) ++ mW 0) ++ [47]) ++ numT (sJ S 9 0 (12 * jn a + 1))) ++ mW 1)).length) 47) 6 0 15 (nI (0 + ((((((numT (sJ S 9 0 (12 * jn a + 0))) ++ mW 0) ++ [47]) ++ numT (sJ S 9 0 (12 * jn a + 1))) ++ mW 1)).length + 1)) from hp] at w
            have p5 := p4.tr (by decide) (by decide) (wrP.ap (cl := 6) (kl := 15) (cb := 8) (rb := 5) (by decide) U5 (0 + ((((((numT (sJ S 9 0 (12 * jn a + 0))) ++ mW 0) ++ [47]) ++ numT (sJ S 9 0 (12 * jn a + 1))) ++ mW 1)).length) 47)
            rw [← hp] at p5 w
            refine lv_aload_n hx hb dX6_print_156 rfl (lv_at hl 0 rfl) ?_
            refine lv_aload_n hx hb dX6_print_157 rfl (lv_at hl 0 rfl) ?_
            refine pgQ 6 4 9 (by decide) rfl (by decide) rfl rfl C w hi6 (by decide +kernel) dX6_print_158 (oM6 hM) ((lkM_of hS p5.1).2.2.2.1) ?_
            refine lv_bipush (v := 12) hx hb dX6_print_161 (by decide) ?_
            refine lv_iload_n hx hb dX6_print_163 rfl (lv_at hl 1 rfl) ?_
            refine lv_rep hqa ?_
            refine lv_imul hx hb dX6_print_164 ?_
            refine lv_rep (ix12' (jn a)) ?_
            refine lv_iconst (v := 2) hx hb dX6_print_165 (by decide) ?_
            refine lv_iadd hx hb dX6_print_166 ?_
            refine paJ C w dX6_print_167 (oM9 hM (by decide)) (n := 12 * jn a + 2) (show nI (12 * jn a) + nI 2 = _ from nI_add _ 2) (nM90 hM) (by omega) (by decide) (v := sJ S 9 0 (12 * jn a + 2)) (by rw [p5.2.1]) ?_
            refine cvV (n := 1) C w hl dX6_print_168 (c_X6_writeNumber l G hM U6 (lkM_of hS p5.1) (0 + (((((((numT (sJ S 9 0 (12 * jn a + 0))) ++ mW 0) ++ [47]) ++ numT (sJ S 9 0 (12 * jn a + 1))) ++ mW 1) ++ [47])).length) p5.n (by (try simp only [List.length_append, mL0, mL1, mL2, List.length_singleton, List.length_cons, List.length_nil]); omega) (sJ S 9 0 (12 * jn a + 2))) gX6_print_X6_writeNumber rfl (by decide +kernel) rfl rfl (Nat.le_of_ble_eq_true rfl) ⟨by decide, by decide⟩ (by decide) rfl (oM6 hM) (fun U7 H locs hp w => ?_)
            have hwe2 := p5.tr (by decide) (by decide) hp
            have hte2 : (((((((numT (sJ S 9 0 (12 * jn a + 0))) ++ mW 0) ++ [47]) ++ numT (sJ S 9 0 (12 * jn a + 1))) ++ mW 1) ++ [47]) ++ numT (sJ S 9 0 (12 * jn a + 2))) ++ mW 2 = (prT (sI S 8 0 (jn a)) (jn (sI S 8 1 (jn a))) (jn (sI S 8 2 (jn a))) (fun k => sJ S 9 0 (12 * jn a + k))) := by unfold prT; rw [if_neg c_34, if_neg h01, if_pos c_142, ← plT0, ← plT1]; rfl
            have htl2 : ((((((((numT (sJ S 9 0 (12 * jn a + 0))) ++ mW 0) ++ [47]) ++ numT (sJ S 9 0 (12 * jn a + 1))) ++ mW 1) ++ [47]) ++ numT (sJ S 9 0 (12 * jn a + 2)))).length ≤ 200 := by (try simp only [List.length_append, mL0, mL1, mL2, List.length_singleton, List.length_cons, List.length_nil]); omega
            exact join_171 _ _ _ _ _ hte2 htl2 hwe2 w (lv_sub hl [0, 1] rfl)
      · refine lv_aload_n hx hb dX6_print_37 rfl (lv_at hl 0 rfl) ?_
        refine lv_iload_n hx hb dX6_print_38 rfl (lv_at hl 1 rfl) ?_
        refine lv_rep hqa ?_
        refine lv_iconst (v := 0) hx hb dX6_print_39 (by decide) ?_
        refine lv_aload_n hx hb dX6_print_40 rfl (lv_at hl 0 rfl) ?_
        refine pgQ 6 2 8 (by decide) rfl (by decide) rfl rfl C w hi6 (by decide +kernel) dX6_print_41 (oM6 hM) ((lkM_of hS w0.1).2.1) ?_
        refine lv_iload_n hx hb dX6_print_44 rfl (lv_at hl 1 rfl) ?_
        refine lv_rep hqa ?_
        refine paI C w dX6_print_45 (oM8 hM (by decide)) rfl (nM81 hM) (by omega) (by decide) (v := nI (jn (sI S 8 1 (jn a)))) (by rw [w0.2.2.2.2 8 1 (jn a) (by simp) (by simp) (by simp)]; exact (nI_jn hhj)) ?_
        obtain ⟨hs1, hs2, hs3⟩ := hsj c_34
        refine cvV (n := 3) C w hl dX6_print_46 (c_X6_writeRow l G hM U0 (lkM_of hS w0.1) 0 w0.n (jn a) 0 (jn (sI S 8 1 (jn a))) (by omega) (Nat.zero_le _) (by omega) (by omega)) gX6_print_X6_writeRow rfl (by decide +kernel) rfl rfl (Nat.le_of_ble_eq_true rfl) ⟨by decide, by decide⟩ (by decide) rfl (oM6 hM) (fun U1 H locs hp w => ?_)
        have b0 := w0.tr (by decide) (by decide) hp
        rw [w0.2.1] at b0
        refine lv_aload_n hx hb dX6_print_49 rfl (lv_at hl 0 rfl) ?_
        refine lv_iconst (v := 0) hx hb dX6_print_50 (by decide) ?_
        refine cvV (n := 1) C w hl dX6_print_51 (c_X6_writeWord0 l G hM U1 (lkM_of hS b0.1) (0 + ((([91] ++ lsT (fun k => sJ S 9 0 (12 * jn a + k)) 0 (jn (sI S 8 1 (jn a)) - 0)) ++ [93])).length) b0.n (by (try simp only [List.length_append, mL0, mL1, mL2, List.length_singleton, List.length_cons, List.length_nil]); omega)) gX6_print_X6_writeWord rfl (by decide +kernel) rfl rfl (Nat.le_of_ble_eq_true rfl) ⟨by decide, by decide⟩ (by decide) rfl (oM6 hM) (fun U2 H locs hp w => ?_)
        have b1 := b0.tr (by decide) (by decide) hp
        refine lv_aload_n hx hb dX6_print_54 rfl (lv_at hl 0 rfl) ?_
        refine lv_bipush (v := 47) hx hb dX6_print_55 (by decide) ?_
        refine cvV (n := 1) C w hl dX6_print_57 (c_X6_write l G hM U2 (lkM_of hS b1.1) (0 + (((([91] ++ lsT (fun k => sJ S 9 0 (12 * jn a + k)) 0 (jn (sI S 8 1 (jn a)) - 0)) ++ [93]) ++ mW 0)).length) b1.n (by (try simp only [List.length_append, mL0, mL1, mL2, List.length_singleton, List.length_cons, List.length_nil]); omega) 47) gX6_print_X6_write rfl (by decide +kernel) rfl rfl (Nat.le_of_ble_eq_true rfl) ⟨by decide, by decide⟩ (by decide) rfl (oM6 hM) (fun U3 H locs hp w => ?_)
        rw [show U3 = uI (uI U2 8 5 (0 + (((([91] ++ lsT (fun k => sJ S 9 0 (12 * jn a + k)) 0 (jn (sI S 8 1 (jn a)) - 0)) ++ [93]) ++ mW 0)).length) 47) 6 0 15 (nI (0 + (((([91] ++ lsT (fun k => sJ S 9 0 (12 * jn a + k)) 0 (jn (sI S 8 1 (jn a)) - 0)) ++ [93]) ++ mW 0)).length + 1)) from hp] at w
        have b2 := b1.tr (by decide) (by decide) (wrP.ap (cl := 6) (kl := 15) (cb := 8) (rb := 5) (by decide) U2 (0 + (((([91] ++ lsT (fun k => sJ S 9 0 (12 * jn a + k)) 0 (jn (sI S 8 1 (jn a)) - 0)) ++ [93]) ++ mW 0)).length) 47)
        rw [← hp] at b2 w
        refine lv_aload_n hx hb dX6_print_60 rfl (lv_at hl 0 rfl) ?_
        refine lv_iload_n hx hb dX6_print_61 rfl (lv_at hl 1 rfl) ?_
        refine lv_rep hqa ?_
        refine lv_aload_n hx hb dX6_print_62 rfl (lv_at hl 0 rfl) ?_
        refine pgQ 6 2 8 (by decide) rfl (by decide) rfl rfl C w hi6 (by decide +kernel) dX6_print_63 (oM6 hM) ((lkM_of hS b2.1).2.1) ?_
        refine lv_iload_n hx hb dX6_print_66 rfl (lv_at hl 1 rfl) ?_
        refine lv_rep hqa ?_
        refine paI C w dX6_print_67 (oM8 hM (by decide)) rfl (nM81 hM) (by omega) (by decide) (v := nI (jn (sI S 8 1 (jn a)))) (by rw [b2.2.2.2.2 8 1 (jn a) (by simp) (by simp) (by simp)]; exact (nI_jn hhj)) ?_
        refine lv_aload_n hx hb dX6_print_68 rfl (lv_at hl 0 rfl) ?_
        refine pgQ 6 3 8 (by decide) rfl (by decide) rfl rfl C w hi6 (by decide +kernel) dX6_print_69 (oM6 hM) ((lkM_of hS b2.1).2.2.1) ?_
        refine lv_iload_n hx hb dX6_print_72 rfl (lv_at hl 1 rfl) ?_
        refine lv_rep hqa ?_
        refine paI C w dX6_print_73 (oM8 hM (by decide)) rfl (nM82 hM) (by omega) (by decide) (v := nI (jn (sI S 8 2 (jn a)))) (by rw [b2.2.2.2.2 8 2 (jn a) (by simp) (by simp) (by simp)]; exact (nI_jn hzj)) ?_
        refine cvV (n := 3) C w hl dX6_print_74 (c_X6_writeRow l G hM U3 (lkM_of hS b2.1) (0 + ((((([91] ++ lsT (fun k => sJ S 9 0 (12 * jn a + k)) 0 (jn (sI S 8 1 (jn a)) - 0)) ++ [93]) ++ mW 0) ++ [47])).length) b2.n (jn a) (jn (sI S 8 1 (jn a))) (jn (sI S 8 2 (jn a))) (by omega) hs2 (by omega) (by (try simp only [List.length_append, mL0, mL1, mL2, List.length_singleton, List.length_cons, List.length_nil]); omega)) gX6_print_X6_writeRow rfl (by decide +kernel) rfl rfl (Nat.le_of_ble_eq_true rfl) ⟨by decide, by decide⟩ (by decide) rfl (oM6 hM) (fun U4 H locs hp w => ?_)
        rw [b2.2.1] at hp
        have b3 := b2.tr (by decide) (by decide) hp
        refine lv_aload_n hx hb dX6_print_77 rfl (lv_at hl 0 rfl) ?_
        refine lv_iconst (v := 2) hx hb dX6_print_78 (by decide) ?_
        refine cvV (n := 1) C w hl dX6_print_79 (c_X6_writeWord2 l G hM U4 (lkM_of hS b3.1) (0 + (((((([91] ++ lsT (fun k => sJ S 9 0 (12 * jn a + k)) 0 (jn (sI S 8 1 (jn a)) - 0)) ++ [93]) ++ mW 0) ++ [47]) ++ (([91] ++ lsT (fun k => sJ S 9 0 (12 * jn a + k)) (jn (sI S 8 1 (jn a))) (jn (sI S 8 2 (jn a)) - jn (sI S 8 1 (jn a)))) ++ [93]))).length) b3.n (by (try simp only [List.length_append, mL0, mL1, mL2, List.length_singleton, List.length_cons, List.length_nil]); omega)) gX6_print_X6_writeWord rfl (by decide +kernel) rfl rfl (Nat.le_of_ble_eq_true rfl) ⟨by decide, by decide⟩ (by decide) rfl (oM6 hM) (fun U5 H locs hp w => ?_)
        have b4 := b3.tr (by decide) (by decide) hp
        refine lv_aload_n hx hb dX6_print_82 rfl (lv_at hl 0 rfl) ?_
        refine pgI 6 15 (by decide) rfl (by decide) (Or.inl rfl) rfl C w hi6 (by decide +kernel) dX6_print_83 (oM6 hM) (v := nI (prT (sI S 8 0 (jn a)) (jn (sI S 8 1 (jn a))) (jn (sI S 8 2 (jn a))) (fun k => sJ S 9 0 (12 * jn a + k))).length) (by rw [b4.n, Nat.zero_add]; unfold prT; rw [if_pos c_34, ← bentT]; rfl) ?_
        exact hret _ _ _ _ _ _ dX6_print_86 w (by unfold spPrint; rw [if_pos ha, if_neg hno]; refine ⟨rfl, ?_⟩; show wrP 6 15 8 5 S U5 0 (prT (sI S 8 0 (jn a)) (jn (sI S 8 1 (jn a))) (jn (sI S 8 2 (jn a))) (fun k => sJ S 9 0 (12 * jn a + k))); unfold prT; rw [if_pos c_34, ← bentT]; exact b4)
    · refine lv_bipush (v := (-11)) hx hb dX6_print_19 (by decide) ?_
      exact hret _ _ _ _ _ _ dX6_print_21 w (by unfold spPrint; rw [if_pos ha, if_pos (yes_of q2 c_16)]; exact ⟨rfl, rfl⟩)
  · refine lv_bipush (v := (-2)) hx hb dX6_print_8 (by decide) ?_
    exact hret _ _ _ _ _ _ dX6_print_10 w (by unfold spPrint; rw [if_neg (no_of q1 c_5)]; exact ⟨rfl, rfl⟩)
