set_option maxHeartbeats 4000000 in
set_option maxRecDepth 100000 in
/-- told -/
theorem c_X5_told (l : Launch) (G : GT) (hX : okX G) (S : PS) (hS : lkX S) (n : Nat) (hn : sI S 5 0 1 = nI n) (hn60 : n ≤ 60)(hhd : ∀ i, i < n → 0 ≤ (sI S 2 i 1).toInt ∧ (sI S 2 i 1).toInt ≤ 12) (i w2 : Int32) : CtI l G yX5_told wsX5_told (rmK 1 21) [.ref (gA G 5 0), .int i, .int w2] S (fun v S2 => spTold n (fun j => sI S 2 j 0) (fun j => sI S 2 j 1) (fun j => sI S 2 j 2) (∀ k, k < jn (sI S 2 (jn i) 1) → ¬ sJ S 9 (jn i) k < 0) i w2 v (S2 = S)) := by
  refine ofCtI (cc := cX5_told) (nL := 4) RX5 (by decide +kernel) rfl rfl (Nat.le_of_ble_eq_true rfl) ?_
  intro p e s m args below meth c A Q ls C w hl hret
  have hx := C.1
  have hb := C.2.1
  have hown := C.2.2.2.1
  have hts := C.2.2.2.2.1
  have hi2 : ∀ w ∈ wsX20, w ∈ wsX5_told := by decide +kernel
  have hi5 : ∀ w ∈ wsX50, w ∈ wsX5_told := by decide +kernel
  refine lv_aload_n hx hb dX5_told_0 rfl (lv_at hl 0 rfl) ?_
  refine lv_iload_n hx hb dX5_told_1 rfl (lv_at hl 1 rfl) ?_
  refine cvI (n := 1) C w hl dX5_told_2 (c_X5_isNumber l G hX S n hn hn60 i) gX5_told_X5_isNumber rfl (by decide +kernel) rfl rfl (Nat.le_of_ble_eq_true rfl) ⟨by decide, by decide⟩ (by decide) rfl (oP5 hX) (fun v1 S9 H locs hp w => ?_)
  obtain ⟨q1, e0⟩ := hp
  rw [e0] at w
  refine lv_if_ne (tgt := 11) hx hb dX5_told_5 (by decide) (fun c_5 => ?_) (fun c_5 => ?_)
  · have hin := yes_of q1 c_5
    have hj := jn_lt hin
    refine lv_iload_n hx hb dX5_told_11 rfl (lv_at hl 2 rfl) ?_
    refine lv_if_lt (tgt := 20) hx hb dX5_told_12 (by decide) (fun c_12 => ?_) (fun c_12 => ?_)
    · have hw : ¬ inN w2 4 := inN_n1 c_12
      refine lv_bipush (v := (-3)) hx hb dX5_told_20 (by decide) ?_
      exact hret _ _ _ _ _ _ dX5_told_22 w (by unfold spTold; rw [if_pos hin, if_neg hw]; exact ⟨rfl, rfl⟩)
    · refine lv_iload_n hx hb dX5_told_15 rfl (lv_at hl 2 rfl) ?_
      refine lv_iconst (v := 3) hx hb dX5_told_16 (by decide) ?_
      refine lv_icmp_le (tgt := 23) hx hb dX5_told_17 (by decide) (fun c_17 => ?_) (fun c_17 => ?_)
      · have hw : inN w2 4 := by rw [Int32.lt_iff_toInt_lt, i32_0] at c_12; rw [Int32.le_iff_toInt_le, i32_3] at c_17; exact ⟨by omega, by omega⟩
        refine lv_aload_n hx hb dX5_told_23 rfl (lv_at hl 0 rfl) ?_
        refine pgQ 5 0 10 (by decide) rfl (by decide) rfl rfl C w hi5 (by decide +kernel) dX5_told_24 (oP5 hX) hS.2.2.1 ?_
        refine lv_iload_n hx hb dX5_told_27 rfl (lv_at hl 1 rfl) ?_
        refine paQ C w dX5_told_28 (oP10 hX (by decide)) (n := jn i) (jn_eq hin) (oN100 hX) (by omega) (by decide) (r1 := jn i) (lk10 hS (by omega)) ?_
        refine lv_astore_n hx hb dX5_told_29 rfl hl (by decide) rfl (fun ls hl => ?_)
        refine lv_aload_n hx hb dX5_told_30 rfl (lv_at hl 0 rfl) ?_
        refine cvI (n := 0) C w hl dX5_told_31 (c_X2_isNothing l G hX S (jn i) (by omega)) gX5_told_X2_isNothing rfl (by decide +kernel) rfl rfl (Nat.le_of_ble_eq_true rfl) ⟨by decide, by decide⟩ (by decide) rfl (oP2 hX (by omega)) (fun v2 S2 H locs hp w => ?_)
        obtain ⟨q2, e0⟩ := hp
        rw [e0] at w
        replace q2 := of_if q2
        refine lv_if_eq (tgt := 40) hx hb dX5_told_34 (by decide) (fun c_34 => ?_) (fun c_34 => ?_)
        · refine lv_iload_n hx hb dX5_told_40 rfl (lv_at hl 3 rfl) ?_
          rcases sw3 w2 with hs_41 | hs_41 | hs_41 | hs_41
          · refine lv_tableIn (tgt := 68) (off := 27) hx hb dX5_told_41 (by rw [hs_41]; decide) (by rw [hs_41]; decide) (by rw [hs_41]; rfl) (by decide) ?_
            refine lv_aload_n hx hb dX5_told_68 rfl (lv_at hl 0 rfl) ?_
            refine pgI 2 0 (by decide) rfl (by decide) (Or.inl rfl) rfl C w hi2 (by decide +kernel) dX5_told_69 (oP2 hX (by omega)) rfl ?_
            exact hret _ _ _ _ _ _ dX5_told_72 w (by unfold spTold; rw [if_pos hin, if_pos hw, if_neg (no_of q2 c_34), if_pos hs_41]; exact ⟨rfl, rfl⟩)
          · refine lv_tableIn (tgt := 73) (off := 32) hx hb dX5_told_41 (by rw [hs_41]; decide) (by rw [hs_41]; decide) (by rw [hs_41]; rfl) (by decide) ?_
            refine lv_aload_n hx hb dX5_told_73 rfl (lv_at hl 0 rfl) ?_
            refine pgI 2 1 (by decide) rfl (by decide) (Or.inl rfl) rfl C w hi2 (by decide +kernel) dX5_told_74 (oP2 hX (by omega)) rfl ?_
            exact hret _ _ _ _ _ _ dX5_told_77 w (by unfold spTold; rw [if_pos hin, if_pos hw, if_neg (no_of q2 c_34), if_neg (by rw [hs_41]; decide), if_pos hs_41]; exact ⟨rfl, rfl⟩)
          · refine lv_tableIn (tgt := 78) (off := 37) hx hb dX5_told_41 (by rw [hs_41]; decide) (by rw [hs_41]; decide) (by rw [hs_41]; rfl) (by decide) ?_
            refine lv_aload_n hx hb dX5_told_78 rfl (lv_at hl 0 rfl) ?_
            refine pgI 2 2 (by decide) rfl (by decide) (Or.inl rfl) rfl C w hi2 (by decide +kernel) dX5_told_79 (oP2 hX (by omega)) rfl ?_
            exact hret _ _ _ _ _ _ dX5_told_82 w (by unfold spTold; rw [if_pos hin, if_pos hw, if_neg (no_of q2 c_34), if_neg (by rw [hs_41]; decide), if_neg (by rw [hs_41]; decide), if_pos hs_41]; exact ⟨rfl, rfl⟩)
          · refine lv_tableOut (tgt := 83) hx hb dX5_told_41 hs_41 (by decide) ?_
            refine lv_aload_n hx hb dX5_told_83 rfl (lv_at hl 0 rfl) ?_
            refine cvI (n := 0) C w hl dX5_told_84 (c_X2_isFeasible l G hX S hS (jn i) (jn (sI S 2 (jn i) 1)) (by omega) (nI_jn (hhd _ hj).1) (by have := hhd _ hj; unfold jn at *; omega)) gX5_told_X2_isFeasible rfl (by decide +kernel) rfl rfl (Nat.le_of_ble_eq_true rfl) ⟨by decide, by decide⟩ (by decide) rfl (oP2 hX (by omega)) (fun v3 S3 H locs hp w => ?_)
            obtain ⟨q3, e0⟩ := hp
            rw [e0] at w
            replace q3 := feas_of q3
            refine lv_if_eq (tgt := 94) hx hb dX5_told_87 (by decide) (fun c_87 => ?_) (fun c_87 => ?_)
            · have hf := no_of q3 c_87
              refine lv_iconst (v := 0) hx hb dX5_told_94 (by decide) ?_
              exact hret _ _ _ _ _ _ dX5_told_95 w (by unfold spTold; rw [if_pos hin, if_pos hw, if_neg (no_of q2 c_34), if_neg (by intro e; rw [e] at hs_41; revert hs_41; decide), if_neg (by intro e; rw [e] at hs_41; revert hs_41; decide), if_neg (by intro e; rw [e] at hs_41; revert hs_41; decide)]; exact ⟨by first | exact Or.inl ⟨rfl, hf⟩ | exact Or.inr ⟨rfl, hf⟩, rfl⟩)
            · have hf := yes_of q3 c_87
              refine lv_iconst (v := 1) hx hb dX5_told_90 (by decide) ?_
              refine lv_goto (tgt := 95) hx hb dX5_told_91 (by decide) ?_
              exact hret _ _ _ _ _ _ dX5_told_95 w (by unfold spTold; rw [if_pos hin, if_pos hw, if_neg (no_of q2 c_34), if_neg (by intro e; rw [e] at hs_41; revert hs_41; decide), if_neg (by intro e; rw [e] at hs_41; revert hs_41; decide), if_neg (by intro e; rw [e] at hs_41; revert hs_41; decide)]; exact ⟨by first | exact Or.inl ⟨rfl, hf⟩ | exact Or.inr ⟨rfl, hf⟩, rfl⟩)
        · refine lv_bipush (v := (-11)) hx hb dX5_told_37 (by decide) ?_
          exact hret _ _ _ _ _ _ dX5_told_39 w (by unfold spTold; rw [if_pos hin, if_pos hw, if_pos (yes_of q2 c_34)]; exact ⟨rfl, rfl⟩)
      · have hw : ¬ inN w2 4 := fun q => by rw [Int32.le_iff_toInt_le, i32_3] at c_17; have := q.2; omega
        refine lv_bipush (v := (-3)) hx hb dX5_told_20 (by decide) ?_
        exact hret _ _ _ _ _ _ dX5_told_22 w (by unfold spTold; rw [if_pos hin, if_neg hw]; exact ⟨rfl, rfl⟩)
  · refine lv_bipush (v := (-2)) hx hb dX5_told_8 (by decide) ?_
    exact hret _ _ _ _ _ _ dX5_told_10 w (by unfold spTold; rw [if_neg (no_of q1 c_5)]; exact ⟨rfl, rfl⟩)

set_option maxHeartbeats 4000000 in
set_option maxRecDepth 100000 in
/-- order -/
theorem c_X5_order (l : Launch) (G : GT) (hX : okX G) (S : PS) (hS : lkX S) (n : Nat) (hn : sI S 5 0 1 = nI n) (hn60 : n ≤ 60)(hsz : ∀ i, i < n → 0 ≤ (sI S 2 i 2).toInt ∧ (sI S 2 i 2).toInt ≤ 12) (a b : Int32) : CtI l G yX5_order wsX5_order (rmK 2 42) [.ref (gA G 5 0), .int a, .int b] S (fun v S2 => spOrder n (fun j => sI S 2 j 0) (fun j => sI S 2 j 1) (fun j => sI S 2 j 2) (fun j => sJ S 9 j) a b v (S2 = S)) := by
  refine ofCtI (cc := cX5_order) (nL := 4) RX5 (by decide +kernel) rfl rfl (Nat.le_of_ble_eq_true rfl) ?_
  intro p e s m args below meth c A Q ls C w hl hret
  have hx := C.1
  have hb := C.2.1
  have hown := C.2.2.2.1
  have hts := C.2.2.2.2.1
  have hi5 : ∀ w ∈ wsX50, w ∈ wsX5_order := by decide +kernel
  refine lv_aload_n hx hb dX5_order_0 rfl (lv_at hl 0 rfl) ?_
  refine lv_iload_n hx hb dX5_order_1 rfl (lv_at hl 1 rfl) ?_
  refine cvI (n := 1) C w hl dX5_order_2 (c_X5_isNumber l G hX S n hn hn60 a) gX5_order_X5_isNumber rfl (by decide +kernel) rfl rfl (Nat.le_of_ble_eq_true rfl) ⟨by decide, by decide⟩ (by decide) rfl (oP5 hX) (fun v1 S9 H locs hp w => ?_)
  obtain ⟨q1, e0⟩ := hp
  rw [e0] at w
  refine lv_if_eq (tgt := 16) hx hb dX5_order_5 (by decide) (fun c_5 => ?_) (fun c_5 => ?_)
  · refine lv_bipush (v := (-2)) hx hb dX5_order_16 (by decide) ?_
    exact hret _ _ _ _ _ _ dX5_order_18 w (by unfold spOrder; rw [if_neg (fun q => by first | exact no_of q1 c_5 q.1 | exact no_of q2 c_13 q.2)]; exact ⟨rfl, rfl⟩)
  · refine lv_aload_n hx hb dX5_order_8 rfl (lv_at hl 0 rfl) ?_
    refine lv_iload_n hx hb dX5_order_9 rfl (lv_at hl 2 rfl) ?_
    refine cvI (n := 1) C w hl dX5_order_10 (c_X5_isNumber l G hX S n hn hn60 b) gX5_order_X5_isNumber rfl (by decide +kernel) rfl rfl (Nat.le_of_ble_eq_true rfl) ⟨by decide, by decide⟩ (by decide) rfl (oP5 hX) (fun v2 S9 H locs hp w => ?_)
    obtain ⟨q2, e0⟩ := hp
    rw [e0] at w
    refine lv_if_ne (tgt := 19) hx hb dX5_order_13 (by decide) (fun c_13 => ?_) (fun c_13 => ?_)
    · have ha := yes_of q1 c_5
      have hb2 := yes_of q2 c_13
      have hja := jn_lt ha
      have hjb := jn_lt hb2
      refine lv_aload_n hx hb dX5_order_19 rfl (lv_at hl 0 rfl) ?_
      refine pgQ 5 0 10 (by decide) rfl (by decide) rfl rfl C w hi5 (by decide +kernel) dX5_order_20 (oP5 hX) hS.2.2.1 ?_
      refine lv_iload_n hx hb dX5_order_23 rfl (lv_at hl 1 rfl) ?_
      refine paQ C w dX5_order_24 (oP10 hX (by decide)) (n := jn a) (jn_eq ha) (oN100 hX) (by omega) (by decide) (r1 := jn a) (lk10 hS (by omega)) ?_
      refine lv_aload_n hx hb dX5_order_25 rfl (lv_at hl 0 rfl) ?_
      refine pgQ 5 0 10 (by decide) rfl (by decide) rfl rfl C w hi5 (by decide +kernel) dX5_order_26 (oP5 hX) hS.2.2.1 ?_
      refine lv_iload_n hx hb dX5_order_29 rfl (lv_at hl 2 rfl) ?_
      refine paQ C w dX5_order_30 (oP10 hX (by decide)) (n := jn b) (jn_eq hb2) (oN100 hX) (by omega) (by decide) (r1 := jn b) (lk10 hS (by omega)) ?_
      refine csI (n := 2) C w hl dX5_order_31 (c_X5_failureOfPair l G hX S (jn a) (jn b) (by omega) (by omega)) gX5_order_X5_failureOfPair rfl (by decide +kernel) rfl rfl (Nat.le_of_ble_eq_true rfl) ⟨by decide, by decide⟩ (fun v3 S3 H locs hp w => ?_)
      obtain ⟨q3, e0⟩ := hp
      rw [e0] at w
      refine lv_istore_n hx hb dX5_order_34 rfl hl (by decide) rfl (fun ls hl => ?_)
      refine lv_iload_n hx hb dX5_order_35 rfl (lv_at hl 0 rfl) ?_
      refine lv_if_eq (tgt := 41) hx hb dX5_order_36 (by decide) (fun c_36 => ?_) (fun c_36 => ?_)
      · refine lv_aload_n hx hb dX5_order_41 rfl (lv_at hl 1 rfl) ?_
        refine pgQ 5 0 10 (by decide) rfl (by decide) rfl rfl C w hi5 (by decide +kernel) dX5_order_42 (oP5 hX) hS.2.2.1 ?_
        refine lv_iload_n hx hb dX5_order_45 rfl (lv_at hl 2 rfl) ?_
        refine paQ C w dX5_order_46 (oP10 hX (by decide)) (n := jn a) (jn_eq ha) (oN100 hX) (by omega) (by decide) (r1 := jn a) (lk10 hS (by omega)) ?_
        refine lv_aload_n hx hb dX5_order_47 rfl (lv_at hl 1 rfl) ?_
        refine pgQ 5 0 10 (by decide) rfl (by decide) rfl rfl C w hi5 (by decide +kernel) dX5_order_48 (oP5 hX) hS.2.2.1 ?_
        refine lv_iload_n hx hb dX5_order_51 rfl (lv_at hl 3 rfl) ?_
        refine paQ C w dX5_order_52 (oP10 hX (by decide)) (n := jn b) (jn_eq hb2) (oN100 hX) (by omega) (by decide) (r1 := jn b) (lk10 hS (by omega)) ?_
        refine cvI (n := 1) C w hl dX5_order_53 (c_X2_compareWith l G hX S hS (jn a) (jn b) (jn (sI S 2 (jn a) 2)) (by omega) (by omega) (nI_jn (hsz _ hja).1) (by have := hsz _ hja; unfold jn at *; omega)) gX5_order_X2_compareWith rfl (by decide +kernel) rfl rfl (Nat.le_of_ble_eq_true rfl) ⟨by decide, by decide⟩ (by decide) rfl (oP2 hX (by omega)) (fun v4 S4 H locs hp w => ?_)
        obtain ⟨q4, e0⟩ := hp
        rw [e0] at w
        refine lv_iconst (v := 2) hx hb dX5_order_56 (by decide) ?_
        refine lv_iadd hx hb dX5_order_57 ?_
        exact hret _ _ _ _ _ _ dX5_order_58 w (by unfold spOrder; rw [if_pos ⟨ha, hb2⟩, if_pos (by rw [← q3]; exact c_36)]; exact ⟨by rw [q4], rfl⟩)
      · refine lv_iload_n hx hb dX5_order_39 rfl (lv_at hl 0 rfl) ?_
        exact hret _ _ _ _ _ _ dX5_order_40 w (by unfold spOrder; rw [if_pos ⟨ha, hb2⟩, if_neg (by rw [← q3]; exact c_36)]; exact ⟨q3, rfl⟩)
    · refine lv_bipush (v := (-2)) hx hb dX5_order_16 (by decide) ?_
      exact hret _ _ _ _ _ _ dX5_order_18 w (by unfold spOrder; rw [if_neg (fun q => by first | exact no_of q1 c_5 q.1 | exact no_of q2 c_13 q.2)]; exact ⟨rfl, rfl⟩)

set_option maxHeartbeats 4000000 in
set_option maxRecDepth 100000 in
/-- Tape.append -/
theorem c_X3_append (l : Launch) (G : GT) (hX : okX G) (S : PS) (hS : lkX S) (tl : Nat) (c2 : Int32) (htl : sI S 3 0 1 = nI tl) (ht : tl < 300) : CtV l G yX3_append wsX3_append (rmK 0 0) [.ref (gA G 3 0), .int c2] S (fun S2 => S2 = uI (uI S 7 0 tl (vp_nar .byte c2.toInt8.toInt32)) 3 0 1 (nI (tl + 1))) := by
  refine ofCtV (cc := cX3_append) (nL := 2) RX3 (by decide +kernel) rfl rfl (Nat.le_of_ble_eq_true rfl) ?_
  intro p e s m args below meth c A Q ls C w hl hret
  have hx := C.1
  have hb := C.2.1
  have hown := C.2.2.2.1
  have hts := C.2.2.2.2.1
  have hi3 : ∀ w ∈ wsX30, w ∈ wsX3_append := by decide +kernel
  refine lv_aload_n hx hb dX3_append_0 rfl (lv_at hl 0 rfl) ?_
  refine pgI 3 1 (by decide) rfl (by decide) (Or.inl rfl) rfl C w hi3 (by decide +kernel) dX3_append_1 (oP3 hX) (v := nI tl) htl ?_
  refine lv_aload_n hx hb dX3_append_4 rfl (lv_at hl 0 rfl) ?_
  refine pgQ 3 0 7 (by decide) rfl (by decide) rfl rfl C w hi3 (by decide +kernel) dX3_append_5 (oP3 hX) hS.2.2.2.2.2.2.2.1 ?_
  refine plen 7 (by decide) C w dX3_append_8 (oP7 hX (by decide)) (oN70 hX) ?_
  refine lv_icmp_ge (tgt := 33) hx hb dX3_append_9 (by decide) (fun c_9 => absurd c_9 (nI_ge (by omega) (by omega))) (fun c_9 => ?_)
  refine lv_aload_n hx hb dX3_append_12 rfl (lv_at hl 0 rfl) ?_
  refine pgQ 3 0 7 (by decide) rfl (by decide) rfl rfl C w hi3 (by decide +kernel) dX3_append_13 (oP3 hX) hS.2.2.2.2.2.2.2.1 ?_
  refine lv_aload_n hx hb dX3_append_16 rfl (lv_at hl 0 rfl) ?_
  refine pgI 3 1 (by decide) rfl (by decide) (Or.inl rfl) rfl C w hi3 (by decide +kernel) dX3_append_17 (oP3 hX) (v := nI tl) htl ?_
  refine lv_iload_n hx hb dX3_append_20 rfl (lv_at hl 1 rfl) ?_
  refine lv_i2b hx hb dX3_append_21 rfl ?_
  refine psB C w dX3_append_22 (oP7 hX (by decide)) rfl (oN70 hX) (by omega) (by decide) (fun H locs w => ?_)
  refine lv_aload_n hx hb dX3_append_23 rfl (lv_at hl 0 rfl) ?_
  refine lv_dup hx hb dX3_append_24 rfl ?_
  refine pgI 3 1 (by decide) rfl (by decide) (Or.inl rfl) rfl C w hi3 (by decide +kernel) dX3_append_25 (oP3 hX) (v := nI tl) (by rw [sI_uI, if_neg (by simp)]; exact htl) ?_
  refine lv_iconst (v := 1) hx hb dX3_append_28 (by decide) ?_
  refine lv_iadd hx hb dX3_append_29 ?_
  refine ppI 3 1 (by decide) rfl (by decide) rfl rfl tyX3_ok nmX3 rfl (by decide +kernel) C w hi3 (by decide +kernel) dX3_append_30 (oP3 hX) (fun H locs w => ?_)
  rw [nI_1] at w
  exact hret _ _ _ _ _ dX3_append_33 w rfl

set_option maxHeartbeats 4000000 in
set_option maxRecDepth 100000 in
/-- put -/
theorem c_X5_put (l : Launch) (G : GT) (hX : okX G) (S : PS) (hS : lkX S) (tl : Nat) (htl : sI S 3 0 1 = nI tl) (ht3 : tl ≤ 300) (c2 : Int32) : CtI l G yX5_put wsX5_put (rmK 1 21) [.ref (gA G 5 0), .int c2] S (fun v S2 => spPut tl c2 v (S2 = S) (S2 = uI (uI S 7 0 tl c2) 3 0 1 (nI (tl + 1)))) := by
  refine ofCtI (cc := cX5_put) (nL := 2) RX5 (by decide +kernel) rfl rfl (Nat.le_of_ble_eq_true rfl) ?_
  intro p e s m args below meth c A Q ls C w hl hret
  have hx := C.1
  have hb := C.2.1
  have hown := C.2.2.2.1
  have hts := C.2.2.2.2.1
  have hi3 : ∀ w ∈ wsX30, w ∈ wsX5_put := by decide +kernel
  have hi5 : ∀ w ∈ wsX50, w ∈ wsX5_put := by decide +kernel
  refine lv_iload_n hx hb dX5_put_0 rfl (lv_at hl 1 rfl) ?_
  refine lv_if_lt (tgt := 10) hx hb dX5_put_1 (by decide) (fun c_1 => ?_) (fun c_1 => ?_)
  · have hc : ¬ inN c2 128 := inN_n1 c_1
    refine lv_bipush (v := (-3)) hx hb dX5_put_10 (by decide) ?_
    exact hret _ _ _ _ _ _ dX5_put_12 w (by unfold spPut; rw [if_neg hc]; exact ⟨rfl, rfl⟩)
  · refine lv_iload_n hx hb dX5_put_4 rfl (lv_at hl 1 rfl) ?_
    refine lv_bipush (v := 127) hx hb dX5_put_5 (by decide) ?_
    refine lv_icmp_le (tgt := 13) hx hb dX5_put_7 (by decide) (fun c_7 => ?_) (fun c_7 => ?_)
    · have hc : inN c2 128 := by rw [Int32.lt_iff_toInt_lt, i32_0] at c_1; rw [Int32.le_iff_toInt_le, show (127 : Int32).toInt = 127 from rfl] at c_7; exact ⟨by omega, by omega⟩
      refine lv_aload_n hx hb dX5_put_13 rfl (lv_at hl 0 rfl) ?_
      refine pgQ 5 2 3 (by decide) rfl (by decide) rfl rfl C w hi5 (by decide +kernel) dX5_put_14 (oP5 hX) hS.2.2.2.1 ?_
      refine pgI 3 1 (by decide) rfl (by decide) (Or.inl rfl) rfl C w hi3 (by decide +kernel) dX5_put_17 (oP3 hX) (v := nI tl) htl ?_
      refine lv_sipush (v := 300) hx hb dX5_put_20 (by decide) ?_
      refine lv_icmp_lt (tgt := 29) hx hb dX5_put_23 (by decide) (fun c_23 => ?_) (fun c_23 => ?_)
      · have hf : ¬ tl = 300 := by have := (nI_ltI (a := tl) (b := 300) (by omega) (by decide)).mp c_23; omega
        refine lv_aload_n hx hb dX5_put_29 rfl (lv_at hl 0 rfl) ?_
        refine pgQ 5 2 3 (by decide) rfl (by decide) rfl rfl C w hi5 (by decide +kernel) dX5_put_30 (oP5 hX) hS.2.2.2.1 ?_
        refine lv_iload_n hx hb dX5_put_33 rfl (lv_at hl 1 rfl) ?_
        refine cvV (n := 1) C w hl dX5_put_34 (c_X3_append l G hX S hS tl c2 htl (by omega)) gX5_put_X3_append rfl (by decide +kernel) rfl rfl (Nat.le_of_ble_eq_true rfl) ⟨by decide, by decide⟩ (by decide) rfl (oP3 hX) (fun S3 H locs hp w => ?_)
        have hj := jn_lt (n := 128) hc
        have e := byte128 (jn c2) hj
        rw [← jn_eq hc] at e
        rw [e] at hp
        subst hp
        refine lv_aload_n hx hb dX5_put_37 rfl (lv_at hl 0 rfl) ?_
        refine pgQ 5 2 3 (by decide) rfl (by decide) rfl rfl C w hi5 (by decide +kernel) dX5_put_38 (oP5 hX) hS.2.2.2.1 ?_
        refine pgI 3 1 (by decide) rfl (by decide) (Or.inl rfl) rfl C w hi3 (by decide +kernel) dX5_put_41 (oP3 hX) (v := nI (tl + 1)) (by rw [sI_uI, if_pos ⟨rfl, rfl, rfl⟩]) ?_
        exact hret _ _ _ _ _ _ dX5_put_44 w (by unfold spPut; rw [if_pos hc, if_neg hf]; exact ⟨rfl, rfl⟩)
      · have hf : tl = 300 := by have := mt (nI_ltI (a := tl) (b := 300) (by omega) (by decide)).mpr c_23; omega
        refine lv_bipush (v := (-4)) hx hb dX5_put_26 (by decide) ?_
        exact hret _ _ _ _ _ _ dX5_put_28 w (by unfold spPut; rw [if_pos hc, if_pos hf]; exact ⟨rfl, rfl⟩)
    · have hc : ¬ inN c2 128 := fun q => by rw [Int32.le_iff_toInt_le, show (127 : Int32).toInt = 127 from rfl] at c_7; have := q.2; omega
      refine lv_bipush (v := (-3)) hx hb dX5_put_10 (by decide) ?_
      exact hret _ _ _ _ _ _ dX5_put_12 w (by unfold spPut; rw [if_neg hc]; exact ⟨rfl, rfl⟩)

set_option maxHeartbeats 4000000 in
set_option maxRecDepth 100000 in
/-- out -/
theorem c_X5_out (l : Launch) (G : GT) (hX : okX G) (S : PS) (hS : lkX S) (pl : Nat) (hpl : sI S 0 0 1 = nI pl) (hp3 : pl ≤ 263) (i : Int32) : CtI l G yX5_out wsX5_out (rmK 0 0) [.ref (gA G 5 0), .int i] S (fun v S2 => spOut pl (sI S 7 1) i v (S2 = S)) := by
  refine ofCtI (cc := cX5_out) (nL := 2) RX5 (by decide +kernel) rfl rfl (Nat.le_of_ble_eq_true rfl) ?_
  intro p e s m args below meth c A Q ls C w hl hret
  have hx := C.1
  have hb := C.2.1
  have hown := C.2.2.2.1
  have hts := C.2.2.2.2.1
  have hi0 : ∀ w ∈ wsX00, w ∈ wsX5_out := by decide +kernel
  have hi5 : ∀ w ∈ wsX50, w ∈ wsX5_out := by decide +kernel
  refine lv_iload_n hx hb dX5_out_0 rfl (lv_at hl 1 rfl) ?_
  refine lv_if_lt (tgt := 27) hx hb dX5_out_1 (by decide) (fun c_1 => ?_) (fun c_1 => ?_)
  · have hin : ¬ inN i pl := inN_n1 c_1
    refine lv_iconst (v := (-1)) hx hb dX5_out_27 (by decide) ?_
    exact hret _ _ _ _ _ _ dX5_out_28 w (by unfold spOut; first | (rw [if_pos hin]; exact ⟨rfl, rfl⟩) | (rw [if_neg hin]; exact ⟨rfl, rfl⟩))
  · refine lv_iload_n hx hb dX5_out_4 rfl (lv_at hl 1 rfl) ?_
    refine lv_aload_n hx hb dX5_out_5 rfl (lv_at hl 0 rfl) ?_
    refine pgQ 5 3 0 (by decide) rfl (by decide) rfl rfl C w hi5 (by decide +kernel) dX5_out_6 (oP5 hX) hS.2.2.2.2.1 ?_
    refine pgI 0 1 (by decide) rfl (by decide) (Or.inl rfl) rfl C w hi0 (by decide +kernel) dX5_out_9 (oP0 hX) (v := nI pl) hpl ?_
    refine lv_icmp_ge (tgt := 27) hx hb dX5_out_12 (by decide) (fun c_12 => ?_) (fun c_12 => ?_)
    · have hin : ¬ inN i pl := by have := inN_n2 c_12; rwa [nI_toInt (by omega)] at this
      refine lv_iconst (v := (-1)) hx hb dX5_out_27 (by decide) ?_
      exact hret _ _ _ _ _ _ dX5_out_28 w (by unfold spOut; first | (rw [if_pos hin]; exact ⟨rfl, rfl⟩) | (rw [if_neg hin]; exact ⟨rfl, rfl⟩))
    · have hin : inN i pl := by have := inN_of c_1 c_12; rwa [nI_toInt (by omega)] at this
      have hj := jn_lt hin
      refine lv_aload_n hx hb dX5_out_15 rfl (lv_at hl 0 rfl) ?_
      refine pgQ 5 3 0 (by decide) rfl (by decide) rfl rfl C w hi5 (by decide +kernel) dX5_out_16 (oP5 hX) hS.2.2.2.2.1 ?_
      refine pgQ 0 0 7 (by decide) rfl (by decide) rfl rfl C w hi0 (by decide +kernel) dX5_out_19 (oP0 hX) hS.2.2.2.2.2.2.2.2.1 ?_
      refine lv_iload_n hx hb dX5_out_22 rfl (lv_at hl 1 rfl) ?_
      refine paB C w dX5_out_23 (oP7 hX (by decide)) (n := jn i) (jn_eq hin) (oN71 hX) (by omega) (by decide) rfl ?_
      refine lv_goto (tgt := 28) hx hb dX5_out_24 (by decide) ?_
      exact hret _ _ _ _ _ _ dX5_out_28 w (by unfold spOut; first | (rw [if_pos hin]; exact ⟨rfl, rfl⟩) | (rw [if_neg hin]; exact ⟨rfl, rfl⟩))

set_option maxHeartbeats 4000000 in
set_option maxRecDepth 100000 in
/-- drop -/
theorem c_X5_drop (l : Launch) (G : GT) (hX : okX G) (S : PS) (n : Nat) (hn : sI S 5 0 1 = nI n) (hn60 : n ≤ 60) : CtI l G yX5_drop wsX5_drop (rmK 0 0) [.ref (gA G 5 0)] S (fun v S2 => spDrop n v (S2 = S) (S2 = uI S 5 0 1 (nI (n - 1)))) := by
  refine ofCtI (cc := cX5_drop) (nL := 1) RX5 (by decide +kernel) rfl rfl (Nat.le_of_ble_eq_true rfl) ?_
  intro p e s m args below meth c A Q ls C w hl hret
  have hx := C.1
  have hb := C.2.1
  have hown := C.2.2.2.1
  have hts := C.2.2.2.2.1
  have hi5 : ∀ w ∈ wsX50, w ∈ wsX5_drop := by decide +kernel
  refine lv_aload_n hx hb dX5_drop_0 rfl (lv_at hl 0 rfl) ?_
  refine pgI 5 1 (by decide) rfl (by decide) (Or.inl rfl) rfl C w hi5 (by decide +kernel) dX5_drop_1 (oP5 hX) (v := nI n) hn ?_
  refine lv_if_ne (tgt := 10) hx hb dX5_drop_4 (by decide) (fun c_4 => ?_) (fun c_4 => ?_)
  · have h0 : ¬ n = 0 := fun q => c_4 (by rw [q]; rfl)
    refine lv_aload_n hx hb dX5_drop_10 rfl (lv_at hl 0 rfl) ?_
    refine lv_dup hx hb dX5_drop_11 rfl ?_
    refine pgI 5 1 (by decide) rfl (by decide) (Or.inl rfl) rfl C w hi5 (by decide +kernel) dX5_drop_12 (oP5 hX) (v := nI n) hn ?_
    refine lv_iconst (v := 1) hx hb dX5_drop_15 (by decide) ?_
    refine lv_isub hx hb dX5_drop_16 ?_
    refine ppI 5 1 (by decide) rfl (by decide) rfl rfl tyX5_ok nmX5 rfl (by decide +kernel) C w hi5 (by decide +kernel) dX5_drop_17 (oP5 hX) (fun H locs w => ?_)
    rw [nI_sub1 (by omega)] at w
    refine lv_aload_n hx hb dX5_drop_20 rfl (lv_at hl 0 rfl) ?_
    refine pgI 5 1 (by decide) rfl (by decide) (Or.inl rfl) rfl C w hi5 (by decide +kernel) dX5_drop_21 (oP5 hX) (v := nI (n - 1)) (by rw [sI_uI, if_pos ⟨rfl, rfl, rfl⟩]) ?_
    exact hret _ _ _ _ _ _ dX5_drop_24 w (by unfold spDrop; rw [if_neg h0]; exact ⟨rfl, rfl⟩)
  · have h0 : n = 0 := by have := (nI_eq (a := n) (b := 0) (by omega) (by decide)).mp c_4; omega
    refine lv_bipush (v := (-2)) hx hb dX5_drop_7 (by decide) ?_
    exact hret _ _ _ _ _ _ dX5_drop_9 w (by unfold spDrop; rw [if_pos h0]; exact ⟨rfl, rfl⟩)

set_option maxHeartbeats 4000000 in
set_option maxRecDepth 100000 in
/-- many -/
theorem c_X5_many (l : Launch) (G : GT) (hX : okX G) (S : PS) (hS : lkX S) (n nr nh tl pl : Nat) (hn : sI S 5 0 1 = nI n) (hnr : sI S 1 0 3 = nI nr) (hnh : sI S 1 0 5 = nI nh) (htl : sI S 3 0 1 = nI tl) (hpl : sI S 0 0 1 = nI pl) (i : Int32) : CtI l G yX5_many wsX5_many (rmK 0 0) [.ref (gA G 5 0), .int i] S (fun v S2 => spMany n nr nh tl pl i v (S2 = S)) := by
  refine ofCtI (cc := cX5_many) (nL := 2) RX5 (by decide +kernel) rfl rfl (Nat.le_of_ble_eq_true rfl) ?_
  intro p e s m args below meth c A Q ls C w hl hret
  have hx := C.1
  have hb := C.2.1
  have hown := C.2.2.2.1
  have hts := C.2.2.2.2.1
  have hi0 : ∀ w ∈ wsX00, w ∈ wsX5_many := by decide +kernel
  have hi1 : ∀ w ∈ wsX10, w ∈ wsX5_many := by decide +kernel
  have hi3 : ∀ w ∈ wsX30, w ∈ wsX5_many := by decide +kernel
  have hi5 : ∀ w ∈ wsX50, w ∈ wsX5_many := by decide +kernel
  refine lv_iload_n hx hb dX5_many_0 rfl (lv_at hl 1 rfl) ?_
  rcases sw5 i with hs_1 | hs_1 | hs_1 | hs_1 | hs_1 | hs_1
  · refine lv_tableIn (tgt := 36) (off := 35) hx hb dX5_many_1 (by rw [hs_1]; decide) (by rw [hs_1]; decide) (by rw [hs_1]; rfl) (by decide) ?_
    refine lv_aload_n hx hb dX5_many_36 rfl (lv_at hl 0 rfl) ?_
    refine pgI 5 1 (by decide) rfl (by decide) (Or.inl rfl) rfl C w hi5 (by decide +kernel) dX5_many_37 (oP5 hX) (v := nI n) hn ?_
    exact hret _ _ _ _ _ _ dX5_many_40 w (by unfold spMany; rw [if_pos hs_1]; exact ⟨rfl, rfl⟩)
  · refine lv_tableIn (tgt := 41) (off := 40) hx hb dX5_many_1 (by rw [hs_1]; decide) (by rw [hs_1]; decide) (by rw [hs_1]; rfl) (by decide) ?_
    refine lv_aload_n hx hb dX5_many_41 rfl (lv_at hl 0 rfl) ?_
    refine pgQ 5 4 1 (by decide) rfl (by decide) rfl rfl C w hi5 (by decide +kernel) dX5_many_42 (oP5 hX) hS.2.2.2.2.2.1 ?_
    refine pgI 1 3 (by decide) rfl (by decide) (Or.inl rfl) rfl C w hi1 (by decide +kernel) dX5_many_45 (oP1 hX) (v := nI nr) hnr ?_
    exact hret _ _ _ _ _ _ dX5_many_48 w (by unfold spMany; rw [if_neg (by rw [hs_1]; decide), if_pos hs_1]; exact ⟨rfl, rfl⟩)
  · refine lv_tableIn (tgt := 49) (off := 48) hx hb dX5_many_1 (by rw [hs_1]; decide) (by rw [hs_1]; decide) (by rw [hs_1]; rfl) (by decide) ?_
    refine lv_aload_n hx hb dX5_many_49 rfl (lv_at hl 0 rfl) ?_
    refine pgQ 5 4 1 (by decide) rfl (by decide) rfl rfl C w hi5 (by decide +kernel) dX5_many_50 (oP5 hX) hS.2.2.2.2.2.1 ?_
    refine pgI 1 5 (by decide) rfl (by decide) (Or.inl rfl) rfl C w hi1 (by decide +kernel) dX5_many_53 (oP1 hX) (v := nI nh) hnh ?_
    exact hret _ _ _ _ _ _ dX5_many_56 w (by unfold spMany; rw [if_neg (by rw [hs_1]; decide), if_neg (by rw [hs_1]; decide), if_pos hs_1]; exact ⟨rfl, rfl⟩)
  · refine lv_tableIn (tgt := 57) (off := 56) hx hb dX5_many_1 (by rw [hs_1]; decide) (by rw [hs_1]; decide) (by rw [hs_1]; rfl) (by decide) ?_
    refine lv_aload_n hx hb dX5_many_57 rfl (lv_at hl 0 rfl) ?_
    refine pgQ 5 2 3 (by decide) rfl (by decide) rfl rfl C w hi5 (by decide +kernel) dX5_many_58 (oP5 hX) hS.2.2.2.1 ?_
    refine pgI 3 1 (by decide) rfl (by decide) (Or.inl rfl) rfl C w hi3 (by decide +kernel) dX5_many_61 (oP3 hX) (v := nI tl) htl ?_
    exact hret _ _ _ _ _ _ dX5_many_64 w (by unfold spMany; rw [if_neg (by rw [hs_1]; decide), if_neg (by rw [hs_1]; decide), if_neg (by rw [hs_1]; decide), if_pos hs_1]; exact ⟨rfl, rfl⟩)
  · refine lv_tableIn (tgt := 65) (off := 64) hx hb dX5_many_1 (by rw [hs_1]; decide) (by rw [hs_1]; decide) (by rw [hs_1]; rfl) (by decide) ?_
    refine lv_aload_n hx hb dX5_many_65 rfl (lv_at hl 0 rfl) ?_
    refine pgQ 5 3 0 (by decide) rfl (by decide) rfl rfl C w hi5 (by decide +kernel) dX5_many_66 (oP5 hX) hS.2.2.2.2.1 ?_
    refine pgI 0 1 (by decide) rfl (by decide) (Or.inl rfl) rfl C w hi0 (by decide +kernel) dX5_many_69 (oP0 hX) (v := nI pl) hpl ?_
    exact hret _ _ _ _ _ _ dX5_many_72 w (by unfold spMany; rw [if_neg (by rw [hs_1]; decide), if_neg (by rw [hs_1]; decide), if_neg (by rw [hs_1]; decide), if_neg (by rw [hs_1]; decide), if_pos hs_1]; exact ⟨rfl, rfl⟩)
  · refine lv_tableOut (tgt := 73) hx hb dX5_many_1 hs_1 (by decide) ?_
    refine lv_bipush (v := (-3)) hx hb dX5_many_73 (by decide) ?_
    exact hret _ _ _ _ _ _ dX5_many_75 w (by unfold spMany; rw [if_neg (by intro e; rw [e] at hs_1; revert hs_1; decide), if_neg (by intro e; rw [e] at hs_1; revert hs_1; decide), if_neg (by intro e; rw [e] at hs_1; revert hs_1; decide), if_neg (by intro e; rw [e] at hs_1; revert hs_1; decide), if_neg (by intro e; rw [e] at hs_1; revert hs_1; decide)]; exact ⟨rfl, rfl⟩)
