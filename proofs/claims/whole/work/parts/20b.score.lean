set_option maxHeartbeats 4000000 in
set_option maxRecDepth 100000 in
/-- Score.becomeSum -/
theorem c_X2_becomeSum (l : Launch) (G : GT) (hX : okX G) (S : PS) (hS : lkX S) (r a b z : Nat) (hr : r < 79) (ha : a < 79) (hb2 : b < 79) (hna : a ≠ r) (hnb : b ≠ r) (hz : sI S 2 a 2 = nI z) (hz12 : z ≤ 12) : CtI l G yX2_becomeSum wsX2_becomeSum (rmK 2 44) [.ref (gA G 2 r), .ref (gA G 2 a), .ref (gA G 2 b)] S (fun v S2 => (v = 1 ∧ (∀ k, k < z → ¬ ((sJ S 9 a k ^^^ (sJ S 9 a k + sJ S 9 b k)) &&& (sJ S 9 b k ^^^ (sJ S 9 a k + sJ S 9 b k)) < 0)) ∧ S2 = (rwk (fm S r (sI S 2 a 0) (sI S 2 a 1) (sI S 2 a 2)) r (fun j => sJ S 9 a j + sJ S 9 b j) (sJ S 9 r) z)) ∨ (v = 0 ∧ (∃ k, k < z ∧ ((sJ S 9 a k ^^^ (sJ S 9 a k + sJ S 9 b k)) &&& (sJ S 9 b k ^^^ (sJ S 9 a k + sJ S 9 b k)) < 0)) ∧ ∃ f, S2 = rw9 (fm S r (sI S 2 a 0) (sI S 2 a 1) (sI S 2 a 2)) r f)) := by
  refine ofCtZ (cc := cX2_becomeSum) (nL := 10) RX2 (by decide +kernel) rfl rfl (Nat.le_of_ble_eq_true rfl) ?_
  intro p e s m args below meth c A Q ls C w hl hret
  have hx := C.1
  have hb := C.2.1
  have hown := C.2.2.2.1
  have hts := C.2.2.2.2.1
  have hi2 : ∀ w ∈ wsX20, w ∈ wsX2_becomeSum := by decide +kernel
  refine lv_aload_n hx hb dX2_becomeSum_0 rfl (lv_at hl 0 rfl) ?_
  refine lv_aload_n hx hb dX2_becomeSum_1 rfl (lv_at hl 1 rfl) ?_
  refine cvV (n := 1) C w hl dX2_becomeSum_2 (c_X2_formLike l G hX S _ _ (by assumption) (by assumption)) gX2_becomeSum_X2_formLike rfl (by decide +kernel) rfl rfl (Nat.le_of_ble_eq_true rfl) ⟨by decide, by decide⟩ (by decide) rfl (oP2 hX (by assumption)) (fun S2 H locs hp w => ?_)
  subst hp
  refine lv_iconst (v := 0) hx hb dX2_becomeSum_5 (by decide) ?_
  refine lv_istore_n hx hb dX2_becomeSum_6 rfl hl (by decide) rfl (fun ls hl => ?_)
  have loop_7 : ∀ (n : Nat) (k : Nat) (H : Heap) (locs : List Loc) (ls : Array Slot), k + n = z → (∀ j, j < k → ¬ ((sJ S 9 a j ^^^ (sJ S 9 a j + sJ S 9 b j)) &&& (sJ S 9 b j ^^^ (sJ S 9 a j + sJ S 9 b j)) < 0)) → Wd G A s.heap (rwk (fm S r (sI S 2 a 0) (sI S 2 a 1) (sI S 2 a 2)) r (fun j => sJ S 9 a j + sJ S 9 b j) (sJ S 9 r) k) H locs → lv_has ls 10 [(0, .ref (gA G 2 r)), (1, .ref (gA G 2 a)), (2, .ref (gA G 2 b)), (3, .int (nI k))] → W p l e (rmK 2 44) s m args below meth c H locs 0 0 Q (F0 m 7 ls []) := by
    intro n
    induction n with
    | zero =>
      intro k H locs ls hk hI w hl
      refine lv_iload_n hx hb dX2_becomeSum_7 rfl (lv_at hl 3 rfl) ?_
      refine lv_aload_n hx hb dX2_becomeSum_8 rfl (lv_at hl 0 rfl) ?_
      refine pgI 2 2 (by decide) rfl (by decide) (Or.inl rfl) rfl C w hi2 (by decide +kernel) dX2_becomeSum_9 (oP2 hX (by assumption)) (v := nI z) (by rw [sI_rwk, sI_fm2]; exact hz) ?_
      refine lv_icmp_ge (tgt := 70) hx hb dX2_becomeSum_12 (by decide) (fun c_12 => ?_) (fun c_12 => absurd (nI_le (by omega) (by omega)) c_12)
      have e : k = z := by omega
      subst e
      refine lv_iconst (v := 1) hx hb dX2_becomeSum_70 (by decide) ?_
      exact hret _ _ _ _ _ _ dX2_becomeSum_71 w (by decide) (Or.inl ⟨rfl, hI, rfl⟩)
    | succ n ih =>
      intro k H locs ls hk hI w hl
      refine lv_iload_n hx hb dX2_becomeSum_7 rfl (lv_at hl 3 rfl) ?_
      refine lv_aload_n hx hb dX2_becomeSum_8 rfl (lv_at hl 0 rfl) ?_
      refine pgI 2 2 (by decide) rfl (by decide) (Or.inl rfl) rfl C w hi2 (by decide +kernel) dX2_becomeSum_9 (oP2 hX (by assumption)) (v := nI z) (by rw [sI_rwk, sI_fm2]; exact hz) ?_
      refine lv_icmp_ge (tgt := 70) hx hb dX2_becomeSum_12 (by decide) (fun c_12 => absurd c_12 (nI_ge (by omega) (by omega))) (fun c_12 => ?_)
      refine lv_aload_n hx hb dX2_becomeSum_15 rfl (lv_at hl 1 rfl) ?_
      refine pgQ 2 3 9 (by decide) rfl (by decide) rfl rfl C w hi2 (by decide +kernel) dX2_becomeSum_16 (oP2 hX (by assumption)) (lk2 hS (by assumption)) ?_
      refine lv_iload_n hx hb dX2_becomeSum_19 rfl (lv_at hl 3 rfl) ?_
      refine paJ C w dX2_becomeSum_20 (oP9 hX (by assumption)) rfl (oN9 hX (by assumption)) (by omega) (by decide) (v := sJ S 9 a k) (by rw [sJ_rwk_n hna]; rfl) ?_
      refine lv_lstore hx hb dX2_becomeSum_21 hl (by decide) rfl (fun ls hl => ?_)
      refine lv_aload_n hx hb dX2_becomeSum_23 rfl (lv_at hl 3 rfl) ?_
      refine pgQ 2 3 9 (by decide) rfl (by decide) rfl rfl C w hi2 (by decide +kernel) dX2_becomeSum_24 (oP2 hX (by assumption)) (lk2 hS (by assumption)) ?_
      refine lv_iload_n hx hb dX2_becomeSum_27 rfl (lv_at hl 4 rfl) ?_
      refine paJ C w dX2_becomeSum_28 (oP9 hX (by assumption)) rfl (oN9 hX (by assumption)) (by omega) (by decide) (v := sJ S 9 b k) (by rw [sJ_rwk_n hnb]; rfl) ?_
      refine lv_lstore hx hb dX2_becomeSum_29 hl (by decide) rfl (fun ls hl => ?_)
      refine lv_lload hx hb dX2_becomeSum_31 (lv_at hl 1 rfl) ?_
      refine lv_lload hx hb dX2_becomeSum_33 (lv_at hl 0 rfl) ?_
      refine lv_ladd hx hb dX2_becomeSum_35 ?_
      refine lv_lstore hx hb dX2_becomeSum_36 hl (by decide) rfl (fun ls hl => ?_)
      refine lv_lload hx hb dX2_becomeSum_38 (lv_at hl 2 rfl) ?_
      refine lv_lload hx hb dX2_becomeSum_40 (lv_at hl 0 rfl) ?_
      refine lv_lxor hx hb dX2_becomeSum_42 ?_
      refine lv_lload hx hb dX2_becomeSum_43 (lv_at hl 1 rfl) ?_
      refine lv_lload hx hb dX2_becomeSum_45 (lv_at hl 0 rfl) ?_
      refine lv_lxor hx hb dX2_becomeSum_47 ?_
      refine lv_land hx hb dX2_becomeSum_48 ?_
      refine lv_lconst (v := 0) hx hb dX2_becomeSum_49 (by decide) ?_
      refine W.lcmp hx hb dX2_becomeSum_50 ?_
      refine lv_if_ge (tgt := 56) hx hb dX2_becomeSum_51 (by decide) (fun c_51 => ?_) (fun c_51 => ?_)
      · rw [lg_cmp_ge] at c_51
        refine lv_aload_n hx hb dX2_becomeSum_56 rfl (lv_at hl 3 rfl) ?_
        refine pgQ 2 3 9 (by decide) rfl (by decide) rfl rfl C w hi2 (by decide +kernel) dX2_becomeSum_57 (oP2 hX (by assumption)) (lk2 hS (by assumption)) ?_
        refine lv_iload_n hx hb dX2_becomeSum_60 rfl (lv_at hl 6 rfl) ?_
        refine lv_lload hx hb dX2_becomeSum_61 (lv_at hl 0 rfl) ?_
        refine psJ C w dX2_becomeSum_63 (oP9 hX (by assumption)) rfl (oN9 hX (by assumption)) (by omega) (by decide) (fun H locs w => ?_)
        refine lv_iinc (v := nI (k + 1)) hx hb dX2_becomeSum_64 hl (k := 6) rfl (nI_1 k) (by decide) rfl (fun ls hl => ?_)
        refine lv_goto (tgt := 7) hx hb dX2_becomeSum_67 (by decide) ?_
        rw [rwk_s rfl] at w
        exact ih (k + 1) _ _ _ (by omega) (lt_s hI (Int64.not_lt.mpr c_51)) w (lv_sub hl [4, 5, 6, 0] rfl)
      · rw [lg_cmp_ge] at c_51
        refine lv_iconst (v := 0) hx hb dX2_becomeSum_54 (by decide) ?_
        exact hret _ _ _ _ _ _ dX2_becomeSum_55 w (by decide) (Or.inr ⟨rfl, ⟨k, by omega, Int64.not_le.mp c_51⟩, _, rfl⟩)
  exact loop_7 z 0 _ _ _ (by omega) lt_0 (by rw [rwk_0 (S := fm S r _ _ _) (o := sJ S 9 r) (fun _ => rfl)]; exact w) (lv_sub hl [1, 2, 3, 0] rfl)

set_option maxHeartbeats 4000000 in
set_option maxRecDepth 100000 in
/-- Score.becomeDifference -/
theorem c_X2_becomeDifference (l : Launch) (G : GT) (hX : okX G) (S : PS) (hS : lkX S) (r a b z : Nat) (hr : r < 79) (ha : a < 79) (hb2 : b < 79) (hna : a ≠ r) (hnb : b ≠ r) (hz : sI S 2 a 2 = nI z) (hz12 : z ≤ 12) : CtI l G yX2_becomeDifference wsX2_becomeDifference (rmK 2 44) [.ref (gA G 2 r), .ref (gA G 2 a), .ref (gA G 2 b)] S (fun v S2 => (v = 1 ∧ (∀ k, k < z → ¬ ((sJ S 9 a k ^^^ sJ S 9 b k) &&& (sJ S 9 a k ^^^ (sJ S 9 a k - sJ S 9 b k)) < 0)) ∧ S2 = (rwk (fm S r (sI S 2 a 0) (sI S 2 a 1) (sI S 2 a 2)) r (fun j => sJ S 9 a j - sJ S 9 b j) (sJ S 9 r) z)) ∨ (v = 0 ∧ (∃ k, k < z ∧ ((sJ S 9 a k ^^^ sJ S 9 b k) &&& (sJ S 9 a k ^^^ (sJ S 9 a k - sJ S 9 b k)) < 0)) ∧ ∃ f, S2 = rw9 (fm S r (sI S 2 a 0) (sI S 2 a 1) (sI S 2 a 2)) r f)) := by
  refine ofCtZ (cc := cX2_becomeDifference) (nL := 10) RX2 (by decide +kernel) rfl rfl (Nat.le_of_ble_eq_true rfl) ?_
  intro p e s m args below meth c A Q ls C w hl hret
  have hx := C.1
  have hb := C.2.1
  have hown := C.2.2.2.1
  have hts := C.2.2.2.2.1
  have hi2 : ∀ w ∈ wsX20, w ∈ wsX2_becomeDifference := by decide +kernel
  refine lv_aload_n hx hb dX2_becomeDifference_0 rfl (lv_at hl 0 rfl) ?_
  refine lv_aload_n hx hb dX2_becomeDifference_1 rfl (lv_at hl 1 rfl) ?_
  refine cvV (n := 1) C w hl dX2_becomeDifference_2 (c_X2_formLike l G hX S _ _ (by assumption) (by assumption)) gX2_becomeDifference_X2_formLike rfl (by decide +kernel) rfl rfl (Nat.le_of_ble_eq_true rfl) ⟨by decide, by decide⟩ (by decide) rfl (oP2 hX (by assumption)) (fun S2 H locs hp w => ?_)
  subst hp
  refine lv_iconst (v := 0) hx hb dX2_becomeDifference_5 (by decide) ?_
  refine lv_istore_n hx hb dX2_becomeDifference_6 rfl hl (by decide) rfl (fun ls hl => ?_)
  have loop_7 : ∀ (n : Nat) (k : Nat) (H : Heap) (locs : List Loc) (ls : Array Slot), k + n = z → (∀ j, j < k → ¬ ((sJ S 9 a j ^^^ sJ S 9 b j) &&& (sJ S 9 a j ^^^ (sJ S 9 a j - sJ S 9 b j)) < 0)) → Wd G A s.heap (rwk (fm S r (sI S 2 a 0) (sI S 2 a 1) (sI S 2 a 2)) r (fun j => sJ S 9 a j - sJ S 9 b j) (sJ S 9 r) k) H locs → lv_has ls 10 [(0, .ref (gA G 2 r)), (1, .ref (gA G 2 a)), (2, .ref (gA G 2 b)), (3, .int (nI k))] → W p l e (rmK 2 44) s m args below meth c H locs 0 0 Q (F0 m 7 ls []) := by
    intro n
    induction n with
    | zero =>
      intro k H locs ls hk hI w hl
      refine lv_iload_n hx hb dX2_becomeDifference_7 rfl (lv_at hl 3 rfl) ?_
      refine lv_aload_n hx hb dX2_becomeDifference_8 rfl (lv_at hl 0 rfl) ?_
      refine pgI 2 2 (by decide) rfl (by decide) (Or.inl rfl) rfl C w hi2 (by decide +kernel) dX2_becomeDifference_9 (oP2 hX (by assumption)) (v := nI z) (by rw [sI_rwk, sI_fm2]; exact hz) ?_
      refine lv_icmp_ge (tgt := 70) hx hb dX2_becomeDifference_12 (by decide) (fun c_12 => ?_) (fun c_12 => absurd (nI_le (by omega) (by omega)) c_12)
      have e : k = z := by omega
      subst e
      refine lv_iconst (v := 1) hx hb dX2_becomeDifference_70 (by decide) ?_
      exact hret _ _ _ _ _ _ dX2_becomeDifference_71 w (by decide) (Or.inl ⟨rfl, hI, rfl⟩)
    | succ n ih =>
      intro k H locs ls hk hI w hl
      refine lv_iload_n hx hb dX2_becomeDifference_7 rfl (lv_at hl 3 rfl) ?_
      refine lv_aload_n hx hb dX2_becomeDifference_8 rfl (lv_at hl 0 rfl) ?_
      refine pgI 2 2 (by decide) rfl (by decide) (Or.inl rfl) rfl C w hi2 (by decide +kernel) dX2_becomeDifference_9 (oP2 hX (by assumption)) (v := nI z) (by rw [sI_rwk, sI_fm2]; exact hz) ?_
      refine lv_icmp_ge (tgt := 70) hx hb dX2_becomeDifference_12 (by decide) (fun c_12 => absurd c_12 (nI_ge (by omega) (by omega))) (fun c_12 => ?_)
      refine lv_aload_n hx hb dX2_becomeDifference_15 rfl (lv_at hl 1 rfl) ?_
      refine pgQ 2 3 9 (by decide) rfl (by decide) rfl rfl C w hi2 (by decide +kernel) dX2_becomeDifference_16 (oP2 hX (by assumption)) (lk2 hS (by assumption)) ?_
      refine lv_iload_n hx hb dX2_becomeDifference_19 rfl (lv_at hl 3 rfl) ?_
      refine paJ C w dX2_becomeDifference_20 (oP9 hX (by assumption)) rfl (oN9 hX (by assumption)) (by omega) (by decide) (v := sJ S 9 a k) (by rw [sJ_rwk_n hna]; rfl) ?_
      refine lv_lstore hx hb dX2_becomeDifference_21 hl (by decide) rfl (fun ls hl => ?_)
      refine lv_aload_n hx hb dX2_becomeDifference_23 rfl (lv_at hl 3 rfl) ?_
      refine pgQ 2 3 9 (by decide) rfl (by decide) rfl rfl C w hi2 (by decide +kernel) dX2_becomeDifference_24 (oP2 hX (by assumption)) (lk2 hS (by assumption)) ?_
      refine lv_iload_n hx hb dX2_becomeDifference_27 rfl (lv_at hl 4 rfl) ?_
      refine paJ C w dX2_becomeDifference_28 (oP9 hX (by assumption)) rfl (oN9 hX (by assumption)) (by omega) (by decide) (v := sJ S 9 b k) (by rw [sJ_rwk_n hnb]; rfl) ?_
      refine lv_lstore hx hb dX2_becomeDifference_29 hl (by decide) rfl (fun ls hl => ?_)
      refine lv_lload hx hb dX2_becomeDifference_31 (lv_at hl 1 rfl) ?_
      refine lv_lload hx hb dX2_becomeDifference_33 (lv_at hl 0 rfl) ?_
      refine lv_lsub hx hb dX2_becomeDifference_35 ?_
      refine lv_lstore hx hb dX2_becomeDifference_36 hl (by decide) rfl (fun ls hl => ?_)
      refine lv_lload hx hb dX2_becomeDifference_38 (lv_at hl 2 rfl) ?_
      refine lv_lload hx hb dX2_becomeDifference_40 (lv_at hl 1 rfl) ?_
      refine lv_lxor hx hb dX2_becomeDifference_42 ?_
      refine lv_lload hx hb dX2_becomeDifference_43 (lv_at hl 2 rfl) ?_
      refine lv_lload hx hb dX2_becomeDifference_45 (lv_at hl 0 rfl) ?_
      refine lv_lxor hx hb dX2_becomeDifference_47 ?_
      refine lv_land hx hb dX2_becomeDifference_48 ?_
      refine lv_lconst (v := 0) hx hb dX2_becomeDifference_49 (by decide) ?_
      refine W.lcmp hx hb dX2_becomeDifference_50 ?_
      refine lv_if_ge (tgt := 56) hx hb dX2_becomeDifference_51 (by decide) (fun c_51 => ?_) (fun c_51 => ?_)
      · rw [lg_cmp_ge] at c_51
        refine lv_aload_n hx hb dX2_becomeDifference_56 rfl (lv_at hl 3 rfl) ?_
        refine pgQ 2 3 9 (by decide) rfl (by decide) rfl rfl C w hi2 (by decide +kernel) dX2_becomeDifference_57 (oP2 hX (by assumption)) (lk2 hS (by assumption)) ?_
        refine lv_iload_n hx hb dX2_becomeDifference_60 rfl (lv_at hl 6 rfl) ?_
        refine lv_lload hx hb dX2_becomeDifference_61 (lv_at hl 0 rfl) ?_
        refine psJ C w dX2_becomeDifference_63 (oP9 hX (by assumption)) rfl (oN9 hX (by assumption)) (by omega) (by decide) (fun H locs w => ?_)
        refine lv_iinc (v := nI (k + 1)) hx hb dX2_becomeDifference_64 hl (k := 6) rfl (nI_1 k) (by decide) rfl (fun ls hl => ?_)
        refine lv_goto (tgt := 7) hx hb dX2_becomeDifference_67 (by decide) ?_
        rw [rwk_s rfl] at w
        exact ih (k + 1) _ _ _ (by omega) (lt_s hI (Int64.not_lt.mpr c_51)) w (lv_sub hl [4, 5, 6, 0] rfl)
      · rw [lg_cmp_ge] at c_51
        refine lv_iconst (v := 0) hx hb dX2_becomeDifference_54 (by decide) ?_
        exact hret _ _ _ _ _ _ dX2_becomeDifference_55 w (by decide) (Or.inr ⟨rfl, ⟨k, by omega, Int64.not_le.mp c_51⟩, _, rfl⟩)
  exact loop_7 z 0 _ _ _ (by omega) lt_0 (by rw [rwk_0 (S := fm S r _ _ _) (o := sJ S 9 r) (fun _ => rfl)]; exact w) (lv_sub hl [1, 2, 3, 0] rfl)

set_option maxHeartbeats 4000000 in
set_option maxRecDepth 100000 in
/-- Score.becomeGreaterLevels -/
theorem c_X2_becomeGreaterLevels (l : Launch) (G : GT) (hX : okX G) (S : PS) (hS : lkX S) (r a b z : Nat) (hr : r < 79) (ha : a < 79) (hb2 : b < 79) (hna : a ≠ r) (hnb : b ≠ r) (hz : sI S 2 a 2 = nI z) (hz12 : z ≤ 12) : CtV l G yX2_becomeGreaterLevels wsX2_becomeGreaterLevels (rmK 2 44) [.ref (gA G 2 r), .ref (gA G 2 a), .ref (gA G 2 b)] S (fun S2 => S2 = (rwk (fm S r (sI S 2 a 0) (sI S 2 a 1) (sI S 2 a 2)) r (fun j => if sJ S 9 b j < sJ S 9 a j then sJ S 9 a j else sJ S 9 b j) (sJ S 9 r) z)) := by
  refine ofCtV (cc := cX2_becomeGreaterLevels) (nL := 4) RX2 (by decide +kernel) rfl rfl (Nat.le_of_ble_eq_true rfl) ?_
  intro p e s m args below meth c A Q ls C w hl hret
  have hx := C.1
  have hb := C.2.1
  have hown := C.2.2.2.1
  have hts := C.2.2.2.2.1
  have hi2 : ∀ w ∈ wsX20, w ∈ wsX2_becomeGreaterLevels := by decide +kernel
  refine lv_aload_n hx hb dX2_becomeGreaterLevels_0 rfl (lv_at hl 0 rfl) ?_
  refine lv_aload_n hx hb dX2_becomeGreaterLevels_1 rfl (lv_at hl 1 rfl) ?_
  refine cvV (n := 1) C w hl dX2_becomeGreaterLevels_2 (c_X2_formLike l G hX S _ _ (by assumption) (by assumption)) gX2_becomeGreaterLevels_X2_formLike rfl (by decide +kernel) rfl rfl (Nat.le_of_ble_eq_true rfl) ⟨by decide, by decide⟩ (by decide) rfl (oP2 hX (by assumption)) (fun S2 H locs hp w => ?_)
  subst hp
  refine lv_iconst (v := 0) hx hb dX2_becomeGreaterLevels_5 (by decide) ?_
  refine lv_istore_n hx hb dX2_becomeGreaterLevels_6 rfl hl (by decide) rfl (fun ls hl => ?_)
  have loop_7 : ∀ (n : Nat) (k : Nat) (H : Heap) (locs : List Loc) (ls : Array Slot), k + n = z → Wd G A s.heap (rwk (fm S r (sI S 2 a 0) (sI S 2 a 1) (sI S 2 a 2)) r (fun j => if sJ S 9 b j < sJ S 9 a j then sJ S 9 a j else sJ S 9 b j) (sJ S 9 r) k) H locs → lv_has ls 4 [(0, .ref (gA G 2 r)), (1, .ref (gA G 2 a)), (2, .ref (gA G 2 b)), (3, .int (nI k))] → W p l e (rmK 2 44) s m args below meth c H locs 0 0 Q (F0 m 7 ls []) := by
    intro n
    induction n with
    | zero =>
      intro k H locs ls hk w hl
      refine lv_iload_n hx hb dX2_becomeGreaterLevels_7 rfl (lv_at hl 3 rfl) ?_
      refine lv_aload_n hx hb dX2_becomeGreaterLevels_8 rfl (lv_at hl 0 rfl) ?_
      refine pgI 2 2 (by decide) rfl (by decide) (Or.inl rfl) rfl C w hi2 (by decide +kernel) dX2_becomeGreaterLevels_9 (oP2 hX (by assumption)) (v := nI z) (by rw [sI_rwk, sI_fm2]; exact hz) ?_
      refine lv_icmp_ge (tgt := 42) hx hb dX2_becomeGreaterLevels_12 (by decide) (fun c_12 => ?_) (fun c_12 => absurd (nI_le (by omega) (by omega)) c_12)
      have e : k = z := by omega
      subst e
      exact hret _ _ _ _ _ dX2_becomeGreaterLevels_42 w rfl
    | succ n ih =>
      intro k H locs ls hk w hl
      refine lv_iload_n hx hb dX2_becomeGreaterLevels_7 rfl (lv_at hl 3 rfl) ?_
      refine lv_aload_n hx hb dX2_becomeGreaterLevels_8 rfl (lv_at hl 0 rfl) ?_
      refine pgI 2 2 (by decide) rfl (by decide) (Or.inl rfl) rfl C w hi2 (by decide +kernel) dX2_becomeGreaterLevels_9 (oP2 hX (by assumption)) (v := nI z) (by rw [sI_rwk, sI_fm2]; exact hz) ?_
      refine lv_icmp_ge (tgt := 42) hx hb dX2_becomeGreaterLevels_12 (by decide) (fun c_12 => absurd c_12 (nI_ge (by omega) (by omega))) (fun c_12 => ?_)
      refine lv_aload_n hx hb dX2_becomeGreaterLevels_15 rfl (lv_at hl 0 rfl) ?_
      refine pgQ 2 3 9 (by decide) rfl (by decide) rfl rfl C w hi2 (by decide +kernel) dX2_becomeGreaterLevels_16 (oP2 hX (by assumption)) (lk2 hS (by assumption)) ?_
      refine lv_iload_n hx hb dX2_becomeGreaterLevels_19 rfl (lv_at hl 3 rfl) ?_
      refine lv_aload_n hx hb dX2_becomeGreaterLevels_20 rfl (lv_at hl 1 rfl) ?_
      refine pgQ 2 3 9 (by decide) rfl (by decide) rfl rfl C w hi2 (by decide +kernel) dX2_becomeGreaterLevels_21 (oP2 hX (by assumption)) (lk2 hS (by assumption)) ?_
      refine lv_iload_n hx hb dX2_becomeGreaterLevels_24 rfl (lv_at hl 3 rfl) ?_
      refine paJ C w dX2_becomeGreaterLevels_25 (oP9 hX (by assumption)) rfl (oN9 hX (by assumption)) (by omega) (by decide) (v := sJ S 9 a k) (by rw [sJ_rwk_n hna]; rfl) ?_
      refine lv_aload_n hx hb dX2_becomeGreaterLevels_26 rfl (lv_at hl 2 rfl) ?_
      refine pgQ 2 3 9 (by decide) rfl (by decide) rfl rfl C w hi2 (by decide +kernel) dX2_becomeGreaterLevels_27 (oP2 hX (by assumption)) (lk2 hS (by assumption)) ?_
      refine lv_iload_n hx hb dX2_becomeGreaterLevels_30 rfl (lv_at hl 3 rfl) ?_
      refine paJ C w dX2_becomeGreaterLevels_31 (oP9 hX (by assumption)) rfl (oN9 hX (by assumption)) (by omega) (by decide) (v := sJ S 9 b k) (by rw [sJ_rwk_n hnb]; rfl) ?_
      refine va_mmax_long hx hb (by rw [C.2.2.1]; exact hl.1.symm) hown (hts _ (by decide +kernel)) (hts _ (by decide +kernel)) (hts _ (by decide +kernel)) (hts _ (by decide +kernel)) (by decide) (Nat.le_of_ble_eq_true rfl) (Nat.zero_le _) (Nat.zero_le _) dX2_becomeGreaterLevels_32 ?_
      refine psJ C w dX2_becomeGreaterLevels_35 (oP9 hX (by assumption)) rfl (oN9 hX (by assumption)) (by omega) (by decide) (fun H locs w => ?_)
      refine lv_iinc (v := nI (k + 1)) hx hb dX2_becomeGreaterLevels_36 hl (k := 3) rfl (nI_1 k) (by decide) rfl (fun ls hl => ?_)
      refine lv_goto (tgt := 7) hx hb dX2_becomeGreaterLevels_39 (by decide) ?_
      rw [rwk_s rfl] at w
      exact ih (k + 1) _ _ _ (by omega) w (lv_sub hl [1, 2, 3, 0] rfl)
  exact loop_7 z 0 _ _ _ (by omega) (by rw [rwk_0 (S := fm S r _ _ _) (o := sJ S 9 r) (fun _ => rfl)]; exact w) (lv_sub hl [1, 2, 3, 0] rfl)

set_option maxHeartbeats 4000000 in
set_option maxRecDepth 100000 in
/-- Score.becomeLesserLevels -/
theorem c_X2_becomeLesserLevels (l : Launch) (G : GT) (hX : okX G) (S : PS) (hS : lkX S) (r a b z : Nat) (hr : r < 79) (ha : a < 79) (hb2 : b < 79) (hna : a ≠ r) (hnb : b ≠ r) (hz : sI S 2 a 2 = nI z) (hz12 : z ≤ 12) : CtV l G yX2_becomeLesserLevels wsX2_becomeLesserLevels (rmK 2 44) [.ref (gA G 2 r), .ref (gA G 2 a), .ref (gA G 2 b)] S (fun S2 => S2 = (rwk (fm S r (sI S 2 a 0) (sI S 2 a 1) (sI S 2 a 2)) r (fun j => if sJ S 9 b j < sJ S 9 a j then sJ S 9 b j else sJ S 9 a j) (sJ S 9 r) z)) := by
  refine ofCtV (cc := cX2_becomeLesserLevels) (nL := 4) RX2 (by decide +kernel) rfl rfl (Nat.le_of_ble_eq_true rfl) ?_
  intro p e s m args below meth c A Q ls C w hl hret
  have hx := C.1
  have hb := C.2.1
  have hown := C.2.2.2.1
  have hts := C.2.2.2.2.1
  have hi2 : ∀ w ∈ wsX20, w ∈ wsX2_becomeLesserLevels := by decide +kernel
  refine lv_aload_n hx hb dX2_becomeLesserLevels_0 rfl (lv_at hl 0 rfl) ?_
  refine lv_aload_n hx hb dX2_becomeLesserLevels_1 rfl (lv_at hl 1 rfl) ?_
  refine cvV (n := 1) C w hl dX2_becomeLesserLevels_2 (c_X2_formLike l G hX S _ _ (by assumption) (by assumption)) gX2_becomeLesserLevels_X2_formLike rfl (by decide +kernel) rfl rfl (Nat.le_of_ble_eq_true rfl) ⟨by decide, by decide⟩ (by decide) rfl (oP2 hX (by assumption)) (fun S2 H locs hp w => ?_)
  subst hp
  refine lv_iconst (v := 0) hx hb dX2_becomeLesserLevels_5 (by decide) ?_
  refine lv_istore_n hx hb dX2_becomeLesserLevels_6 rfl hl (by decide) rfl (fun ls hl => ?_)
  have loop_7 : ∀ (n : Nat) (k : Nat) (H : Heap) (locs : List Loc) (ls : Array Slot), k + n = z → Wd G A s.heap (rwk (fm S r (sI S 2 a 0) (sI S 2 a 1) (sI S 2 a 2)) r (fun j => if sJ S 9 b j < sJ S 9 a j then sJ S 9 b j else sJ S 9 a j) (sJ S 9 r) k) H locs → lv_has ls 4 [(0, .ref (gA G 2 r)), (1, .ref (gA G 2 a)), (2, .ref (gA G 2 b)), (3, .int (nI k))] → W p l e (rmK 2 44) s m args below meth c H locs 0 0 Q (F0 m 7 ls []) := by
    intro n
    induction n with
    | zero =>
      intro k H locs ls hk w hl
      refine lv_iload_n hx hb dX2_becomeLesserLevels_7 rfl (lv_at hl 3 rfl) ?_
      refine lv_aload_n hx hb dX2_becomeLesserLevels_8 rfl (lv_at hl 0 rfl) ?_
      refine pgI 2 2 (by decide) rfl (by decide) (Or.inl rfl) rfl C w hi2 (by decide +kernel) dX2_becomeLesserLevels_9 (oP2 hX (by assumption)) (v := nI z) (by rw [sI_rwk, sI_fm2]; exact hz) ?_
      refine lv_icmp_ge (tgt := 42) hx hb dX2_becomeLesserLevels_12 (by decide) (fun c_12 => ?_) (fun c_12 => absurd (nI_le (by omega) (by omega)) c_12)
      have e : k = z := by omega
      subst e
      exact hret _ _ _ _ _ dX2_becomeLesserLevels_42 w rfl
    | succ n ih =>
      intro k H locs ls hk w hl
      refine lv_iload_n hx hb dX2_becomeLesserLevels_7 rfl (lv_at hl 3 rfl) ?_
      refine lv_aload_n hx hb dX2_becomeLesserLevels_8 rfl (lv_at hl 0 rfl) ?_
      refine pgI 2 2 (by decide) rfl (by decide) (Or.inl rfl) rfl C w hi2 (by decide +kernel) dX2_becomeLesserLevels_9 (oP2 hX (by assumption)) (v := nI z) (by rw [sI_rwk, sI_fm2]; exact hz) ?_
      refine lv_icmp_ge (tgt := 42) hx hb dX2_becomeLesserLevels_12 (by decide) (fun c_12 => absurd c_12 (nI_ge (by omega) (by omega))) (fun c_12 => ?_)
      refine lv_aload_n hx hb dX2_becomeLesserLevels_15 rfl (lv_at hl 0 rfl) ?_
      refine pgQ 2 3 9 (by decide) rfl (by decide) rfl rfl C w hi2 (by decide +kernel) dX2_becomeLesserLevels_16 (oP2 hX (by assumption)) (lk2 hS (by assumption)) ?_
      refine lv_iload_n hx hb dX2_becomeLesserLevels_19 rfl (lv_at hl 3 rfl) ?_
      refine lv_aload_n hx hb dX2_becomeLesserLevels_20 rfl (lv_at hl 1 rfl) ?_
      refine pgQ 2 3 9 (by decide) rfl (by decide) rfl rfl C w hi2 (by decide +kernel) dX2_becomeLesserLevels_21 (oP2 hX (by assumption)) (lk2 hS (by assumption)) ?_
      refine lv_iload_n hx hb dX2_becomeLesserLevels_24 rfl (lv_at hl 3 rfl) ?_
      refine paJ C w dX2_becomeLesserLevels_25 (oP9 hX (by assumption)) rfl (oN9 hX (by assumption)) (by omega) (by decide) (v := sJ S 9 a k) (by rw [sJ_rwk_n hna]; rfl) ?_
      refine lv_aload_n hx hb dX2_becomeLesserLevels_26 rfl (lv_at hl 2 rfl) ?_
      refine pgQ 2 3 9 (by decide) rfl (by decide) rfl rfl C w hi2 (by decide +kernel) dX2_becomeLesserLevels_27 (oP2 hX (by assumption)) (lk2 hS (by assumption)) ?_
      refine lv_iload_n hx hb dX2_becomeLesserLevels_30 rfl (lv_at hl 3 rfl) ?_
      refine paJ C w dX2_becomeLesserLevels_31 (oP9 hX (by assumption)) rfl (oN9 hX (by assumption)) (by omega) (by decide) (v := sJ S 9 b k) (by rw [sJ_rwk_n hnb]; rfl) ?_
      refine va_mmin_long hx hb (by rw [C.2.2.1]; exact hl.1.symm) hown (hts _ (by decide +kernel)) (hts _ (by decide +kernel)) (hts _ (by decide +kernel)) (hts _ (by decide +kernel)) (by decide) (Nat.le_of_ble_eq_true rfl) (Nat.zero_le _) (Nat.zero_le _) dX2_becomeLesserLevels_32 ?_
      refine psJ C w dX2_becomeLesserLevels_35 (oP9 hX (by assumption)) rfl (oN9 hX (by assumption)) (by omega) (by decide) (fun H locs w => ?_)
      refine lv_iinc (v := nI (k + 1)) hx hb dX2_becomeLesserLevels_36 hl (k := 3) rfl (nI_1 k) (by decide) rfl (fun ls hl => ?_)
      refine lv_goto (tgt := 7) hx hb dX2_becomeLesserLevels_39 (by decide) ?_
      rw [rwk_s rfl] at w
      exact ih (k + 1) _ _ _ (by omega) w (lv_sub hl [1, 2, 3, 0] rfl)
  exact loop_7 z 0 _ _ _ (by omega) (by rw [rwk_0 (S := fm S r _ _ _) (o := sJ S 9 r) (fun _ => rfl)]; exact w) (lv_sub hl [1, 2, 3, 0] rfl)
