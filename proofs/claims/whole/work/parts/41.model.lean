set_option maxHeartbeats 4000000 in
set_option maxRecDepth 100000 in
/-- in -/
theorem c_X6_in (l : Launch) (G : GT) (S : PS) (x a b : Int64) : CtI l G yX6_in wsX6_in (rmK 0 0) [.long x, .long a, .long b] S (fun v S2 => ((v = 1 ∧ (a ≤ x ∧ x ≤ b)) ∨ (v = 0 ∧ ¬ (a ≤ x ∧ x ≤ b))) ∧ S2 = S) := by
  refine ofCtZ (cc := cX6_in) (nL := 6) RX6 (by decide +kernel) rfl rfl (Nat.le_of_ble_eq_true rfl) ?_
  intro p e s m args below meth c A Q ls C w hl hret
  have hx := C.1
  have hb := C.2.1
  have hown := C.2.2.2.1
  have hts := C.2.2.2.2.1
  refine lv_lload_n hx hb dX6_in_0 rfl (lv_at hl 0 rfl) ?_
  refine lv_lload_n hx hb dX6_in_1 rfl (lv_at hl 1 rfl) ?_
  refine W.lcmp hx hb dX6_in_2 ?_
  refine lv_if_lt (tgt := 17) hx hb dX6_in_3 (by decide) (fun c_3 => ?_) (fun c_3 => ?_)
  · rw [lg_cmp_lt] at c_3
    have hq : ¬ (a ≤ x ∧ x ≤ b) := fun q => absurd q.1 (Int64.not_le.mpr c_3)
    refine lv_iconst (v := 0) hx hb dX6_in_17 (by decide) ?_
    exact hret _ _ _ _ _ _ dX6_in_18 w (by decide) ⟨by first | exact Or.inl ⟨rfl, hq⟩ | exact Or.inr ⟨rfl, hq⟩, rfl⟩
  · rw [lg_cmp_lt] at c_3
    refine lv_lload_n hx hb dX6_in_6 rfl (lv_at hl 0 rfl) ?_
    refine lv_lload hx hb dX6_in_7 (lv_at hl 2 rfl) ?_
    refine W.lcmp hx hb dX6_in_9 ?_
    refine lv_if_gt (tgt := 17) hx hb dX6_in_10 (by decide) (fun c_10 => ?_) (fun c_10 => ?_)
    · rw [lg_cmp_gt] at c_10
      have hq : ¬ (a ≤ x ∧ x ≤ b) := fun q => absurd q.2 (Int64.not_le.mpr c_10)
      refine lv_iconst (v := 0) hx hb dX6_in_17 (by decide) ?_
      exact hret _ _ _ _ _ _ dX6_in_18 w (by decide) ⟨by first | exact Or.inl ⟨rfl, hq⟩ | exact Or.inr ⟨rfl, hq⟩, rfl⟩
    · rw [lg_cmp_gt] at c_10
      have hq : a ≤ x ∧ x ≤ b := ⟨Int64.not_lt.mp c_3, Int64.not_lt.mp c_10⟩
      refine lv_iconst (v := 1) hx hb dX6_in_13 (by decide) ?_
      refine lv_goto (tgt := 18) hx hb dX6_in_14 (by decide) ?_
      exact hret _ _ _ _ _ _ dX6_in_18 w (by decide) ⟨by first | exact Or.inl ⟨rfl, hq⟩ | exact Or.inr ⟨rfl, hq⟩, rfl⟩

set_option maxHeartbeats 4000000 in
set_option maxRecDepth 100000 in
/-- isNumber -/
theorem c_X6_isNumber (l : Launch) (G : GT) (hM : okM G) (S : PS) (n : Nat) (hn : sI S 6 0 0 = nI n) (hn60 : n ≤ 60) (k : Int32) : CtI l G yX6_isNumber wsX6_isNumber (rmK 1 25) [.ref (gA G 6 0), .int k] S (fun v S2 => ((v = 1 ∧ inN k n) ∨ (v = 0 ∧ ¬ inN k n)) ∧ S2 = S) := by
  refine ofCtZ (cc := cX6_isNumber) (nL := 2) RX6 (by decide +kernel) rfl rfl (Nat.le_of_ble_eq_true rfl) ?_
  intro p e s m args below meth c A Q ls C w hl hret
  have hx := C.1
  have hb := C.2.1
  have hown := C.2.2.2.1
  have hts := C.2.2.2.2.1
  have hi6 : ∀ w ∈ wsX60, w ∈ wsX6_isNumber := by decide +kernel
  refine lv_iload_n hx hb dX6_isNumber_0 rfl (lv_at hl 1 rfl) ?_
  refine lv_i2l hx hb dX6_isNumber_1 rfl ?_
  refine lv_lconst (v := 0) hx hb dX6_isNumber_2 (by decide) ?_
  refine lv_aload_n hx hb dX6_isNumber_3 rfl (lv_at hl 0 rfl) ?_
  refine pgI 6 0 (by decide) rfl (by decide) (Or.inl rfl) rfl C w hi6 (by decide +kernel) dX6_isNumber_4 (oM6 hM) (v := nI n) hn ?_
  refine lv_iconst (v := 1) hx hb dX6_isNumber_7 (by decide) ?_
  refine lv_isub hx hb dX6_isNumber_8 ?_
  refine lv_i2l hx hb dX6_isNumber_9 rfl ?_
  refine csI (n := 3) C w hl dX6_isNumber_10 (c_X6_in l G S _ _ _) gX6_isNumber_X6_in rfl (by decide +kernel) rfl rfl (Nat.le_of_ble_eq_true rfl) ⟨by decide, by decide⟩ (fun v7 S7 H locs hp w => ?_)
  obtain ⟨q7, e0⟩ := hp
  rw [e0] at w
  exact hret _ _ _ _ _ _ dX6_isNumber_13 w (b_of q7) ⟨imp_of (in_n (by omega)) q7, rfl⟩

set_option maxHeartbeats 4000000 in
set_option maxRecDepth 100000 in
/-- isNothing -/
theorem c_X6_isNothing (l : Launch) (G : GT) (hM : okM G) (S : PS) (hS : lkM S) (i : Nat) (hi : i < 61) : CtI l G yX6_isNothing wsX6_isNothing (rmK 0 0) [.ref (gA G 6 0), .int (nI i)] S (fun v S2 => ((v = 1 ∧ sI S 8 0 i = -1) ∨ (v = 0 ∧ ¬ sI S 8 0 i = -1)) ∧ S2 = S) := by
  refine ofCtZ (cc := cX6_isNothing) (nL := 2) RX6 (by decide +kernel) rfl rfl (Nat.le_of_ble_eq_true rfl) ?_
  intro p e s m args below meth c A Q ls C w hl hret
  have hx := C.1
  have hb := C.2.1
  have hown := C.2.2.2.1
  have hts := C.2.2.2.2.1
  have hi6 : ∀ w ∈ wsX60, w ∈ wsX6_isNothing := by decide +kernel
  refine lv_aload_n hx hb dX6_isNothing_0 rfl (lv_at hl 0 rfl) ?_
  refine pgQ 6 1 8 (by decide) rfl (by decide) rfl rfl C w hi6 (by decide +kernel) dX6_isNothing_1 (oM6 hM) (hS.1) ?_
  refine lv_iload_n hx hb dX6_isNothing_4 rfl (lv_at hl 1 rfl) ?_
  refine paI C w dX6_isNothing_5 (oM8 hM (by decide)) rfl (nM80 hM) (by omega) (by decide) rfl ?_
  refine lv_iconst (v := (-1)) hx hb dX6_isNothing_6 (by decide) ?_
  refine lv_icmp_ne (tgt := 14) hx hb dX6_isNothing_7 (by decide) (fun c_7 => ?_) (fun c_7 => ?_)
  · refine lv_iconst (v := 0) hx hb dX6_isNothing_14 (by decide) ?_
    exact hret _ _ _ _ _ _ dX6_isNothing_15 w (by decide) ⟨by first | exact Or.inl ⟨rfl, c_7⟩ | exact Or.inr ⟨rfl, c_7⟩, rfl⟩
  · refine lv_iconst (v := 1) hx hb dX6_isNothing_10 (by decide) ?_
    refine lv_goto (tgt := 15) hx hb dX6_isNothing_11 (by decide) ?_
    exact hret _ _ _ _ _ _ dX6_isNothing_15 w (by decide) ⟨by first | exact Or.inl ⟨rfl, c_7⟩ | exact Or.inr ⟨rfl, c_7⟩, rfl⟩

set_option maxHeartbeats 4000000 in
set_option maxRecDepth 100000 in
/-- areLike -/
theorem c_X6_areLike (l : Launch) (G : GT) (hM : okM G) (S : PS) (hS : lkM S) (a b : Nat) (ha : a < 61) (hb2 : b < 61) : CtI l G yX6_areLike wsX6_areLike (rmK 0 0) [.ref (gA G 6 0), .int (nI a), .int (nI b)] S (fun v S2 => ((v = 1 ∧ (sI S 8 0 a = sI S 8 0 b ∧ sI S 8 1 a = sI S 8 1 b ∧ sI S 8 2 a = sI S 8 2 b)) ∨ (v = 0 ∧ ¬ (sI S 8 0 a = sI S 8 0 b ∧ sI S 8 1 a = sI S 8 1 b ∧ sI S 8 2 a = sI S 8 2 b))) ∧ S2 = S) := by
  refine ofCtZ (cc := cX6_areLike) (nL := 3) RX6 (by decide +kernel) rfl rfl (Nat.le_of_ble_eq_true rfl) ?_
  intro p e s m args below meth c A Q ls C w hl hret
  have hx := C.1
  have hb := C.2.1
  have hown := C.2.2.2.1
  have hts := C.2.2.2.2.1
  have hi6 : ∀ w ∈ wsX60, w ∈ wsX6_areLike := by decide +kernel
  refine lv_aload_n hx hb dX6_areLike_0 rfl (lv_at hl 0 rfl) ?_
  refine pgQ 6 1 8 (by decide) rfl (by decide) rfl rfl C w hi6 (by decide +kernel) dX6_areLike_1 (oM6 hM) (hS.1) ?_
  refine lv_iload_n hx hb dX6_areLike_4 rfl (lv_at hl 1 rfl) ?_
  refine paI C w dX6_areLike_5 (oM8 hM (by decide)) rfl (nM80 hM) (by omega) (by decide) rfl ?_
  refine lv_aload_n hx hb dX6_areLike_6 rfl (lv_at hl 0 rfl) ?_
  refine pgQ 6 1 8 (by decide) rfl (by decide) rfl rfl C w hi6 (by decide +kernel) dX6_areLike_7 (oM6 hM) (hS.1) ?_
  refine lv_iload_n hx hb dX6_areLike_10 rfl (lv_at hl 2 rfl) ?_
  refine paI C w dX6_areLike_11 (oM8 hM (by decide)) rfl (nM80 hM) (by omega) (by decide) rfl ?_
  refine lv_icmp_ne (tgt := 49) hx hb dX6_areLike_12 (by decide) (fun c_12 => ?_) (fun c_12 => ?_)
  · refine lv_iconst (v := 0) hx hb dX6_areLike_49 (by decide) ?_
    exact hret _ _ _ _ _ _ dX6_areLike_50 w (by decide) ⟨by first | exact Or.inl ⟨rfl, c_12, c_27, c_42⟩ | exact Or.inr ⟨rfl, fun q => c_12 q.1⟩ | exact Or.inr ⟨rfl, fun q => c_27 q.2.1⟩ | exact Or.inr ⟨rfl, fun q => c_42 q.2.2⟩, rfl⟩
  · refine lv_aload_n hx hb dX6_areLike_15 rfl (lv_at hl 0 rfl) ?_
    refine pgQ 6 2 8 (by decide) rfl (by decide) rfl rfl C w hi6 (by decide +kernel) dX6_areLike_16 (oM6 hM) (hS.2.1) ?_
    refine lv_iload_n hx hb dX6_areLike_19 rfl (lv_at hl 1 rfl) ?_
    refine paI C w dX6_areLike_20 (oM8 hM (by decide)) rfl (nM81 hM) (by omega) (by decide) rfl ?_
    refine lv_aload_n hx hb dX6_areLike_21 rfl (lv_at hl 0 rfl) ?_
    refine pgQ 6 2 8 (by decide) rfl (by decide) rfl rfl C w hi6 (by decide +kernel) dX6_areLike_22 (oM6 hM) (hS.2.1) ?_
    refine lv_iload_n hx hb dX6_areLike_25 rfl (lv_at hl 2 rfl) ?_
    refine paI C w dX6_areLike_26 (oM8 hM (by decide)) rfl (nM81 hM) (by omega) (by decide) rfl ?_
    refine lv_icmp_ne (tgt := 49) hx hb dX6_areLike_27 (by decide) (fun c_27 => ?_) (fun c_27 => ?_)
    · refine lv_iconst (v := 0) hx hb dX6_areLike_49 (by decide) ?_
      exact hret _ _ _ _ _ _ dX6_areLike_50 w (by decide) ⟨by first | exact Or.inl ⟨rfl, c_12, c_27, c_42⟩ | exact Or.inr ⟨rfl, fun q => c_12 q.1⟩ | exact Or.inr ⟨rfl, fun q => c_27 q.2.1⟩ | exact Or.inr ⟨rfl, fun q => c_42 q.2.2⟩, rfl⟩
    · refine lv_aload_n hx hb dX6_areLike_30 rfl (lv_at hl 0 rfl) ?_
      refine pgQ 6 3 8 (by decide) rfl (by decide) rfl rfl C w hi6 (by decide +kernel) dX6_areLike_31 (oM6 hM) (hS.2.2.1) ?_
      refine lv_iload_n hx hb dX6_areLike_34 rfl (lv_at hl 1 rfl) ?_
      refine paI C w dX6_areLike_35 (oM8 hM (by decide)) rfl (nM82 hM) (by omega) (by decide) rfl ?_
      refine lv_aload_n hx hb dX6_areLike_36 rfl (lv_at hl 0 rfl) ?_
      refine pgQ 6 3 8 (by decide) rfl (by decide) rfl rfl C w hi6 (by decide +kernel) dX6_areLike_37 (oM6 hM) (hS.2.2.1) ?_
      refine lv_iload_n hx hb dX6_areLike_40 rfl (lv_at hl 2 rfl) ?_
      refine paI C w dX6_areLike_41 (oM8 hM (by decide)) rfl (nM82 hM) (by omega) (by decide) rfl ?_
      refine lv_icmp_ne (tgt := 49) hx hb dX6_areLike_42 (by decide) (fun c_42 => ?_) (fun c_42 => ?_)
      · refine lv_iconst (v := 0) hx hb dX6_areLike_49 (by decide) ?_
        exact hret _ _ _ _ _ _ dX6_areLike_50 w (by decide) ⟨by first | exact Or.inl ⟨rfl, c_12, c_27, c_42⟩ | exact Or.inr ⟨rfl, fun q => c_12 q.1⟩ | exact Or.inr ⟨rfl, fun q => c_27 q.2.1⟩ | exact Or.inr ⟨rfl, fun q => c_42 q.2.2⟩, rfl⟩
      · refine lv_iconst (v := 1) hx hb dX6_areLike_45 (by decide) ?_
        refine lv_goto (tgt := 50) hx hb dX6_areLike_46 (by decide) ?_
        exact hret _ _ _ _ _ _ dX6_areLike_50 w (by decide) ⟨by first | exact Or.inl ⟨rfl, c_12, c_27, c_42⟩ | exact Or.inr ⟨rfl, fun q => c_12 q.1⟩ | exact Or.inr ⟨rfl, fun q => c_27 q.2.1⟩ | exact Or.inr ⟨rfl, fun q => c_42 q.2.2⟩, rfl⟩

set_option maxHeartbeats 4000000 in
set_option maxRecDepth 100000 in
/-- isLikePlan -/
theorem c_X6_isLikePlan (l : Launch) (G : GT) (hM : okM G) (S : PS) (hS : lkM S) (a : Nat) (ha : a < 61) : CtI l G yX6_isLikePlan wsX6_isLikePlan (rmK 0 0) [.ref (gA G 6 0), .int (nI a)] S (fun v S2 => ((v = 1 ∧ (sI S 8 0 a = sI S 6 0 5 ∧ sI S 8 1 a = sI S 6 0 6 ∧ sI S 8 2 a = sI S 6 0 7)) ∨ (v = 0 ∧ ¬ (sI S 8 0 a = sI S 6 0 5 ∧ sI S 8 1 a = sI S 6 0 6 ∧ sI S 8 2 a = sI S 6 0 7))) ∧ S2 = S) := by
  refine ofCtZ (cc := cX6_isLikePlan) (nL := 2) RX6 (by decide +kernel) rfl rfl (Nat.le_of_ble_eq_true rfl) ?_
  intro p e s m args below meth c A Q ls C w hl hret
  have hx := C.1
  have hb := C.2.1
  have hown := C.2.2.2.1
  have hts := C.2.2.2.2.1
  have hi6 : ∀ w ∈ wsX60, w ∈ wsX6_isLikePlan := by decide +kernel
  refine lv_aload_n hx hb dX6_isLikePlan_0 rfl (lv_at hl 0 rfl) ?_
  refine pgQ 6 1 8 (by decide) rfl (by decide) rfl rfl C w hi6 (by decide +kernel) dX6_isLikePlan_1 (oM6 hM) (hS.1) ?_
  refine lv_iload_n hx hb dX6_isLikePlan_4 rfl (lv_at hl 1 rfl) ?_
  refine paI C w dX6_isLikePlan_5 (oM8 hM (by decide)) rfl (nM80 hM) (by omega) (by decide) rfl ?_
  refine lv_aload_n hx hb dX6_isLikePlan_6 rfl (lv_at hl 0 rfl) ?_
  refine pgI 6 5 (by decide) rfl (by decide) (Or.inl rfl) rfl C w hi6 (by decide +kernel) dX6_isLikePlan_7 (oM6 hM) rfl ?_
  refine lv_icmp_ne (tgt := 43) hx hb dX6_isLikePlan_10 (by decide) (fun c_10 => ?_) (fun c_10 => ?_)
  · refine lv_iconst (v := 0) hx hb dX6_isLikePlan_43 (by decide) ?_
    exact hret _ _ _ _ _ _ dX6_isLikePlan_44 w (by decide) ⟨by first | exact Or.inl ⟨rfl, c_10, c_23, c_36⟩ | exact Or.inr ⟨rfl, fun q => c_10 q.1⟩ | exact Or.inr ⟨rfl, fun q => c_23 q.2.1⟩ | exact Or.inr ⟨rfl, fun q => c_36 q.2.2⟩, rfl⟩
  · refine lv_aload_n hx hb dX6_isLikePlan_13 rfl (lv_at hl 0 rfl) ?_
    refine pgQ 6 2 8 (by decide) rfl (by decide) rfl rfl C w hi6 (by decide +kernel) dX6_isLikePlan_14 (oM6 hM) (hS.2.1) ?_
    refine lv_iload_n hx hb dX6_isLikePlan_17 rfl (lv_at hl 1 rfl) ?_
    refine paI C w dX6_isLikePlan_18 (oM8 hM (by decide)) rfl (nM81 hM) (by omega) (by decide) rfl ?_
    refine lv_aload_n hx hb dX6_isLikePlan_19 rfl (lv_at hl 0 rfl) ?_
    refine pgI 6 6 (by decide) rfl (by decide) (Or.inl rfl) rfl C w hi6 (by decide +kernel) dX6_isLikePlan_20 (oM6 hM) rfl ?_
    refine lv_icmp_ne (tgt := 43) hx hb dX6_isLikePlan_23 (by decide) (fun c_23 => ?_) (fun c_23 => ?_)
    · refine lv_iconst (v := 0) hx hb dX6_isLikePlan_43 (by decide) ?_
      exact hret _ _ _ _ _ _ dX6_isLikePlan_44 w (by decide) ⟨by first | exact Or.inl ⟨rfl, c_10, c_23, c_36⟩ | exact Or.inr ⟨rfl, fun q => c_10 q.1⟩ | exact Or.inr ⟨rfl, fun q => c_23 q.2.1⟩ | exact Or.inr ⟨rfl, fun q => c_36 q.2.2⟩, rfl⟩
    · refine lv_aload_n hx hb dX6_isLikePlan_26 rfl (lv_at hl 0 rfl) ?_
      refine pgQ 6 3 8 (by decide) rfl (by decide) rfl rfl C w hi6 (by decide +kernel) dX6_isLikePlan_27 (oM6 hM) (hS.2.2.1) ?_
      refine lv_iload_n hx hb dX6_isLikePlan_30 rfl (lv_at hl 1 rfl) ?_
      refine paI C w dX6_isLikePlan_31 (oM8 hM (by decide)) rfl (nM82 hM) (by omega) (by decide) rfl ?_
      refine lv_aload_n hx hb dX6_isLikePlan_32 rfl (lv_at hl 0 rfl) ?_
      refine pgI 6 7 (by decide) rfl (by decide) (Or.inl rfl) rfl C w hi6 (by decide +kernel) dX6_isLikePlan_33 (oM6 hM) rfl ?_
      refine lv_icmp_ne (tgt := 43) hx hb dX6_isLikePlan_36 (by decide) (fun c_36 => ?_) (fun c_36 => ?_)
      · refine lv_iconst (v := 0) hx hb dX6_isLikePlan_43 (by decide) ?_
        exact hret _ _ _ _ _ _ dX6_isLikePlan_44 w (by decide) ⟨by first | exact Or.inl ⟨rfl, c_10, c_23, c_36⟩ | exact Or.inr ⟨rfl, fun q => c_10 q.1⟩ | exact Or.inr ⟨rfl, fun q => c_23 q.2.1⟩ | exact Or.inr ⟨rfl, fun q => c_36 q.2.2⟩, rfl⟩
      · refine lv_iconst (v := 1) hx hb dX6_isLikePlan_39 (by decide) ?_
        refine lv_goto (tgt := 44) hx hb dX6_isLikePlan_40 (by decide) ?_
        exact hret _ _ _ _ _ _ dX6_isLikePlan_44 w (by decide) ⟨by first | exact Or.inl ⟨rfl, c_10, c_23, c_36⟩ | exact Or.inr ⟨rfl, fun q => c_10 q.1⟩ | exact Or.inr ⟨rfl, fun q => c_23 q.2.1⟩ | exact Or.inr ⟨rfl, fun q => c_36 q.2.2⟩, rfl⟩

set_option maxHeartbeats 4000000 in
set_option maxRecDepth 100000 in
/-- lay -/
theorem c_X6_lay (l : Launch) (G : GT) (hM : okM G) (S : PS) (hS : lkM S) (n : Nat) (hn : sI S 6 0 0 = nI n) (hn60 : n ≤ 60) (a b z : Int32) : CtV l G yX6_lay wsX6_lay (rmK 0 0) [.ref (gA G 6 0), .int a, .int b, .int z] S (fun S2 => S2 = layM S n a b z) := by
  refine ofCtV (cc := cX6_lay) (nL := 5) RX6 (by decide +kernel) rfl rfl (Nat.le_of_ble_eq_true rfl) ?_
  intro p e s m args below meth c A Q ls C w hl hret
  have hx := C.1
  have hb := C.2.1
  have hown := C.2.2.2.1
  have hts := C.2.2.2.2.1
  have hi6 : ∀ w ∈ wsX60, w ∈ wsX6_lay := by decide +kernel
  refine lv_aload_n hx hb dX6_lay_0 rfl (lv_at hl 0 rfl) ?_
  refine pgQ 6 1 8 (by decide) rfl (by decide) rfl rfl C w hi6 (by decide +kernel) dX6_lay_1 (oM6 hM) (hS.1) ?_
  refine lv_aload_n hx hb dX6_lay_4 rfl (lv_at hl 0 rfl) ?_
  refine pgI 6 0 (by decide) rfl (by decide) (Or.inl rfl) rfl C w hi6 (by decide +kernel) dX6_lay_5 (oM6 hM) (v := nI n) hn ?_
  refine lv_iload_n hx hb dX6_lay_8 rfl (lv_at hl 1 rfl) ?_
  refine psI C w dX6_lay_9 (oM8 hM (by decide)) rfl (nM80 hM) (by omega) (by decide) (fun H locs w => ?_)
  refine lv_aload_n hx hb dX6_lay_10 rfl (lv_at hl 0 rfl) ?_
  refine pgQ 6 2 8 (by decide) rfl (by decide) rfl rfl C w hi6 (by decide +kernel) dX6_lay_11 (oM6 hM) (hS.2.1) ?_
  refine lv_aload_n hx hb dX6_lay_14 rfl (lv_at hl 0 rfl) ?_
  refine pgI 6 0 (by decide) rfl (by decide) (Or.inl rfl) rfl C w hi6 (by decide +kernel) dX6_lay_15 (oM6 hM) (v := nI n) (by rw [sI_uI, if_neg (by simp)]; exact hn) ?_
  refine lv_iload_n hx hb dX6_lay_18 rfl (lv_at hl 2 rfl) ?_
  refine psI C w dX6_lay_19 (oM8 hM (by decide)) rfl (nM81 hM) (by omega) (by decide) (fun H locs w => ?_)
  refine lv_aload_n hx hb dX6_lay_20 rfl (lv_at hl 0 rfl) ?_
  refine pgQ 6 3 8 (by decide) rfl (by decide) rfl rfl C w hi6 (by decide +kernel) dX6_lay_21 (oM6 hM) (hS.2.2.1) ?_
  refine lv_aload_n hx hb dX6_lay_24 rfl (lv_at hl 0 rfl) ?_
  refine pgI 6 0 (by decide) rfl (by decide) (Or.inl rfl) rfl C w hi6 (by decide +kernel) dX6_lay_25 (oM6 hM) (v := nI n) (by rw [sI_uI, if_neg (by simp), sI_uI, if_neg (by simp)]; exact hn) ?_
  refine lv_iload_n hx hb dX6_lay_28 rfl (lv_at hl 3 rfl) ?_
  refine psI C w dX6_lay_29 (oM8 hM (by decide)) rfl (nM82 hM) (by omega) (by decide) (fun H locs w => ?_)
  refine lv_iconst (v := 0) hx hb dX6_lay_30 (by decide) ?_
  refine lv_istore hx hb dX6_lay_31 hl (by decide) rfl (fun ls hl => ?_)
  have loop_33 : ∀ (n2 : Nat) (k : Nat) (H : Heap) (locs : List Loc) (ls : Array Slot), k + n2 = 12 → Wd G A s.heap (rko (lh S n a b z) 0 (12 * n) (fun _ => 0) (sJ S 9 0) k) H locs → lv_has ls 5 [(0, .ref (gA G 6 0)), (1, .int a), (2, .int b), (3, .int z), (4, .int (nI k))] → W p l e (rmK 0 0) s m args below meth c H locs 0 0 Q (F0 m 33 ls []) := by
    intro n2
    induction n2 with
    | zero =>
      intro k H locs ls hk w hl
      refine lv_iload hx hb dX6_lay_33 (lv_at hl 4 rfl) ?_
      refine lv_bipush (v := 12) hx hb dX6_lay_35 (by decide) ?_
      refine lv_icmp_ge (tgt := 62) hx hb dX6_lay_37 (by decide) (fun c_37 => ?_) (fun c_37 => absurd (nI_le (a := 12) (by omega) (by omega)) c_37)
      have e : k = 12 := by omega
      subst e
      exact hret _ _ _ _ _ dX6_lay_62 w rfl
    | succ n2 ih =>
      intro k H locs ls hk w hl
      refine lv_iload hx hb dX6_lay_33 (lv_at hl 4 rfl) ?_
      refine lv_bipush (v := 12) hx hb dX6_lay_35 (by decide) ?_
      refine lv_icmp_ge (tgt := 62) hx hb dX6_lay_37 (by decide) (fun c_37 => absurd c_37 (nI_ge (b := 12) (by omega) (by omega))) (fun c_37 => ?_)
      refine lv_aload_n hx hb dX6_lay_40 rfl (lv_at hl 0 rfl) ?_
      refine pgQ 6 4 9 (by decide) rfl (by decide) rfl rfl C w hi6 (by decide +kernel) dX6_lay_41 (oM6 hM) (hS.2.2.2.1) ?_
      refine lv_bipush (v := 12) hx hb dX6_lay_44 (by decide) ?_
      refine lv_aload_n hx hb dX6_lay_46 rfl (lv_at hl 0 rfl) ?_
      refine pgI 6 0 (by decide) rfl (by decide) (Or.inl rfl) rfl C w hi6 (by decide +kernel) dX6_lay_47 (oM6 hM) (v := nI n) (by rw [sI_rko, sI_lh_r (by simp)]; exact hn) ?_
      refine lv_imul hx hb dX6_lay_50 ?_
      refine lv_iload hx hb dX6_lay_51 (lv_at hl 4 rfl) ?_
      refine lv_iadd hx hb dX6_lay_53 ?_
      refine lv_lconst (v := 0) hx hb dX6_lay_54 (by decide) ?_
      refine psJ C w dX6_lay_55 (oM9 hM (by decide)) (n := 12 * n + k) (ix12 n k) (nM90 hM) (by omega) (by decide) (fun H locs w => ?_)
      refine lv_iinc (v := nI (k + 1)) hx hb dX6_lay_56 hl (k := 4) rfl (nI_1 k) (by decide) rfl (fun ls hl => ?_)
      refine lv_goto (tgt := 33) hx hb dX6_lay_59 (by decide) ?_
      rw [rko_s rfl] at w
      exact ih (k + 1) _ _ _ (by omega) w (lv_sub hl [1, 2, 3, 4, 0] rfl)
  exact loop_33 12 0 _ _ _ (by omega) (by rw [rko_0 (S := lh S n a b z) (o := sJ S 9 0) (fun _ => rfl)]; exact w) (lv_sub hl [1, 2, 3, 4, 0] rfl)

set_option maxHeartbeats 4000000 in
set_option maxRecDepth 100000 in
/-- keepScore -/
theorem c_X6_keepScore (l : Launch) (G : GT) (hM : okM G) (S : PS) (n : Nat) (hn : sI S 6 0 0 = nI n) (hn60 : n ≤ 60) : CtI l G yX6_keepScore wsX6_keepScore (rmK 0 0) [.ref (gA G 6 0)] S (fun v S2 => v = nI n ∧ S2 = uI S 6 0 0 (nI (n + 1))) := by
  refine ofCtI (cc := cX6_keepScore) (nL := 1) RX6 (by decide +kernel) rfl rfl (Nat.le_of_ble_eq_true rfl) ?_
  intro p e s m args below meth c A Q ls C w hl hret
  have hx := C.1
  have hb := C.2.1
  have hown := C.2.2.2.1
  have hts := C.2.2.2.2.1
  have hi6 : ∀ w ∈ wsX60, w ∈ wsX6_keepScore := by decide +kernel
  refine lv_aload_n hx hb dX6_keepScore_0 rfl (lv_at hl 0 rfl) ?_
  refine lv_dup hx hb dX6_keepScore_1 rfl ?_
  refine pgI 6 0 (by decide) rfl (by decide) (Or.inl rfl) rfl C w hi6 (by decide +kernel) dX6_keepScore_2 (oM6 hM) (v := nI n) hn ?_
  refine lv_iconst (v := 1) hx hb dX6_keepScore_5 (by decide) ?_
  refine lv_iadd hx hb dX6_keepScore_6 ?_
  refine ppI 6 0 (by decide) rfl (by decide) rfl rfl tyX6_ok nmX6 rfl (by decide +kernel) C w hi6 (by decide +kernel) dX6_keepScore_7 (oM6 hM) (fun H locs w => ?_)
  rw [nI_1] at w
  refine lv_aload_n hx hb dX6_keepScore_10 rfl (lv_at hl 0 rfl) ?_
  refine pgI 6 0 (by decide) rfl (by decide) (Or.inl rfl) rfl C w hi6 (by decide +kernel) dX6_keepScore_11 (oM6 hM) (v := nI (n + 1)) (by rw [sI_uI, if_pos ⟨rfl, rfl, rfl⟩]) ?_
  refine lv_iconst (v := 1) hx hb dX6_keepScore_14 (by decide) ?_
  refine lv_isub hx hb dX6_keepScore_15 ?_
  exact hret _ _ _ _ _ _ dX6_keepScore_16 w ⟨nI_pred n, rfl⟩

set_option maxHeartbeats 4000000 in
set_option maxRecDepth 100000 in
/-- zero -/
theorem c_X6_zero (l : Launch) (G : GT) (hM : okM G) (S : PS) : CtV l G yX6_zero wsX6_zero (rmK 0 0) [.ref (gA G 6 0)] S (fun S2 => S2 = wm S 0) := by
  refine ofCtV (cc := cX6_zero) (nL := 1) RX6 (by decide +kernel) rfl rfl (Nat.le_of_ble_eq_true rfl) ?_
  intro p e s m args below meth c A Q ls C w hl hret
  have hx := C.1
  have hb := C.2.1
  have hown := C.2.2.2.1
  have hts := C.2.2.2.2.1
  have hi6 : ∀ w ∈ wsX60, w ∈ wsX6_zero := by decide +kernel
  refine lv_aload_n hx hb dX6_zero_0 rfl (lv_at hl 0 rfl) ?_
  refine lv_lconst (v := 0) hx hb dX6_zero_1 (by decide) ?_
  refine ppJ 6 18 (by decide) rfl (by decide) rfl rfl tyX6_ok nmX6 rfl (by decide +kernel) C w hi6 (by decide +kernel) dX6_zero_2 (oM6 hM) (fun H locs w => ?_)
  refine lv_aload_n hx hb dX6_zero_5 rfl (lv_at hl 0 rfl) ?_
  refine lv_lconst (v := 0) hx hb dX6_zero_6 (by decide) ?_
  refine ppJ 6 19 (by decide) rfl (by decide) rfl rfl tyX6_ok nmX6 rfl (by decide +kernel) C w hi6 (by decide +kernel) dX6_zero_7 (oM6 hM) (fun H locs w => ?_)
  exact hret _ _ _ _ _ dX6_zero_10 w (by rw [wm, hiL_0, loL_0])

set_option maxHeartbeats 4000000 in
set_option maxRecDepth 100000 in
/-- add -/
theorem c_X6_add (l : Launch) (G : GT) (hM : okM G) (S : PS) (V : Int) (hH : sJ S 6 0 18 = hiL V) (hL : sJ S 6 0 19 = loL V) (v f : Int64) (hb2 : -9223372036854775808 ≤ V % 4294967296 + v.toInt % 4294967296 * f.toInt ∧ V % 4294967296 + v.toInt % 4294967296 * f.toInt < 9223372036854775808) (hf : -2147483648 ≤ f.toInt ∧ f.toInt ≤ 2147483648) : CtV l G yX6_add wsX6_add (rmK 0 0) [.ref (gA G 6 0), .long v, .long f] S (fun S2 => S2 = wm S (V + v.toInt * f.toInt)) := by
  refine ofCtV (cc := cX6_add) (nL := 5) RX6 (by decide +kernel) rfl rfl (Nat.le_of_ble_eq_true rfl) ?_
  intro p e s m args below meth c A Q ls C w hl hret
  have hx := C.1
  have hb := C.2.1
  have hown := C.2.2.2.1
  have hts := C.2.2.2.2.1
  have hi6 : ∀ w ∈ wsX60, w ∈ wsX6_add := by decide +kernel
  refine lv_aload_n hx hb dX6_add_0 rfl (lv_at hl 0 rfl) ?_
  refine lv_dup hx hb dX6_add_1 rfl ?_
  refine pgJ 6 18 (by decide) rfl (by decide) rfl rfl C w hi6 (by decide +kernel) dX6_add_2 (oM6 hM) (v := hiL V) hH ?_
  refine lv_lload_n hx hb dX6_add_5 rfl (lv_at hl 1 rfl) ?_
  refine lv_bipush (v := 32) hx hb dX6_add_6 (by decide) ?_
  refine lv_lshr hx hb dX6_add_8 rfl ?_
  refine lv_lload_n hx hb dX6_add_9 rfl (lv_at hl 2 rfl) ?_
  refine lv_lmul hx hb dX6_add_10 ?_
  refine lv_ladd hx hb dX6_add_11 ?_
  refine ppJ 6 18 (by decide) rfl (by decide) rfl rfl tyX6_ok nmX6 rfl (by decide +kernel) C w hi6 (by decide +kernel) dX6_add_12 (oM6 hM) (fun H locs w => ?_)
  refine lv_aload_n hx hb dX6_add_15 rfl (lv_at hl 0 rfl) ?_
  refine lv_dup hx hb dX6_add_16 rfl ?_
  refine pgJ 6 19 (by decide) rfl (by decide) rfl rfl C w hi6 (by decide +kernel) dX6_add_17 (oM6 hM) (v := loL V) (by rw [sJ_uJ, if_neg (by simp)]; exact hL) ?_
  refine lv_lload_n hx hb dX6_add_20 rfl (lv_at hl 1 rfl) ?_
  refine lv_ldc2 (v := (4294967295)) hx hb hown (hts (.constantLong RX6 85 (4294967295)) (by decide +kernel)) dX6_add_21 ?_
  refine lv_land hx hb dX6_add_24 ?_
  refine lv_lload_n hx hb dX6_add_25 rfl (lv_at hl 2 rfl) ?_
  refine lv_lmul hx hb dX6_add_26 ?_
  refine lv_ladd hx hb dX6_add_27 ?_
  refine ppJ 6 19 (by decide) rfl (by decide) rfl rfl tyX6_ok nmX6 rfl (by decide +kernel) C w hi6 (by decide +kernel) dX6_add_28 (oM6 hM) (fun H locs w => ?_)
  refine lv_aload_n hx hb dX6_add_31 rfl (lv_at hl 0 rfl) ?_
  refine lv_dup hx hb dX6_add_32 rfl ?_
  refine pgJ 6 18 (by decide) rfl (by decide) rfl rfl C w hi6 (by decide +kernel) dX6_add_33 (oM6 hM) (v := hiL V + (v >>> ((32 : Int32).toInt64 &&& 63)) * f) (by rw [sJ_uJ, if_neg (by simp), sJ_uJ, if_pos ⟨rfl, rfl, rfl⟩]) ?_
  refine lv_aload_n hx hb dX6_add_36 rfl (lv_at hl 0 rfl) ?_
  refine pgJ 6 19 (by decide) rfl (by decide) rfl rfl C w hi6 (by decide +kernel) dX6_add_37 (oM6 hM) (v := loL V + (v &&& 4294967295) * f) (by rw [sJ_uJ, if_pos ⟨rfl, rfl, rfl⟩]) ?_
  refine lv_bipush (v := 32) hx hb dX6_add_40 (by decide) ?_
  refine lv_lshr hx hb dX6_add_42 rfl ?_
  refine lv_ladd hx hb dX6_add_43 ?_
  refine ppJ 6 18 (by decide) rfl (by decide) rfl rfl tyX6_ok nmX6 rfl (by decide +kernel) C w hi6 (by decide +kernel) dX6_add_44 (oM6 hM) (fun H locs w => ?_)
  refine lv_aload_n hx hb dX6_add_47 rfl (lv_at hl 0 rfl) ?_
  refine lv_aload_n hx hb dX6_add_48 rfl (lv_at hl 0 rfl) ?_
  refine pgJ 6 19 (by decide) rfl (by decide) rfl rfl C w hi6 (by decide +kernel) dX6_add_49 (oM6 hM) (v := loL V + (v &&& 4294967295) * f) (by rw [sJ_uJ, if_neg (by simp), sJ_uJ, if_pos ⟨rfl, rfl, rfl⟩]) ?_
  refine lv_ldc2 (v := (4294967295)) hx hb hown (hts (.constantLong RX6 85 (4294967295)) (by decide +kernel)) dX6_add_52 ?_
  refine lv_land hx hb dX6_add_55 ?_
  refine ppJ 6 19 (by decide) rfl (by decide) rfl rfl tyX6_ok nmX6 rfl (by decide +kernel) C w hi6 (by decide +kernel) dX6_add_56 (oM6 hM) (fun H locs w => ?_)
  exact hret _ _ _ _ _ dX6_add_59 w (by rw [wm_4, aM_hi V v f hb2 hf, aM_lo V v f hb2]; rfl)

set_option maxHeartbeats 4000000 in
set_option maxRecDepth 100000 in
/-- fits -/
theorem c_X6_fits (l : Launch) (G : GT) (hM : okM G) (S : PS) (V : Int) (hH : sJ S 6 0 18 = hiL V) (hL : sJ S 6 0 19 = loL V) (h1 : -39614081257132168796771975168 ≤ V) (h2 : V < 39614081257132168796771975168) : CtI l G yX6_fits wsX6_fits (rmK 1 25) [.ref (gA G 6 0)] S (fun v S2 => ((v = 1 ∧ in64 V) ∨ (v = 0 ∧ ¬ in64 V)) ∧ S2 = S) := by
  refine ofCtZ (cc := cX6_fits) (nL := 1) RX6 (by decide +kernel) rfl rfl (Nat.le_of_ble_eq_true rfl) ?_
  intro p e s m args below meth c A Q ls C w hl hret
  have hx := C.1
  have hb := C.2.1
  have hown := C.2.2.2.1
  have hts := C.2.2.2.2.1
  have hi6 : ∀ w ∈ wsX60, w ∈ wsX6_fits := by decide +kernel
  refine lv_aload_n hx hb dX6_fits_0 rfl (lv_at hl 0 rfl) ?_
  refine pgJ 6 18 (by decide) rfl (by decide) rfl rfl C w hi6 (by decide +kernel) dX6_fits_1 (oM6 hM) (v := hiL V) hH ?_
  refine lv_ldc2 (v := (-2147483648)) hx hb hown (hts (.constantLong RX6 87 (-2147483648)) (by decide +kernel)) dX6_fits_4 ?_
  refine lv_ldc2 (v := (2147483647)) hx hb hown (hts (.constantLong RX6 89 (2147483647)) (by decide +kernel)) dX6_fits_7 ?_
  refine csI (n := 3) C w hl dX6_fits_10 (c_X6_in l G S _ _ _) gX6_fits_X6_in rfl (by decide +kernel) rfl rfl (Nat.le_of_ble_eq_true rfl) ⟨by decide, by decide⟩ (fun v7 S7 H locs hp w => ?_)
  obtain ⟨q7, e0⟩ := hp
  rw [e0] at w
  exact hret _ _ _ _ _ _ dX6_fits_13 w (b_of q7) ⟨imp_of ⟨fun q => (fit_iff h1 h2).mp ⟨Int64.not_lt.mpr q.1, Int64.not_lt.mpr q.2⟩, fun q => ⟨Int64.not_lt.mp ((fit_iff h1 h2).mpr q).1, Int64.not_lt.mp ((fit_iff h1 h2).mpr q).2⟩⟩ q7, rfl⟩

set_option maxHeartbeats 4000000 in
set_option maxRecDepth 100000 in
/-- number -/
theorem c_X6_number (l : Launch) (G : GT) (hM : okM G) (S : PS) (V : Int) (hH : sJ S 6 0 18 = hiL V) (hL : sJ S 6 0 19 = loL V) : CtL l G yX6_number wsX6_number (rmK 0 0) [.ref (gA G 6 0)] S (fun v S2 => v = Int64.ofInt V ∧ S2 = S) := by
  refine ofCtL (cc := cX6_number) (nL := 1) RX6 (by decide +kernel) rfl rfl (Nat.le_of_ble_eq_true rfl) ?_
  intro p e s m args below meth c A Q ls C w hl hret
  have hx := C.1
  have hb := C.2.1
  have hown := C.2.2.2.1
  have hts := C.2.2.2.2.1
  have hi6 : ∀ w ∈ wsX60, w ∈ wsX6_number := by decide +kernel
  refine lv_aload_n hx hb dX6_number_0 rfl (lv_at hl 0 rfl) ?_
  refine pgJ 6 18 (by decide) rfl (by decide) rfl rfl C w hi6 (by decide +kernel) dX6_number_1 (oM6 hM) hH ?_
  refine lv_bipush (v := 32) hx hb dX6_number_4 (by decide) ?_
  refine lv_lshl hx hb dX6_number_6 rfl ?_
  refine lv_aload_n hx hb dX6_number_7 rfl (lv_at hl 0 rfl) ?_
  refine pgJ 6 19 (by decide) rfl (by decide) rfl rfl C w hi6 (by decide +kernel) dX6_number_8 (oM6 hM) hL ?_
  refine lv_ladd hx hb dX6_number_11 ?_
  exact hret _ _ _ _ _ _ dX6_number_12 w ⟨shladd V, rfl⟩

set_option maxHeartbeats 4000000 in
set_option maxRecDepth 100000 in
/-- compare -/
theorem c_X6_compare (l : Launch) (G : GT) (hM : okM G) (S : PS) (rx ry fx fy z lx ly : Nat) (hrx : rx < 4) (hry : ry < 4) (hlx : gN G 9 rx = lx) (hly : gN G 9 ry = ly) (hfx : fx + z ≤ lx) (hfy : fy + z ≤ ly) (hx3 : lx < 2147483648) (hy3 : ly < 2147483648) : CtI l G yX6_compare wsX6_compare (rmK 0 0) [.ref (gA G 6 0), .ref (gA G 9 rx), .int (nI fx), .ref (gA G 9 ry), .int (nI fy), .int (nI z)] S (fun v S2 => v = cmpG (fun k => sJ S 9 rx (fx + k)) (fun k => sJ S 9 ry (fy + k)) z 0 ∧ S2 = S) := by
  refine ofCtI (cc := cX6_compare) (nL := 7) RX6 (by decide +kernel) rfl rfl (Nat.le_of_ble_eq_true rfl) ?_
  intro p e s m args below meth c A Q ls C w hl hret
  have hx := C.1
  have hb := C.2.1
  have hown := C.2.2.2.1
  have hts := C.2.2.2.2.1
  refine lv_iconst (v := 0) hx hb dX6_compare_0 (by decide) ?_
  refine lv_istore hx hb dX6_compare_1 hl (by decide) rfl (fun ls hl => ?_)
  have loop_3 : ∀ (n : Nat) (k : Nat) (H : Heap) (locs : List Loc) (ls : Array Slot), k + n = z → cmpG (fun k => sJ S 9 rx (fx + k)) (fun k => sJ S 9 ry (fy + k)) z 0 = cmpG (fun k => sJ S 9 rx (fx + k)) (fun k => sJ S 9 ry (fy + k)) n k → Wd G A s.heap S H locs → lv_has ls 7 [(0, .ref (gA G 6 0)), (1, .ref (gA G 9 rx)), (2, .int (nI fx)), (3, .ref (gA G 9 ry)), (4, .int (nI fy)), (5, .int (nI z)), (6, .int (nI k))] → W p l e (rmK 0 0) s m args below meth c H locs 0 0 Q (F0 m 3 ls []) := by
    intro n
    induction n with
    | zero =>
      intro k H locs ls hk hI w hl
      refine lv_iload hx hb dX6_compare_3 (lv_at hl 6 rfl) ?_
      refine lv_iload hx hb dX6_compare_5 (lv_at hl 5 rfl) ?_
      refine lv_icmp_ge (tgt := 56) hx hb dX6_compare_7 (by decide) (fun c_7 => ?_) (fun c_7 => absurd (nI_le (by omega) (by omega)) c_7)
      refine lv_iconst (v := 0) hx hb dX6_compare_56 (by decide) ?_
      exact hret _ _ _ _ _ _ dX6_compare_57 w ⟨hI.symm, rfl⟩
    | succ n ih =>
      intro k H locs ls hk hI w hl
      refine lv_iload hx hb dX6_compare_3 (lv_at hl 6 rfl) ?_
      refine lv_iload hx hb dX6_compare_5 (lv_at hl 5 rfl) ?_
      refine lv_icmp_ge (tgt := 56) hx hb dX6_compare_7 (by decide) (fun c_7 => absurd c_7 (nI_ge (by omega) (by omega))) (fun c_7 => ?_)
      refine lv_aload_n hx hb dX6_compare_10 rfl (lv_at hl 1 rfl) ?_
      refine lv_iload_n hx hb dX6_compare_11 rfl (lv_at hl 2 rfl) ?_
      refine lv_iload hx hb dX6_compare_12 (lv_at hl 6 rfl) ?_
      refine lv_iadd hx hb dX6_compare_14 ?_
      refine paJ C w dX6_compare_15 (oM9 hM hrx) (n := fx + k) (nI_add fx k) hlx (by omega) (by omega) rfl ?_
      refine lv_aload_n hx hb dX6_compare_16 rfl (lv_at hl 3 rfl) ?_
      refine lv_iload hx hb dX6_compare_17 (lv_at hl 4 rfl) ?_
      refine lv_iload hx hb dX6_compare_19 (lv_at hl 6 rfl) ?_
      refine lv_iadd hx hb dX6_compare_21 ?_
      refine paJ C w dX6_compare_22 (oM9 hM hry) (n := fy + k) (nI_add fy k) hly (by omega) (by omega) rfl ?_
      refine W.lcmp hx hb dX6_compare_23 ?_
      refine lv_if_eq (tgt := 50) hx hb dX6_compare_24 (by decide) (fun c_24 => ?_) (fun c_24 => ?_)
      · rw [lg_cmp_eq] at c_24
        refine lv_iinc (v := nI (k + 1)) hx hb dX6_compare_50 hl (k := 6) rfl (nI_1 k) (by decide) rfl (fun ls hl => ?_)
        refine lv_goto (tgt := 3) hx hb dX6_compare_53 (by decide) ?_
        exact ih (k + 1) _ _ _ (by omega) (by rw [hI, cmpG, if_pos c_24]) w (lv_sub hl [1, 2, 3, 4, 5, 6, 0] rfl)
      · rw [lg_cmp_eq] at c_24
        refine lv_aload_n hx hb dX6_compare_27 rfl (lv_at hl 1 rfl) ?_
        refine lv_iload_n hx hb dX6_compare_28 rfl (lv_at hl 2 rfl) ?_
        refine lv_iload hx hb dX6_compare_29 (lv_at hl 6 rfl) ?_
        refine lv_iadd hx hb dX6_compare_31 ?_
        refine paJ C w dX6_compare_32 (oM9 hM hrx) (n := fx + k) (nI_add fx k) hlx (by omega) (by omega) rfl ?_
        refine lv_aload_n hx hb dX6_compare_33 rfl (lv_at hl 3 rfl) ?_
        refine lv_iload hx hb dX6_compare_34 (lv_at hl 4 rfl) ?_
        refine lv_iload hx hb dX6_compare_36 (lv_at hl 6 rfl) ?_
        refine lv_iadd hx hb dX6_compare_38 ?_
        refine paJ C w dX6_compare_39 (oM9 hM hry) (n := fy + k) (nI_add fy k) hly (by omega) (by omega) rfl ?_
        refine W.lcmp hx hb dX6_compare_40 ?_
        refine lv_if_ge (tgt := 48) hx hb dX6_compare_41 (by decide) (fun c_41 => ?_) (fun c_41 => ?_)
        · rw [lg_cmp_ge] at c_41
          refine lv_iconst (v := 1) hx hb dX6_compare_48 (by decide) ?_
          exact hret _ _ _ _ _ _ dX6_compare_49 w ⟨by rw [hI, cmpG, if_neg c_24]; first | rw [if_pos (Int64.not_le.mp c_41)] | rw [if_neg (Int64.not_lt.mpr c_41)], rfl⟩
        · rw [lg_cmp_ge] at c_41
          refine lv_iconst (v := (-1)) hx hb dX6_compare_44 (by decide) ?_
          refine lv_goto (tgt := 49) hx hb dX6_compare_45 (by decide) ?_
          exact hret _ _ _ _ _ _ dX6_compare_49 w ⟨by rw [hI, cmpG, if_neg c_24]; first | rw [if_pos (Int64.not_le.mp c_41)] | rw [if_neg (Int64.not_lt.mpr c_41)], rfl⟩
  exact loop_3 z 0 _ _ _ (by omega) rfl w (lv_sub hl [1, 2, 3, 4, 5, 6, 0] rfl)

set_option maxHeartbeats 4000000 in
set_option maxRecDepth 100000 in
/-- refusal -/
theorem c_X6_refusal (l : Launch) (G : GT) (hM : okM G) (S : PS) (hS : lkM S) (a b : Nat) (ha : a < 61) (hb2 : b < 61) : CtI l G yX6_refusal wsX6_refusal (rmK 1 22) [.ref (gA G 6 0), .int (nI a), .int (nI b)] S (fun v S2 => v = pairF (sI S 8 0 a) (sI S 8 1 a) (sI S 8 2 a) (sI S 8 0 b) (sI S 8 1 b) (sI S 8 2 b) ∧ S2 = S) := by
  refine ofCtI (cc := cX6_refusal) (nL := 3) RX6 (by decide +kernel) rfl rfl (Nat.le_of_ble_eq_true rfl) ?_
  intro p e s m args below meth c A Q ls C w hl hret
  have hx := C.1
  have hb := C.2.1
  have hown := C.2.2.2.1
  have hts := C.2.2.2.2.1
  refine lv_aload_n hx hb dX6_refusal_0 rfl (lv_at hl 0 rfl) ?_
  refine lv_iload_n hx hb dX6_refusal_1 rfl (lv_at hl 1 rfl) ?_
  refine cvI (n := 1) C w hl dX6_refusal_2 (c_X6_isNothing l G hM S hS a ha) gX6_refusal_X6_isNothing rfl (by decide +kernel) rfl rfl (Nat.le_of_ble_eq_true rfl) ⟨by decide, by decide⟩ (by decide) rfl (oM6 hM) (fun v1 S1 H locs hp w => ?_)
  obtain ⟨q1, e0⟩ := hp
  rw [e0] at w
  refine lv_if_ne (tgt := 16) hx hb dX6_refusal_5 (by decide) (fun c_5 => ?_) (fun c_5 => ?_)
  · refine lv_bipush (v := (-11)) hx hb dX6_refusal_16 (by decide) ?_
    refine lv_goto (tgt := 36) hx hb dX6_refusal_18 (by decide) ?_
    exact hret _ _ _ _ _ _ dX6_refusal_36 w ⟨by unfold pairF; first | rw [if_pos (Or.inl (yes_of q1 c_5))] | rw [if_pos (Or.inr (yes_of q2 c_13))] | rw [if_neg (fun h => h.elim (no_of q1 c_5) (no_of q2 c_13)), if_pos (yes_of q3 c_27)] | rw [if_neg (fun h => h.elim (no_of q1 c_5) (no_of q2 c_13)), if_neg (no_of q3 c_27)], rfl⟩
  · refine lv_aload_n hx hb dX6_refusal_8 rfl (lv_at hl 0 rfl) ?_
    refine lv_iload_n hx hb dX6_refusal_9 rfl (lv_at hl 2 rfl) ?_
    refine cvI (n := 1) C w hl dX6_refusal_10 (c_X6_isNothing l G hM S hS b hb2) gX6_refusal_X6_isNothing rfl (by decide +kernel) rfl rfl (Nat.le_of_ble_eq_true rfl) ⟨by decide, by decide⟩ (by decide) rfl (oM6 hM) (fun v2 S2 H locs hp w => ?_)
    obtain ⟨q2, e0⟩ := hp
    rw [e0] at w
    refine lv_if_eq (tgt := 21) hx hb dX6_refusal_13 (by decide) (fun c_13 => ?_) (fun c_13 => ?_)
    · refine lv_aload_n hx hb dX6_refusal_21 rfl (lv_at hl 0 rfl) ?_
      refine lv_iload_n hx hb dX6_refusal_22 rfl (lv_at hl 1 rfl) ?_
      refine lv_iload_n hx hb dX6_refusal_23 rfl (lv_at hl 2 rfl) ?_
      refine cvI (n := 2) C w hl dX6_refusal_24 (c_X6_areLike l G hM S hS a b ha hb2) gX6_refusal_X6_areLike rfl (by decide +kernel) rfl rfl (Nat.le_of_ble_eq_true rfl) ⟨by decide, by decide⟩ (by decide) rfl (oM6 hM) (fun v3 S3 H locs hp w => ?_)
      obtain ⟨q3, e0⟩ := hp
      rw [e0] at w
      refine lv_if_eq (tgt := 34) hx hb dX6_refusal_27 (by decide) (fun c_27 => ?_) (fun c_27 => ?_)
      · refine lv_bipush (v := (-12)) hx hb dX6_refusal_34 (by decide) ?_
        exact hret _ _ _ _ _ _ dX6_refusal_36 w ⟨by unfold pairF; first | rw [if_pos (Or.inl (yes_of q1 c_5))] | rw [if_pos (Or.inr (yes_of q2 c_13))] | rw [if_neg (fun h => h.elim (no_of q1 c_5) (no_of q2 c_13)), if_pos (yes_of q3 c_27)] | rw [if_neg (fun h => h.elim (no_of q1 c_5) (no_of q2 c_13)), if_neg (no_of q3 c_27)], rfl⟩
      · refine lv_iconst (v := 0) hx hb dX6_refusal_30 (by decide) ?_
        refine lv_goto (tgt := 36) hx hb dX6_refusal_31 (by decide) ?_
        exact hret _ _ _ _ _ _ dX6_refusal_36 w ⟨by unfold pairF; first | rw [if_pos (Or.inl (yes_of q1 c_5))] | rw [if_pos (Or.inr (yes_of q2 c_13))] | rw [if_neg (fun h => h.elim (no_of q1 c_5) (no_of q2 c_13)), if_pos (yes_of q3 c_27)] | rw [if_neg (fun h => h.elim (no_of q1 c_5) (no_of q2 c_13)), if_neg (no_of q3 c_27)], rfl⟩
    · refine lv_bipush (v := (-11)) hx hb dX6_refusal_16 (by decide) ?_
      refine lv_goto (tgt := 36) hx hb dX6_refusal_18 (by decide) ?_
      exact hret _ _ _ _ _ _ dX6_refusal_36 w ⟨by unfold pairF; first | rw [if_pos (Or.inl (yes_of q1 c_5))] | rw [if_pos (Or.inr (yes_of q2 c_13))] | rw [if_neg (fun h => h.elim (no_of q1 c_5) (no_of q2 c_13)), if_pos (yes_of q3 c_27)] | rw [if_neg (fun h => h.elim (no_of q1 c_5) (no_of q2 c_13)), if_neg (no_of q3 c_27)], rfl⟩
