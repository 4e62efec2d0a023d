set_option maxHeartbeats 4000000 in
set_option maxRecDepth 100000 in
/-- isNumber -/
theorem c_X5_isNumber (l : Launch) (G : GT) (hX : okX G) (S : PS) (n : Nat) (hn : sI S 5 0 1 = nI n) (hn60 : n ≤ 60) (k : Int32) : CtI l G yX5_isNumber wsX5_isNumber (rmK 0 0) [.ref (gA G 5 0), .int k] S (fun v S2 => ((v = 1 ∧ inN k n) ∨ (v = 0 ∧ ¬ inN k n)) ∧ S2 = S) := by
  refine ofCtZ (cc := cX5_isNumber) (nL := 2) RX5 (by decide +kernel) rfl rfl (Nat.le_of_ble_eq_true rfl) ?_
  intro p e s m args below meth c A Q ls C w hl hret
  have hx := C.1
  have hb := C.2.1
  have hown := C.2.2.2.1
  have hts := C.2.2.2.2.1
  have hi5 : ∀ w ∈ wsX50, w ∈ wsX5_isNumber := by decide +kernel
  refine lv_iload_n hx hb dX5_isNumber_0 rfl (lv_at hl 1 rfl) ?_
  refine lv_if_lt (tgt := 16) hx hb dX5_isNumber_1 (by decide) (fun c_1 => ?_) (fun c_1 => ?_)
  · have hq : ¬ inN k n := inN_n1 c_1
    refine lv_iconst (v := 0) hx hb dX5_isNumber_16 (by decide) ?_
    exact hret _ _ _ _ _ _ dX5_isNumber_17 w (by decide) ⟨by first | exact Or.inl ⟨rfl, hq⟩ | exact Or.inr ⟨rfl, hq⟩, rfl⟩
  · refine lv_iload_n hx hb dX5_isNumber_4 rfl (lv_at hl 1 rfl) ?_
    refine lv_aload_n hx hb dX5_isNumber_5 rfl (lv_at hl 0 rfl) ?_
    refine pgI 5 1 (by decide) rfl (by decide) (Or.inl rfl) rfl C w hi5 (by decide +kernel) dX5_isNumber_6 (oP5 hX) (v := nI n) hn ?_
    refine lv_icmp_ge (tgt := 16) hx hb dX5_isNumber_9 (by decide) (fun c_9 => ?_) (fun c_9 => ?_)
    · have hq : ¬ inN k n := by have := inN_n2 c_9; rwa [nI_toInt (by omega)] at this
      refine lv_iconst (v := 0) hx hb dX5_isNumber_16 (by decide) ?_
      exact hret _ _ _ _ _ _ dX5_isNumber_17 w (by decide) ⟨by first | exact Or.inl ⟨rfl, hq⟩ | exact Or.inr ⟨rfl, hq⟩, rfl⟩
    · have hq : inN k n := by have := inN_of c_1 c_9; rwa [nI_toInt (by omega)] at this
      refine lv_iconst (v := 1) hx hb dX5_isNumber_12 (by decide) ?_
      refine lv_goto (tgt := 17) hx hb dX5_isNumber_13 (by decide) ?_
      exact hret _ _ _ _ _ _ dX5_isNumber_17 w (by decide) ⟨by first | exact Or.inl ⟨rfl, hq⟩ | exact Or.inr ⟨rfl, hq⟩, rfl⟩

set_option maxHeartbeats 4000000 in
set_option maxRecDepth 100000 in
/-- isFull -/
theorem c_X5_isFull (l : Launch) (G : GT) (hX : okX G) (S : PS) (n : Nat) (hn : sI S 5 0 1 = nI n) (hn60 : n ≤ 60) : CtI l G yX5_isFull wsX5_isFull (rmK 0 0) [.ref (gA G 5 0)] S (fun v S2 => ((v = 1 ∧ n = 60) ∨ (v = 0 ∧ ¬ n = 60)) ∧ S2 = S) := by
  refine ofCtZ (cc := cX5_isFull) (nL := 1) RX5 (by decide +kernel) rfl rfl (Nat.le_of_ble_eq_true rfl) ?_
  intro p e s m args below meth c A Q ls C w hl hret
  have hx := C.1
  have hb := C.2.1
  have hown := C.2.2.2.1
  have hts := C.2.2.2.2.1
  have hi5 : ∀ w ∈ wsX50, w ∈ wsX5_isFull := by decide +kernel
  refine lv_aload_n hx hb dX5_isFull_0 rfl (lv_at hl 0 rfl) ?_
  refine pgI 5 1 (by decide) rfl (by decide) (Or.inl rfl) rfl C w hi5 (by decide +kernel) dX5_isFull_1 (oP5 hX) (v := nI n) hn ?_
  refine lv_bipush (v := 60) hx hb dX5_isFull_4 (by decide) ?_
  refine lv_icmp_lt (tgt := 13) hx hb dX5_isFull_6 (by decide) (fun c_6 => ?_) (fun c_6 => ?_)
  · have hq : ¬ n = 60 := by have := (nI_ltI (a := n) (b := 60) (by omega) (by decide)).mp c_6; omega
    refine lv_iconst (v := 0) hx hb dX5_isFull_13 (by decide) ?_
    exact hret _ _ _ _ _ _ dX5_isFull_14 w (by decide) ⟨by first | exact Or.inl ⟨rfl, hq⟩ | exact Or.inr ⟨rfl, hq⟩, rfl⟩
  · have hq : n = 60 := by have := mt (nI_ltI (a := n) (b := 60) (by omega) (by decide)).mpr c_6; omega
    refine lv_iconst (v := 1) hx hb dX5_isFull_9 (by decide) ?_
    refine lv_goto (tgt := 14) hx hb dX5_isFull_10 (by decide) ?_
    exact hret _ _ _ _ _ _ dX5_isFull_14 w (by decide) ⟨by first | exact Or.inl ⟨rfl, hq⟩ | exact Or.inr ⟨rfl, hq⟩, rfl⟩

set_option maxHeartbeats 4000000 in
set_option maxRecDepth 100000 in
/-- isCount -/
theorem c_X5_isCount (l : Launch) (G : GT) (S : PS) (k : Int32) : CtI l G yX5_isCount wsX5_isCount (rmK 0 0) [.int k] S (fun v S2 => ((v = 1 ∧ inN k 1000001) ∨ (v = 0 ∧ ¬ inN k 1000001)) ∧ S2 = S) := by
  refine ofCtZ (cc := cX5_isCount) (nL := 1) RX5 (by decide +kernel) rfl rfl (Nat.le_of_ble_eq_true rfl) ?_
  intro p e s m args below meth c A Q ls C w hl hret
  have hx := C.1
  have hb := C.2.1
  have hown := C.2.2.2.1
  have hts := C.2.2.2.2.1
  refine lv_iload_n hx hb dX5_isCount_0 rfl (lv_at hl 0 rfl) ?_
  refine lv_if_lt (tgt := 14) hx hb dX5_isCount_1 (by decide) (fun c_1 => ?_) (fun c_1 => ?_)
  · have hq : ¬ inN k 1000001 := inN_n1 c_1
    refine lv_iconst (v := 0) hx hb dX5_isCount_14 (by decide) ?_
    exact hret _ _ _ _ _ _ dX5_isCount_15 w (by decide) ⟨by first | exact Or.inl ⟨rfl, hq⟩ | exact Or.inr ⟨rfl, hq⟩, rfl⟩
  · refine lv_iload_n hx hb dX5_isCount_4 rfl (lv_at hl 0 rfl) ?_
    refine lv_ldc (v := (1000000)) hx hb hown (hts (.constant RX5 195 (1000000)) (by decide +kernel)) dX5_isCount_5 ?_
    refine lv_icmp_gt (tgt := 14) hx hb dX5_isCount_7 (by decide) (fun c_7 => ?_) (fun c_7 => ?_)
    · have hq : ¬ inN k 1000001 := fun h => by have h2 := Int32.lt_iff_toInt_lt.mp c_7; have e : (1000000 : Int32).toInt = 1000000 := rfl; have := h.2; omega
      refine lv_iconst (v := 0) hx hb dX5_isCount_14 (by decide) ?_
      exact hret _ _ _ _ _ _ dX5_isCount_15 w (by decide) ⟨by first | exact Or.inl ⟨rfl, hq⟩ | exact Or.inr ⟨rfl, hq⟩, rfl⟩
    · have hq : inN k 1000001 := by have h2 := mt Int32.lt_iff_toInt_lt.mpr c_7; have e : (1000000 : Int32).toInt = 1000000 := rfl; have h1 := mt Int32.lt_iff_toInt_lt.mpr c_1; have e0 : (0 : Int32).toInt = 0 := rfl; exact ⟨by omega, by omega⟩
      refine lv_iconst (v := 1) hx hb dX5_isCount_10 (by decide) ?_
      refine lv_goto (tgt := 15) hx hb dX5_isCount_11 (by decide) ?_
      exact hret _ _ _ _ _ _ dX5_isCount_15 w (by decide) ⟨by first | exact Or.inl ⟨rfl, hq⟩ | exact Or.inr ⟨rfl, hq⟩, rfl⟩

set_option maxHeartbeats 4000000 in
set_option maxRecDepth 100000 in
/-- takeNumber -/
theorem c_X5_takeNumber (l : Launch) (G : GT) (hX : okX G) (S : PS) (n : Nat) (hn : sI S 5 0 1 = nI n) (hn60 : n ≤ 60) : CtI l G yX5_takeNumber wsX5_takeNumber (rmK 0 0) [.ref (gA G 5 0)] S (fun v S2 => v = nI n ∧ S2 = uI S 5 0 1 (nI (n + 1))) := by
  refine ofCtI (cc := cX5_takeNumber) (nL := 1) RX5 (by decide +kernel) rfl rfl (Nat.le_of_ble_eq_true rfl) ?_
  intro p e s m args below meth c A Q ls C w hl hret
  have hx := C.1
  have hb := C.2.1
  have hown := C.2.2.2.1
  have hts := C.2.2.2.2.1
  have hi5 : ∀ w ∈ wsX50, w ∈ wsX5_takeNumber := by decide +kernel
  refine lv_aload_n hx hb dX5_takeNumber_0 rfl (lv_at hl 0 rfl) ?_
  refine lv_dup hx hb dX5_takeNumber_1 rfl ?_
  refine pgI 5 1 (by decide) rfl (by decide) (Or.inl rfl) rfl C w hi5 (by decide +kernel) dX5_takeNumber_2 (oP5 hX) (v := nI n) hn ?_
  refine lv_iconst (v := 1) hx hb dX5_takeNumber_5 (by decide) ?_
  refine lv_iadd hx hb dX5_takeNumber_6 ?_
  refine ppI 5 1 (by decide) rfl (by decide) rfl rfl tyX5_ok nmX5 rfl (by decide +kernel) C w hi5 (by decide +kernel) dX5_takeNumber_7 (oP5 hX) (fun H locs w => ?_)
  rw [nI_1] at w
  refine lv_aload_n hx hb dX5_takeNumber_10 rfl (lv_at hl 0 rfl) ?_
  refine pgI 5 1 (by decide) rfl (by decide) (Or.inl rfl) rfl C w hi5 (by decide +kernel) dX5_takeNumber_11 (oP5 hX) (v := nI (n + 1)) (by rw [sI_uI, if_pos ⟨rfl, rfl, rfl⟩]) ?_
  refine lv_iconst (v := 1) hx hb dX5_takeNumber_14 (by decide) ?_
  refine lv_isub hx hb dX5_takeNumber_15 ?_
  exact hret _ _ _ _ _ _ dX5_takeNumber_16 w ⟨nI_pred n, rfl⟩

set_option maxHeartbeats 4000000 in
set_option maxRecDepth 100000 in
/-- failureOfPair -/
theorem c_X5_failureOfPair (l : Launch) (G : GT) (hX : okX G) (S : PS) (a b : Nat) (ha : a < 79) (hb2 : b < 79) : CtI l G yX5_failureOfPair wsX5_failureOfPair (rmK 1 21) [.ref (gA G 2 a), .ref (gA G 2 b)] S (fun v S2 => v = pairF (sI S 2 a 0) (sI S 2 a 1) (sI S 2 a 2) (sI S 2 b 0) (sI S 2 b 1) (sI S 2 b 2) ∧ S2 = S) := by
  refine ofCtI (cc := cX5_failureOfPair) (nL := 2) RX5 (by decide +kernel) rfl rfl (Nat.le_of_ble_eq_true rfl) ?_
  intro p e s m args below meth c A Q ls C w hl hret
  have hx := C.1
  have hb := C.2.1
  have hown := C.2.2.2.1
  have hts := C.2.2.2.2.1
  refine lv_aload_n hx hb dX5_failureOfPair_0 rfl (lv_at hl 0 rfl) ?_
  refine cvI (n := 0) C w hl dX5_failureOfPair_1 (c_X2_isNothing l G hX S a ha) gX5_failureOfPair_X2_isNothing rfl (by decide +kernel) rfl rfl (Nat.le_of_ble_eq_true rfl) ⟨by decide, by decide⟩ (by decide) rfl (oP2 hX (by omega)) (fun v1 S1 H locs hp w => ?_)
  obtain ⟨q1, e0⟩ := hp
  rw [e0] at w
  replace q1 := of_if q1
  refine lv_if_ne (tgt := 14) hx hb dX5_failureOfPair_4 (by decide) (fun c_4 => ?_) (fun c_4 => ?_)
  · refine lv_bipush (v := (-11)) hx hb dX5_failureOfPair_14 (by decide) ?_
    exact hret _ _ _ _ _ _ dX5_failureOfPair_16 w ⟨by unfold pairF; first | rw [if_pos (Or.inl (yes_of q1 c_4))] | rw [if_pos (Or.inr (yes_of q2 c_11))], rfl⟩
  · refine lv_aload_n hx hb dX5_failureOfPair_7 rfl (lv_at hl 1 rfl) ?_
    refine cvI (n := 0) C w hl dX5_failureOfPair_8 (c_X2_isNothing l G hX S b hb2) gX5_failureOfPair_X2_isNothing rfl (by decide +kernel) rfl rfl (Nat.le_of_ble_eq_true rfl) ⟨by decide, by decide⟩ (by decide) rfl (oP2 hX (by omega)) (fun v2 S2 H locs hp w => ?_)
    obtain ⟨q2, e0⟩ := hp
    rw [e0] at w
    replace q2 := of_if q2
    refine lv_if_eq (tgt := 17) hx hb dX5_failureOfPair_11 (by decide) (fun c_11 => ?_) (fun c_11 => ?_)
    · refine lv_aload_n hx hb dX5_failureOfPair_17 rfl (lv_at hl 0 rfl) ?_
      refine lv_aload_n hx hb dX5_failureOfPair_18 rfl (lv_at hl 1 rfl) ?_
      refine cvI (n := 1) C w hl dX5_failureOfPair_19 (c_X2_isLike l G hX S a b ha hb2) gX5_failureOfPair_X2_isLike rfl (by decide +kernel) rfl rfl (Nat.le_of_ble_eq_true rfl) ⟨by decide, by decide⟩ (by decide) rfl (oP2 hX (by omega)) (fun v3 S3 H locs hp w => ?_)
      obtain ⟨q3, e0⟩ := hp
      rw [e0] at w
      replace q3 := of_if q3
      refine lv_if_eq (tgt := 29) hx hb dX5_failureOfPair_22 (by decide) (fun c_22 => ?_) (fun c_22 => ?_)
      · have hq := no_of q3 c_22
        refine lv_bipush (v := (-12)) hx hb dX5_failureOfPair_29 (by decide) ?_
        exact hret _ _ _ _ _ _ dX5_failureOfPair_31 w ⟨by unfold pairF; rw [if_neg (fun h => h.elim (no_of q1 c_4) (no_of q2 c_11))]; first | rw [if_pos hq] | rw [if_neg hq], rfl⟩
      · have hq := yes_of q3 c_22
        refine lv_iconst (v := 0) hx hb dX5_failureOfPair_25 (by decide) ?_
        refine lv_goto (tgt := 31) hx hb dX5_failureOfPair_26 (by decide) ?_
        exact hret _ _ _ _ _ _ dX5_failureOfPair_31 w ⟨by unfold pairF; rw [if_neg (fun h => h.elim (no_of q1 c_4) (no_of q2 c_11))]; first | rw [if_pos hq] | rw [if_neg hq], rfl⟩
    · refine lv_bipush (v := (-11)) hx hb dX5_failureOfPair_14 (by decide) ?_
      exact hret _ _ _ _ _ _ dX5_failureOfPair_16 w ⟨by unfold pairF; first | rw [if_pos (Or.inl (yes_of q1 c_4))] | rw [if_pos (Or.inr (yes_of q2 c_11))], rfl⟩
