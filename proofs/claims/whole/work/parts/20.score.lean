set_option maxHeartbeats 4000000 in
set_option maxRecDepth 100000 in
/-- Score.form -/
theorem c_X2_form (l : Launch) (G : GT) (hX : okX G) (S : PS) (r : Nat) (a b z : Int32) (hr : r < 79) : CtV l G yX2_form wsX2_form (rmK 0 0) [.ref (gA G 2 r), .int a, .int b, .int z] S (fun S2 => S2 = fm S r a b z) := by
  refine ofCtV (cc := cX2_form) (nL := 4) RX2 (by decide +kernel) rfl rfl (Nat.le_of_ble_eq_true rfl) ?_
  intro p e s m args below meth c A Q ls C w hl hret
  have hx := C.1
  have hb := C.2.1
  have hown := C.2.2.2.1
  have hts := C.2.2.2.2.1
  have hi2 : ∀ w ∈ wsX20, w ∈ wsX2_form := by decide +kernel
  refine lv_aload_n hx hb dX2_form_0 rfl (lv_at hl 0 rfl) ?_
  refine lv_iload_n hx hb dX2_form_1 rfl (lv_at hl 1 rfl) ?_
  refine ppI 2 0 (by decide) rfl (by decide) rfl rfl tyX2_ok nmX2 rfl (by decide +kernel) C w hi2 (by decide +kernel) dX2_form_2 (oP2 hX (by assumption)) (fun H locs w => ?_)
  refine lv_aload_n hx hb dX2_form_5 rfl (lv_at hl 0 rfl) ?_
  refine lv_iload_n hx hb dX2_form_6 rfl (lv_at hl 2 rfl) ?_
  refine ppI 2 1 (by decide) rfl (by decide) rfl rfl tyX2_ok nmX2 rfl (by decide +kernel) C w hi2 (by decide +kernel) dX2_form_7 (oP2 hX (by assumption)) (fun H locs w => ?_)
  refine lv_aload_n hx hb dX2_form_10 rfl (lv_at hl 0 rfl) ?_
  refine lv_iload_n hx hb dX2_form_11 rfl (lv_at hl 3 rfl) ?_
  refine ppI 2 2 (by decide) rfl (by decide) rfl rfl tyX2_ok nmX2 rfl (by decide +kernel) C w hi2 (by decide +kernel) dX2_form_12 (oP2 hX (by assumption)) (fun H locs w => ?_)
  exact hret _ _ _ _ _ dX2_form_15 w rfl

set_option maxHeartbeats 4000000 in
set_option maxRecDepth 100000 in
/-- Score.formLike -/
theorem c_X2_formLike (l : Launch) (G : GT) (hX : okX G) (S : PS) (r o : Nat) (hr : r < 79) (ho : o < 79) : CtV l G yX2_formLike wsX2_formLike (rmK 1 23) [.ref (gA G 2 r), .ref (gA G 2 o)] S (fun S2 => S2 = fm S r (sI S 2 o 0) (sI S 2 o 1) (sI S 2 o 2)) := by
  refine ofCtV (cc := cX2_formLike) (nL := 2) RX2 (by decide +kernel) rfl rfl (Nat.le_of_ble_eq_true rfl) ?_
  intro p e s m args below meth c A Q ls C w hl hret
  have hx := C.1
  have hb := C.2.1
  have hown := C.2.2.2.1
  have hts := C.2.2.2.2.1
  have hi2 : ∀ w ∈ wsX20, w ∈ wsX2_formLike := by decide +kernel
  refine lv_aload_n hx hb dX2_formLike_0 rfl (lv_at hl 0 rfl) ?_
  refine lv_aload_n hx hb dX2_formLike_1 rfl (lv_at hl 1 rfl) ?_
  refine pgI 2 0 (by decide) rfl (by decide) (Or.inl rfl) rfl C w hi2 (by decide +kernel) dX2_formLike_2 (oP2 hX (by assumption)) rfl ?_
  refine lv_aload_n hx hb dX2_formLike_5 rfl (lv_at hl 1 rfl) ?_
  refine pgI 2 1 (by decide) rfl (by decide) (Or.inl rfl) rfl C w hi2 (by decide +kernel) dX2_formLike_6 (oP2 hX (by assumption)) rfl ?_
  refine lv_aload_n hx hb dX2_formLike_9 rfl (lv_at hl 1 rfl) ?_
  refine pgI 2 2 (by decide) rfl (by decide) (Or.inl rfl) rfl C w hi2 (by decide +kernel) dX2_formLike_10 (oP2 hX (by assumption)) rfl ?_
  refine cvV (n := 3) C w hl dX2_formLike_13 (c_X2_form l G hX S _ _ _ _ (by assumption)) gX2_formLike_X2_form rfl (by decide +kernel) rfl rfl (Nat.le_of_ble_eq_true rfl) ⟨by decide, by decide⟩ (by decide) rfl (oP2 hX (by assumption)) (fun S2 H locs hp w => ?_)
  exact hret _ _ _ _ _ dX2_formLike_16 w hp

set_option maxHeartbeats 4000000 in
set_option maxRecDepth 100000 in
/-- Score.clear -/
theorem c_X2_clear (l : Launch) (G : GT) (hX : okX G) (S : PS) (hS : lkX S) (r z : Nat) (hr : r < 79) (hz : sI S 2 r 2 = nI z) (hz12 : z ≤ 12) : CtV l G yX2_clear wsX2_clear (rmK 0 0) [.ref (gA G 2 r)] S (fun S2 => S2 = rwk S r (fun _ => 0) (sJ S 9 r) z) := by
  refine ofCtV (cc := cX2_clear) (nL := 2) RX2 (by decide +kernel) rfl rfl (Nat.le_of_ble_eq_true rfl) ?_
  intro p e s m args below meth c A Q ls C w hl hret
  have hx := C.1
  have hb := C.2.1
  have hown := C.2.2.2.1
  have hts := C.2.2.2.2.1
  have hi2 : ∀ w ∈ wsX20, w ∈ wsX2_clear := by decide +kernel
  refine lv_iconst (v := 0) hx hb dX2_clear_0 (by decide) ?_
  refine lv_istore_n hx hb dX2_clear_1 rfl hl (by decide) rfl (fun ls hl => ?_)
  have loop_2 : ∀ (n : Nat) (k : Nat) (H : Heap) (locs : List Loc) (ls : Array Slot), k + n = z → Wd G A s.heap (rwk S r (fun _ => 0) (sJ S 9 r) k) H locs → lv_has ls 2 [(0, .ref (gA G 2 r)), (1, .int (nI k))] → W p l e (rmK 0 0) s m args below meth c H locs 0 0 Q (F0 m 2 ls []) := by
    intro n
    induction n with
    | zero =>
      intro k H locs ls hk w hl
      refine lv_iload_n hx hb dX2_clear_2 rfl (lv_at hl 1 rfl) ?_
      refine lv_aload_n hx hb dX2_clear_3 rfl (lv_at hl 0 rfl) ?_
      refine pgI 2 2 (by decide) rfl (by decide) (Or.inl rfl) rfl C w hi2 (by decide +kernel) dX2_clear_4 (oP2 hX (by assumption)) hz ?_
      refine lv_icmp_ge (tgt := 23) hx hb dX2_clear_7 (by decide) (fun c_7 => ?_) (fun c_7 => absurd (nI_le (by omega) (by omega)) c_7)
      have e : k = z := by omega
      subst e
      exact hret _ _ _ _ _ dX2_clear_23 w rfl
    | succ n ih =>
      intro k H locs ls hk w hl
      refine lv_iload_n hx hb dX2_clear_2 rfl (lv_at hl 1 rfl) ?_
      refine lv_aload_n hx hb dX2_clear_3 rfl (lv_at hl 0 rfl) ?_
      refine pgI 2 2 (by decide) rfl (by decide) (Or.inl rfl) rfl C w hi2 (by decide +kernel) dX2_clear_4 (oP2 hX (by assumption)) hz ?_
      refine lv_icmp_ge (tgt := 23) hx hb dX2_clear_7 (by decide) (fun c_7 => absurd c_7 (nI_ge (by omega) (by omega))) (fun c_7 => ?_)
      refine lv_aload_n hx hb dX2_clear_10 rfl (lv_at hl 0 rfl) ?_
      refine pgQ 2 3 9 (by decide) rfl (by decide) rfl rfl C w hi2 (by decide +kernel) dX2_clear_11 (oP2 hX (by assumption)) (lk2 hS (by assumption)) ?_
      refine lv_iload_n hx hb dX2_clear_14 rfl (lv_at hl 1 rfl) ?_
      refine lv_lconst (v := 0) hx hb dX2_clear_15 (by decide) ?_
      refine psJ C w dX2_clear_16 (oP9 hX (by assumption)) rfl (oN9 hX (by assumption)) (by omega) (by decide) (fun H locs w => ?_)
      refine lv_iinc (v := nI (k + 1)) hx hb dX2_clear_17 hl (k := 1) rfl (nI_1 k) (by decide) rfl (fun ls hl => ?_)
      refine lv_goto (tgt := 2) hx hb dX2_clear_20 (by decide) ?_
      rw [rwk_s rfl] at w
      exact ih (k + 1) _ _ _ (by omega) w (lv_sub hl [1, 0] rfl)
  exact loop_2 z 0 _ _ _ (by omega) (by rw [rwk_0 (fun _ => rfl)]; exact w) (lv_sub hl [1, 0] rfl)

set_option maxHeartbeats 4000000 in
set_option maxRecDepth 100000 in
/-- Score.copy -/
theorem c_X2_copy (l : Launch) (G : GT) (hX : okX G) (S : PS) (hS : lkX S) (r o z : Nat) (hr : r < 79) (ho : o < 79) (hne : o ≠ r) (hz : sI S 2 o 2 = nI z) (hz12 : z ≤ 12) : CtV l G yX2_copy wsX2_copy (rmK 2 44) [.ref (gA G 2 r), .ref (gA G 2 o)] S (fun S2 => S2 = (rwk (fm S r (sI S 2 o 0) (sI S 2 o 1) (sI S 2 o 2)) r (sJ S 9 o) (sJ S 9 r) z)) := by
  refine ofCtV (cc := cX2_copy) (nL := 3) RX2 (by decide +kernel) rfl rfl (Nat.le_of_ble_eq_true rfl) ?_
  intro p e s m args below meth c A Q ls C w hl hret
  have hx := C.1
  have hb := C.2.1
  have hown := C.2.2.2.1
  have hts := C.2.2.2.2.1
  have hi2 : ∀ w ∈ wsX20, w ∈ wsX2_copy := by decide +kernel
  refine lv_aload_n hx hb dX2_copy_0 rfl (lv_at hl 0 rfl) ?_
  refine lv_aload_n hx hb dX2_copy_1 rfl (lv_at hl 1 rfl) ?_
  refine cvV (n := 1) C w hl dX2_copy_2 (c_X2_formLike l G hX S _ _ (by assumption) (by assumption)) gX2_copy_X2_formLike rfl (by decide +kernel) rfl rfl (Nat.le_of_ble_eq_true rfl) ⟨by decide, by decide⟩ (by decide) rfl (oP2 hX (by assumption)) (fun S2 H locs hp w => ?_)
  subst hp
  refine lv_iconst (v := 0) hx hb dX2_copy_5 (by decide) ?_
  refine lv_istore_n hx hb dX2_copy_6 rfl hl (by decide) rfl (fun ls hl => ?_)
  have loop_7 : ∀ (n : Nat) (k : Nat) (H : Heap) (locs : List Loc) (ls : Array Slot), k + n = z → Wd G A s.heap (rwk (fm S r (sI S 2 o 0) (sI S 2 o 1) (sI S 2 o 2)) r (sJ S 9 o) (sJ S 9 r) k) H locs → lv_has ls 3 [(0, .ref (gA G 2 r)), (1, .ref (gA G 2 o)), (2, .int (nI k))] → W p l e (rmK 2 44) s m args below meth c H locs 0 0 Q (F0 m 7 ls []) := by
    intro n
    induction n with
    | zero =>
      intro k H locs ls hk w hl
      refine lv_iload_n hx hb dX2_copy_7 rfl (lv_at hl 2 rfl) ?_
      refine lv_aload_n hx hb dX2_copy_8 rfl (lv_at hl 0 rfl) ?_
      refine pgI 2 2 (by decide) rfl (by decide) (Or.inl rfl) rfl C w hi2 (by decide +kernel) dX2_copy_9 (oP2 hX (by assumption)) (v := nI z) (by rw [sI_rwk, sI_fm2]; exact hz) ?_
      refine lv_icmp_ge (tgt := 33) hx hb dX2_copy_12 (by decide) (fun c_12 => ?_) (fun c_12 => absurd (nI_le (by omega) (by omega)) c_12)
      have e : k = z := by omega
      subst e
      exact hret _ _ _ _ _ dX2_copy_33 w rfl
    | succ n ih =>
      intro k H locs ls hk w hl
      refine lv_iload_n hx hb dX2_copy_7 rfl (lv_at hl 2 rfl) ?_
      refine lv_aload_n hx hb dX2_copy_8 rfl (lv_at hl 0 rfl) ?_
      refine pgI 2 2 (by decide) rfl (by decide) (Or.inl rfl) rfl C w hi2 (by decide +kernel) dX2_copy_9 (oP2 hX (by assumption)) (v := nI z) (by rw [sI_rwk, sI_fm2]; exact hz) ?_
      refine lv_icmp_ge (tgt := 33) hx hb dX2_copy_12 (by decide) (fun c_12 => absurd c_12 (nI_ge (by omega) (by omega))) (fun c_12 => ?_)
      refine lv_aload_n hx hb dX2_copy_15 rfl (lv_at hl 0 rfl) ?_
      refine pgQ 2 3 9 (by decide) rfl (by decide) rfl rfl C w hi2 (by decide +kernel) dX2_copy_16 (oP2 hX (by assumption)) (lk2 hS (by assumption)) ?_
      refine lv_iload_n hx hb dX2_copy_19 rfl (lv_at hl 2 rfl) ?_
      refine lv_aload_n hx hb dX2_copy_20 rfl (lv_at hl 1 rfl) ?_
      refine pgQ 2 3 9 (by decide) rfl (by decide) rfl rfl C w hi2 (by decide +kernel) dX2_copy_21 (oP2 hX (by assumption)) (lk2 hS (by assumption)) ?_
      refine lv_iload_n hx hb dX2_copy_24 rfl (lv_at hl 2 rfl) ?_
      refine paJ C w dX2_copy_25 (oP9 hX (by assumption)) rfl (oN9 hX (by assumption)) (by omega) (by decide) (v := sJ S 9 o k) (by rw [sJ_rwk_n hne]; rfl) ?_
      refine psJ C w dX2_copy_26 (oP9 hX (by assumption)) rfl (oN9 hX (by assumption)) (by omega) (by decide) (fun H locs w => ?_)
      refine lv_iinc (v := nI (k + 1)) hx hb dX2_copy_27 hl (k := 2) rfl (nI_1 k) (by decide) rfl (fun ls hl => ?_)
      refine lv_goto (tgt := 7) hx hb dX2_copy_30 (by decide) ?_
      rw [rwk_s rfl] at w
      exact ih (k + 1) _ _ _ (by omega) w (lv_sub hl [1, 2, 0] rfl)
  exact loop_7 z 0 _ _ _ (by omega) (by rw [rwk_0 (S := fm S r _ _ _) (o := sJ S 9 r) (fun _ => rfl)]; exact w) (lv_sub hl [1, 2, 0] rfl)

set_option maxHeartbeats 4000000 in
set_option maxRecDepth 100000 in
/-- Score.isNothing -/
theorem c_X2_isNothing (l : Launch) (G : GT) (hX : okX G) (S : PS) (r : Nat) (hr : r < 79) : CtI l G yX2_isNothing wsX2_isNothing (rmK 0 0) [.ref (gA G 2 r)] S (fun v S2 => v = (if sI S 2 r 0 = -1 then 1 else 0) ∧ S2 = S) := by
  refine ofCtZ (cc := cX2_isNothing) (nL := 1) RX2 (by decide +kernel) rfl rfl (Nat.le_of_ble_eq_true rfl) ?_
  intro p e s m args below meth c A Q ls C w hl hret
  have hx := C.1
  have hb := C.2.1
  have hown := C.2.2.2.1
  have hts := C.2.2.2.2.1
  have hi2 : ∀ w ∈ wsX20, w ∈ wsX2_isNothing := by decide +kernel
  refine lv_aload_n hx hb dX2_isNothing_0 rfl (lv_at hl 0 rfl) ?_
  refine pgI 2 0 (by decide) rfl (by decide) (Or.inl rfl) rfl C w hi2 (by decide +kernel) dX2_isNothing_1 (oP2 hX (by assumption)) rfl ?_
  refine lv_iconst (v := (-1)) hx hb dX2_isNothing_4 (by decide) ?_
  refine lv_icmp_ne (tgt := 12) hx hb dX2_isNothing_5 (by decide) (fun c_5 => ?_) (fun c_5 => ?_)
  · refine lv_iconst (v := 0) hx hb dX2_isNothing_12 (by decide) ?_
    exact hret _ _ _ _ _ _ dX2_isNothing_13 w (by decide) ⟨by simp [c_5], rfl⟩
  · refine lv_iconst (v := 1) hx hb dX2_isNothing_8 (by decide) ?_
    refine lv_goto (tgt := 13) hx hb dX2_isNothing_9 (by decide) ?_
    exact hret _ _ _ _ _ _ dX2_isNothing_13 w (by decide) ⟨by simp [c_5], rfl⟩

set_option maxHeartbeats 4000000 in
set_option maxRecDepth 100000 in
/-- Score.isLike -/
theorem c_X2_isLike (l : Launch) (G : GT) (hX : okX G) (S : PS) (r o : Nat) (hr : r < 79) (ho : o < 79) : CtI l G yX2_isLike wsX2_isLike (rmK 0 0) [.ref (gA G 2 r), .ref (gA G 2 o)] S (fun v S2 => v = (if sI S 2 r 0 = sI S 2 o 0 ∧ sI S 2 r 1 = sI S 2 o 1 ∧ sI S 2 r 2 = sI S 2 o 2 then 1 else 0) ∧ S2 = S) := by
  refine ofCtZ (cc := cX2_isLike) (nL := 2) RX2 (by decide +kernel) rfl rfl (Nat.le_of_ble_eq_true rfl) ?_
  intro p e s m args below meth c A Q ls C w hl hret
  have hx := C.1
  have hb := C.2.1
  have hown := C.2.2.2.1
  have hts := C.2.2.2.2.1
  have hi2 : ∀ w ∈ wsX20, w ∈ wsX2_isLike := by decide +kernel
  refine lv_aload_n hx hb dX2_isLike_0 rfl (lv_at hl 0 rfl) ?_
  refine pgI 2 0 (by decide) rfl (by decide) (Or.inl rfl) rfl C w hi2 (by decide +kernel) dX2_isLike_1 (oP2 hX (by assumption)) rfl ?_
  refine lv_aload_n hx hb dX2_isLike_4 rfl (lv_at hl 1 rfl) ?_
  refine pgI 2 0 (by decide) rfl (by decide) (Or.inl rfl) rfl C w hi2 (by decide +kernel) dX2_isLike_5 (oP2 hX (by assumption)) rfl ?_
  refine lv_icmp_ne (tgt := 37) hx hb dX2_isLike_8 (by decide) (fun c_8 => ?_) (fun c_8 => ?_)
  · refine lv_iconst (v := 0) hx hb dX2_isLike_37 (by decide) ?_
    exact hret _ _ _ _ _ _ dX2_isLike_38 w (by decide) ⟨by simp_all, rfl⟩
  · refine lv_aload_n hx hb dX2_isLike_11 rfl (lv_at hl 0 rfl) ?_
    refine pgI 2 1 (by decide) rfl (by decide) (Or.inl rfl) rfl C w hi2 (by decide +kernel) dX2_isLike_12 (oP2 hX (by assumption)) rfl ?_
    refine lv_aload_n hx hb dX2_isLike_15 rfl (lv_at hl 1 rfl) ?_
    refine pgI 2 1 (by decide) rfl (by decide) (Or.inl rfl) rfl C w hi2 (by decide +kernel) dX2_isLike_16 (oP2 hX (by assumption)) rfl ?_
    refine lv_icmp_ne (tgt := 37) hx hb dX2_isLike_19 (by decide) (fun c_19 => ?_) (fun c_19 => ?_)
    · refine lv_iconst (v := 0) hx hb dX2_isLike_37 (by decide) ?_
      exact hret _ _ _ _ _ _ dX2_isLike_38 w (by decide) ⟨by simp_all, rfl⟩
    · refine lv_aload_n hx hb dX2_isLike_22 rfl (lv_at hl 0 rfl) ?_
      refine pgI 2 2 (by decide) rfl (by decide) (Or.inl rfl) rfl C w hi2 (by decide +kernel) dX2_isLike_23 (oP2 hX (by assumption)) rfl ?_
      refine lv_aload_n hx hb dX2_isLike_26 rfl (lv_at hl 1 rfl) ?_
      refine pgI 2 2 (by decide) rfl (by decide) (Or.inl rfl) rfl C w hi2 (by decide +kernel) dX2_isLike_27 (oP2 hX (by assumption)) rfl ?_
      refine lv_icmp_ne (tgt := 37) hx hb dX2_isLike_30 (by decide) (fun c_30 => ?_) (fun c_30 => ?_)
      · refine lv_iconst (v := 0) hx hb dX2_isLike_37 (by decide) ?_
        exact hret _ _ _ _ _ _ dX2_isLike_38 w (by decide) ⟨by simp_all, rfl⟩
      · refine lv_iconst (v := 1) hx hb dX2_isLike_33 (by decide) ?_
        refine lv_goto (tgt := 38) hx hb dX2_isLike_34 (by decide) ?_
        exact hret _ _ _ _ _ _ dX2_isLike_38 w (by decide) ⟨by simp_all, rfl⟩

set_option maxHeartbeats 4000000 in
set_option maxRecDepth 100000 in
/-- Score.hasLevel -/
theorem c_X2_hasLevel (l : Launch) (G : GT) (hX : okX G) (S : PS) (r : Nat) (k : Int32) (hr : r < 79) : CtI l G yX2_hasLevel wsX2_hasLevel (rmK 0 0) [.ref (gA G 2 r), .int k] S (fun v S2 => v = (if k < 0 ∨ sI S 2 r 2 ≤ k then 0 else 1) ∧ S2 = S) := by
  refine ofCtZ (cc := cX2_hasLevel) (nL := 2) RX2 (by decide +kernel) rfl rfl (Nat.le_of_ble_eq_true rfl) ?_
  intro p e s m args below meth c A Q ls C w hl hret
  have hx := C.1
  have hb := C.2.1
  have hown := C.2.2.2.1
  have hts := C.2.2.2.2.1
  have hi2 : ∀ w ∈ wsX20, w ∈ wsX2_hasLevel := by decide +kernel
  refine lv_iload_n hx hb dX2_hasLevel_0 rfl (lv_at hl 1 rfl) ?_
  refine lv_if_lt (tgt := 16) hx hb dX2_hasLevel_1 (by decide) (fun c_1 => ?_) (fun c_1 => ?_)
  · refine lv_iconst (v := 0) hx hb dX2_hasLevel_16 (by decide) ?_
    exact hret _ _ _ _ _ _ dX2_hasLevel_17 w (by decide) ⟨by simp_all, rfl⟩
  · refine lv_iload_n hx hb dX2_hasLevel_4 rfl (lv_at hl 1 rfl) ?_
    refine lv_aload_n hx hb dX2_hasLevel_5 rfl (lv_at hl 0 rfl) ?_
    refine pgI 2 2 (by decide) rfl (by decide) (Or.inl rfl) rfl C w hi2 (by decide +kernel) dX2_hasLevel_6 (oP2 hX (by assumption)) rfl ?_
    refine lv_icmp_ge (tgt := 16) hx hb dX2_hasLevel_9 (by decide) (fun c_9 => ?_) (fun c_9 => ?_)
    · refine lv_iconst (v := 0) hx hb dX2_hasLevel_16 (by decide) ?_
      exact hret _ _ _ _ _ _ dX2_hasLevel_17 w (by decide) ⟨by simp_all, rfl⟩
    · refine lv_iconst (v := 1) hx hb dX2_hasLevel_12 (by decide) ?_
      refine lv_goto (tgt := 17) hx hb dX2_hasLevel_13 (by decide) ?_
      exact hret _ _ _ _ _ _ dX2_hasLevel_17 w (by decide) ⟨by simp_all, rfl⟩

set_option maxHeartbeats 4000000 in
set_option maxRecDepth 100000 in
/-- Score.isFeasible -/
theorem c_X2_isFeasible (l : Launch) (G : GT) (hX : okX G) (S : PS) (hS : lkX S) (r z : Nat) (hr : r < 79) (hz : sI S 2 r 1 = nI z) (hz12 : z ≤ 12) : CtI l G yX2_isFeasible wsX2_isFeasible (rmK 0 0) [.ref (gA G 2 r)] S (fun v S2 => ((v = 1 ∧ ∀ k, k < z → ¬ sJ S 9 r k < 0) ∨ (v = 0 ∧ ∃ k, k < z ∧ sJ S 9 r k < 0)) ∧ S2 = S) := by
  refine ofCtZ (cc := cX2_isFeasible) (nL := 2) RX2 (by decide +kernel) rfl rfl (Nat.le_of_ble_eq_true rfl) ?_
  intro p e s m args below meth c A Q ls C w hl hret
  have hx := C.1
  have hb := C.2.1
  have hown := C.2.2.2.1
  have hts := C.2.2.2.2.1
  have hi2 : ∀ w ∈ wsX20, w ∈ wsX2_isFeasible := by decide +kernel
  refine lv_iconst (v := 0) hx hb dX2_isFeasible_0 (by decide) ?_
  refine lv_istore_n hx hb dX2_isFeasible_1 rfl hl (by decide) rfl (fun ls hl => ?_)
  have loop_2 : ∀ (n : Nat) (k : Nat) (H : Heap) (locs : List Loc) (ls : Array Slot), k + n = z → (∀ j, j < k → ¬ sJ S 9 r j < 0) → Wd G A s.heap S H locs → lv_has ls 2 [(0, .ref (gA G 2 r)), (1, .int (nI k))] → W p l e (rmK 0 0) s m args below meth c H locs 0 0 Q (F0 m 2 ls []) := by
    intro n
    induction n with
    | zero =>
      intro k H locs ls hk hI w hl
      refine lv_iload_n hx hb dX2_isFeasible_2 rfl (lv_at hl 1 rfl) ?_
      refine lv_aload_n hx hb dX2_isFeasible_3 rfl (lv_at hl 0 rfl) ?_
      refine pgI 2 1 (by decide) rfl (by decide) (Or.inl rfl) rfl C w hi2 (by decide +kernel) dX2_isFeasible_4 (oP2 hX (by assumption)) hz ?_
      refine lv_icmp_ge (tgt := 29) hx hb dX2_isFeasible_7 (by decide) (fun c_7 => ?_) (fun c_7 => absurd (nI_le (by omega) (by omega)) c_7)
      refine lv_iconst (v := 1) hx hb dX2_isFeasible_29 (by decide) ?_
      exact hret _ _ _ _ _ _ dX2_isFeasible_30 w (by decide) ⟨Or.inl ⟨rfl, fun j hj => hI j (by omega)⟩, rfl⟩
    | succ n ih =>
      intro k H locs ls hk hI w hl
      refine lv_iload_n hx hb dX2_isFeasible_2 rfl (lv_at hl 1 rfl) ?_
      refine lv_aload_n hx hb dX2_isFeasible_3 rfl (lv_at hl 0 rfl) ?_
      refine pgI 2 1 (by decide) rfl (by decide) (Or.inl rfl) rfl C w hi2 (by decide +kernel) dX2_isFeasible_4 (oP2 hX (by assumption)) hz ?_
      refine lv_icmp_ge (tgt := 29) hx hb dX2_isFeasible_7 (by decide) (fun c_7 => absurd c_7 (nI_ge (by omega) (by omega))) (fun c_7 => ?_)
      refine lv_aload_n hx hb dX2_isFeasible_10 rfl (lv_at hl 0 rfl) ?_
      refine pgQ 2 3 9 (by decide) rfl (by decide) rfl rfl C w hi2 (by decide +kernel) dX2_isFeasible_11 (oP2 hX (by assumption)) (lk2 hS (by assumption)) ?_
      refine lv_iload_n hx hb dX2_isFeasible_14 rfl (lv_at hl 1 rfl) ?_
      refine paJ C w dX2_isFeasible_15 (oP9 hX (by assumption)) rfl (oN9 hX (by assumption)) (by omega) (by decide) rfl ?_
      refine lv_lconst (v := 0) hx hb dX2_isFeasible_16 (by decide) ?_
      refine W.lcmp hx hb dX2_isFeasible_17 ?_
      refine lv_if_ge (tgt := 23) hx hb dX2_isFeasible_18 (by decide) (fun c_18 => ?_) (fun c_18 => ?_)
      · rw [lg_cmp_ge] at c_18
        refine lv_iinc (v := nI (k + 1)) hx hb dX2_isFeasible_23 hl (k := 1) rfl (nI_1 k) (by decide) rfl (fun ls hl => ?_)
        refine lv_goto (tgt := 2) hx hb dX2_isFeasible_26 (by decide) ?_
        exact ih (k + 1) _ _ _ (by omega) (lt_s hI (Int64.not_lt.mpr c_18)) w (lv_sub hl [1, 0] rfl)
      · rw [lg_cmp_ge] at c_18
        refine lv_iconst (v := 0) hx hb dX2_isFeasible_21 (by decide) ?_
        exact hret _ _ _ _ _ _ dX2_isFeasible_22 w (by decide) ⟨Or.inr ⟨rfl, k, by omega, Int64.not_le.mp c_18⟩, rfl⟩
  exact loop_2 z 0 _ _ _ (by omega) lt_0 w (lv_sub hl [1, 0] rfl)

set_option maxHeartbeats 4000000 in
set_option maxRecDepth 100000 in
/-- Score.compareWith -/
theorem c_X2_compareWith (l : Launch) (G : GT) (hX : okX G) (S : PS) (hS : lkX S) (r o z : Nat) (hr : r < 79) (ho : o < 79) (hz : sI S 2 r 2 = nI z) (hz12 : z ≤ 12) : CtI l G yX2_compareWith wsX2_compareWith (rmK 0 0) [.ref (gA G 2 r), .ref (gA G 2 o)] S (fun v S2 => v = cmpG (sJ S 9 r) (sJ S 9 o) z 0 ∧ S2 = S) := by
  refine ofCtI (cc := cX2_compareWith) (nL := 3) RX2 (by decide +kernel) rfl rfl (Nat.le_of_ble_eq_true rfl) ?_
  intro p e s m args below meth c A Q ls C w hl hret
  have hx := C.1
  have hb := C.2.1
  have hown := C.2.2.2.1
  have hts := C.2.2.2.2.1
  have hi2 : ∀ w ∈ wsX20, w ∈ wsX2_compareWith := by decide +kernel
  refine lv_iconst (v := 0) hx hb dX2_compareWith_0 (by decide) ?_
  refine lv_istore_n hx hb dX2_compareWith_1 rfl hl (by decide) rfl (fun ls hl => ?_)
  have loop_2 : ∀ (n : Nat) (k : Nat) (H : Heap) (locs : List Loc) (ls : Array Slot), k + n = z → cmpG (sJ S 9 r) (sJ S 9 o) z 0 = cmpG (sJ S 9 r) (sJ S 9 o) n k → Wd G A s.heap S H locs → lv_has ls 3 [(0, .ref (gA G 2 r)), (1, .ref (gA G 2 o)), (2, .int (nI k))] → W p l e (rmK 0 0) s m args below meth c H locs 0 0 Q (F0 m 2 ls []) := by
    intro n
    induction n with
    | zero =>
      intro k H locs ls hk hI w hl
      refine lv_iload_n hx hb dX2_compareWith_2 rfl (lv_at hl 2 rfl) ?_
      refine lv_aload_n hx hb dX2_compareWith_3 rfl (lv_at hl 0 rfl) ?_
      refine pgI 2 2 (by decide) rfl (by decide) (Or.inl rfl) rfl C w hi2 (by decide +kernel) dX2_compareWith_4 (oP2 hX (by assumption)) hz ?_
      refine lv_icmp_ge (tgt := 54) hx hb dX2_compareWith_7 (by decide) (fun c_7 => ?_) (fun c_7 => absurd (nI_le (by omega) (by omega)) c_7)
      refine lv_iconst (v := 0) hx hb dX2_compareWith_54 (by decide) ?_
      exact hret _ _ _ _ _ _ dX2_compareWith_55 w ⟨hI.symm, rfl⟩
    | succ n ih =>
      intro k H locs ls hk hI w hl
      refine lv_iload_n hx hb dX2_compareWith_2 rfl (lv_at hl 2 rfl) ?_
      refine lv_aload_n hx hb dX2_compareWith_3 rfl (lv_at hl 0 rfl) ?_
      refine pgI 2 2 (by decide) rfl (by decide) (Or.inl rfl) rfl C w hi2 (by decide +kernel) dX2_compareWith_4 (oP2 hX (by assumption)) hz ?_
      refine lv_icmp_ge (tgt := 54) hx hb dX2_compareWith_7 (by decide) (fun c_7 => absurd c_7 (nI_ge (by omega) (by omega))) (fun c_7 => ?_)
      refine lv_aload_n hx hb dX2_compareWith_10 rfl (lv_at hl 0 rfl) ?_
      refine pgQ 2 3 9 (by decide) rfl (by decide) rfl rfl C w hi2 (by decide +kernel) dX2_compareWith_11 (oP2 hX (by assumption)) (lk2 hS (by assumption)) ?_
      refine lv_iload_n hx hb dX2_compareWith_14 rfl (lv_at hl 2 rfl) ?_
      refine paJ C w dX2_compareWith_15 (oP9 hX (by assumption)) rfl (oN9 hX (by assumption)) (by omega) (by decide) rfl ?_
      refine lv_aload_n hx hb dX2_compareWith_16 rfl (lv_at hl 1 rfl) ?_
      refine pgQ 2 3 9 (by decide) rfl (by decide) rfl rfl C w hi2 (by decide +kernel) dX2_compareWith_17 (oP2 hX (by assumption)) (lk2 hS (by assumption)) ?_
      refine lv_iload_n hx hb dX2_compareWith_20 rfl (lv_at hl 2 rfl) ?_
      refine paJ C w dX2_compareWith_21 (oP9 hX (by assumption)) rfl (oN9 hX (by assumption)) (by omega) (by decide) rfl ?_
      refine W.lcmp hx hb dX2_compareWith_22 ?_
      refine lv_if_eq (tgt := 48) hx hb dX2_compareWith_23 (by decide) (fun c_23 => ?_) (fun c_23 => ?_)
      · rw [lg_cmp_eq] at c_23
        refine lv_iinc (v := nI (k + 1)) hx hb dX2_compareWith_48 hl (k := 2) rfl (nI_1 k) (by decide) rfl (fun ls hl => ?_)
        refine lv_goto (tgt := 2) hx hb dX2_compareWith_51 (by decide) ?_
        exact ih (k + 1) _ _ _ (by omega) (by rw [hI, cmpG, if_pos c_23]) w (lv_sub hl [1, 2, 0] rfl)
      · rw [lg_cmp_eq] at c_23
        refine lv_aload_n hx hb dX2_compareWith_26 rfl (lv_at hl 0 rfl) ?_
        refine pgQ 2 3 9 (by decide) rfl (by decide) rfl rfl C w hi2 (by decide +kernel) dX2_compareWith_27 (oP2 hX (by assumption)) (lk2 hS (by assumption)) ?_
        refine lv_iload_n hx hb dX2_compareWith_30 rfl (lv_at hl 2 rfl) ?_
        refine paJ C w dX2_compareWith_31 (oP9 hX (by assumption)) rfl (oN9 hX (by assumption)) (by omega) (by decide) rfl ?_
        refine lv_aload_n hx hb dX2_compareWith_32 rfl (lv_at hl 1 rfl) ?_
        refine pgQ 2 3 9 (by decide) rfl (by decide) rfl rfl C w hi2 (by decide +kernel) dX2_compareWith_33 (oP2 hX (by assumption)) (lk2 hS (by assumption)) ?_
        refine lv_iload_n hx hb dX2_compareWith_36 rfl (lv_at hl 2 rfl) ?_
        refine paJ C w dX2_compareWith_37 (oP9 hX (by assumption)) rfl (oN9 hX (by assumption)) (by omega) (by decide) rfl ?_
        refine W.lcmp hx hb dX2_compareWith_38 ?_
        refine lv_if_ge (tgt := 46) hx hb dX2_compareWith_39 (by decide) (fun c_39 => ?_) (fun c_39 => ?_)
        · rw [lg_cmp_ge] at c_39
          refine lv_iconst (v := 1) hx hb dX2_compareWith_46 (by decide) ?_
          exact hret _ _ _ _ _ _ dX2_compareWith_47 w ⟨by rw [hI, cmpG, if_neg c_23]; first | rw [if_pos (Int64.not_le.mp c_39)] | rw [if_neg (Int64.not_lt.mpr c_39)], rfl⟩
        · rw [lg_cmp_ge] at c_39
          refine lv_iconst (v := (-1)) hx hb dX2_compareWith_42 (by decide) ?_
          refine lv_goto (tgt := 47) hx hb dX2_compareWith_43 (by decide) ?_
          exact hret _ _ _ _ _ _ dX2_compareWith_47 w ⟨by rw [hI, cmpG, if_neg c_23]; first | rw [if_pos (Int64.not_le.mp c_39)] | rw [if_neg (Int64.not_lt.mpr c_39)], rfl⟩
  exact loop_2 z 0 _ _ _ (by omega) rfl w (lv_sub hl [1, 2, 0] rfl)
