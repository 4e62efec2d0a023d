set_option maxHeartbeats 4000000 in
set_option maxRecDepth 100000 in
/-- Score.form -/
theorem c_X2_form (l : Launch) (G : GT) (hX : okX G) (S : PS) (r : Nat) (a b z : Int32) (hr : r < 79) : CtV l G yX2_form wsX2_form (rmK 0 0) [.ref (gA G 2 r), .int a, .int b, .int z] S (fun S2 => S2 = fm S r a b z) := by
  refine ofCtV (cc := cX2_form) (nL := 4) RX2 (by decide +kernel) rfl rfl (Nat.le_of_ble_eq_true rfl) ?_
  intro p e s m args below meth c A Q ls C w hl hret
  have hx := C.1
  have hb := C.2.1
  have hown := C.2.2.2.1
  have hts := C.2.2.2.2.1
  have hi2 : ∀ w ∈ wsX20, w ∈ wsX2_form := by decide +kernel
  refine lv_aload_n hx hb dX2_form_0 rfl (lv_at hl 0 rfl) ?_
  refine lv_iload_n hx hb dX2_form_1 rfl (lv_at hl 1 rfl) ?_
  refine ppI 2 0 (by decide) rfl (by decide) rfl rfl tyX2_ok nmX2 rfl (by decide +kernel) C w hi2 (by decide +kernel) dX2_form_2 (oP2 hX (by assumption)) (fun H locs w => ?_)
  refine lv_aload_n hx hb dX2_form_5 rfl (lv_at hl 0 rfl) ?_
  refine lv_iload_n hx hb dX2_form_6 rfl (lv_at hl 2 rfl) ?_
  refine ppI 2 1 (by decide) rfl (by decide) rfl rfl tyX2_ok nmX2 rfl (by decide +kernel) C w hi2 (by decide +kernel) dX2_form_7 (oP2 hX (by assumption)) (fun H locs w => ?_)
  refine lv_aload_n hx hb dX2_form_10 rfl (lv_at hl 0 rfl) ?_
  refine lv_iload_n hx hb dX2_form_11 rfl (lv_at hl 3 rfl) ?_
  refine ppI 2 2 (by decide) rfl (by decide) rfl rfl tyX2_ok nmX2 rfl (by decide +kernel) C w hi2 (by decide +kernel) dX2_form_12 (oP2 hX (by assumption)) (fun H locs w => ?_)
  exact hret _ _ _ _ _ dX2_form_15 w rfl

set_option maxHeartbeats 4000000 in
set_option maxRecDepth 100000 in
/-- Score.formLike -/
theorem c_X2_formLike (l : Launch) (G : GT) (hX : okX G) (S : PS) (r o : Nat) (hr : r < 79) (ho : o < 79) : CtV l G yX2_formLike wsX2_formLike (rmK 1 23) [.ref (gA G 2 r), .ref (gA G 2 o)] S (fun S2 => S2 = fm S r (sI S 2 o 0) (sI S 2 o 1) (sI S 2 o 2)) := by
  refine ofCtV (cc := cX2_formLike) (nL := 2) RX2 (by decide +kernel) rfl rfl (Nat.le_of_ble_eq_true rfl) ?_
  intro p e s m args below meth c A Q ls C w hl hret
  have hx := C.1
  have hb := C.2.1
  have hown := C.2.2.2.1
  have hts := C.2.2.2.2.1
  have hi2 : ∀ w ∈ wsX20, w ∈ wsX2_formLike := by decide +kernel
  refine lv_aload_n hx hb dX2_formLike_0 rfl (lv_at hl 0 rfl) ?_
  refine lv_aload_n hx hb dX2_formLike_1 rfl (lv_at hl 1 rfl) ?_
  refine pgI 2 0 (by decide) rfl (by decide) (Or.inl rfl) rfl C w hi2 (by decide +kernel) dX2_formLike_2 (oP2 hX (by assumption)) rfl ?_
  refine lv_aload_n hx hb dX2_formLike_5 rfl (lv_at hl 1 rfl) ?_
  refine pgI 2 1 (by decide) rfl (by decide) (Or.inl rfl) rfl C w hi2 (by decide +kernel) dX2_formLike_6 (oP2 hX (by assumption)) rfl ?_
  refine lv_aload_n hx hb dX2_formLike_9 rfl (lv_at hl 1 rfl) ?_
  refine pgI 2 2 (by decide) rfl (by decide) (Or.inl rfl) rfl C w hi2 (by decide +kernel) dX2_formLike_10 (oP2 hX (by assumption)) rfl ?_
  refine cvV (n := 3) C w hl dX2_formLike_13 (c_X2_form l G hX S _ _ _ _ (by assumption)) gX2_formLike_X2_form rfl (by decide +kernel) rfl rfl (Nat.le_of_ble_eq_true rfl) ⟨by decide, by decide⟩ (by decide) rfl (oP2 hX (by assumption)) (fun S2 H locs hp w => ?_)
  exact hret _ _ _ _ _ dX2_formLike_16 w hp

set_option maxHeartbeats 4000000 in
set_option maxRecDepth 100000 in
/-- Score.clear -/
theorem c_X2_clear (l : Launch) (G : GT) (hX : okX G) (S : PS) (hS : lkX S) (r z : Nat) (hr : r < 79) (hz : sI S 2 r 2 = nI z) (hz12 : z ≤ 12) : CtV l G yX2_clear wsX2_clear (rmK 0 0) [.ref (gA G 2 r)] S (fun S2 => S2 = rw9 S r (fun k => if k < z then 0 else sJ S 9 r k)) := by
  refine ofCtV (cc := cX2_clear) (nL := 2) RX2 (by decide +kernel) rfl rfl (Nat.le_of_ble_eq_true rfl) ?_
  intro p e s m args below meth c A Q ls C w hl hret
  have hx := C.1
  have hb := C.2.1
  have hown := C.2.2.2.1
  have hts := C.2.2.2.2.1
  have hi2 : ∀ w ∈ wsX20, w ∈ wsX2_clear := by decide +kernel
  refine lv_iconst (v := 0) hx hb dX2_clear_0 (by decide) ?_
  refine lv_istore_n hx hb dX2_clear_1 rfl hl (by decide) rfl (fun ls hl => ?_)
  have loop_2 : ∀ (n : Nat) (k : Nat) (H : Heap) (locs : List Loc) (ls : Array Slot), k + n = z → Wd G A s.heap (rw9 S r (fun j => if j < k then 0 else sJ S 9 r j)) H locs → lv_has ls 2 [(0, .ref (gA G 2 r)), (1, .int (nI k))] → W p l e (rmK 0 0) s m args below meth c H locs 0 0 Q (F0 m 2 ls []) := by
    intro n
    induction n with
    | zero =>
      intro k H locs ls hk w hl
      refine lv_iload_n hx hb dX2_clear_2 rfl (lv_at hl 1 rfl) ?_
      refine lv_aload_n hx hb dX2_clear_3 rfl (lv_at hl 0 rfl) ?_
      refine pgI 2 2 (by decide) rfl (by decide) (Or.inl rfl) rfl C w hi2 (by decide +kernel) dX2_clear_4 (oP2 hX (by assumption)) hz ?_
      refine lv_icmp_ge (tgt := 23) hx hb dX2_clear_7 (by decide) (fun c_7 => ?_) (fun c_7 => absurd (nI_le (by omega) (by omega)) c_7)
      have e : k = z := by omega
      subst e
      exact hret _ _ _ _ _ dX2_clear_23 w rfl
    | succ n ih =>
      intro k H locs ls hk w hl
      refine lv_iload_n hx hb dX2_clear_2 rfl (lv_at hl 1 rfl) ?_
      refine lv_aload_n hx hb dX2_clear_3 rfl (lv_at hl 0 rfl) ?_
      refine pgI 2 2 (by decide) rfl (by decide) (Or.inl rfl) rfl C w hi2 (by decide +kernel) dX2_clear_4 (oP2 hX (by assumption)) hz ?_
      refine lv_icmp_ge (tgt := 23) hx hb dX2_clear_7 (by decide) (fun c_7 => absurd c_7 (nI_ge (by omega) (by omega))) (fun c_7 => ?_)
      refine lv_aload_n hx hb dX2_clear_10 rfl (lv_at hl 0 rfl) ?_
      refine pgQ 2 3 9 (by decide) rfl (by decide) rfl rfl C w hi2 (by decide +kernel) dX2_clear_11 (oP2 hX (by assumption)) (lk2 hS (by assumption)) ?_
      refine lv_iload_n hx hb dX2_clear_14 rfl (lv_at hl 1 rfl) ?_
      refine lv_lconst (v := 0) hx hb dX2_clear_15 (by decide) ?_
      refine psJ C w dX2_clear_16 (oP9 hX (by assumption)) rfl (oN9 hX (by assumption)) (by omega) (by decide) (fun H locs w => ?_)
      refine lv_iinc (v := nI (k + 1)) hx hb dX2_clear_17 hl (k := 1) rfl (nI_1 k) (by decide) rfl (fun ls hl => ?_)
      refine lv_goto (tgt := 2) hx hb dX2_clear_20 (by decide) ?_
      refine ih (k + 1) _ _ _ (by omega) ?_ (lv_sub hl [1, 0] rfl)
      rw [uJ_rw9] at w
      rw [rw9_eq (g := fun j => if j < k + 1 then 0 else sJ S 9 r j)] at w
      · exact w
      · intro j; by_cases h1 : j = k
        · subst h1; simp
        · simp only [h1, if_false]; by_cases h2 : j < k
          · rw [if_pos h2, if_pos (by omega)]
          · rw [if_neg h2, if_neg (by omega)]
  exact loop_2 z 0 _ _ _ (by omega) (by simpa [rw9_self] using w) (lv_sub hl [1, 0] rfl)
