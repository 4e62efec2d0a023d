theorem pairF_0 {a b c a' b' c' : Int32} (h : pairF a b c a' b' c' = 0) : ¬ a = -1 ∧ ¬ a' = -1 ∧ a = a' ∧ b = b' ∧ c = c' := by
  unfold pairF at h
  split at h
  · exact absurd h (by decide)
  · rename_i h1
    split at h
    · rename_i h2
      exact ⟨fun q => h1 (Or.inl q), fun q => h1 (Or.inr q), h2⟩
    · exact absurd h (by decide)

set_option maxHeartbeats 4000000 in
set_option maxRecDepth 100000 in
/-- combine -/
theorem c_X5_combine (l : Launch) (G : GT) (hX : okX G) (S : PS) (hS : lkX S) (t : Int32) (r a b z : Nat) (hr : r < 79) (ha : a < 79) (hb2 : b < 79) (hna : a ≠ r) (hnb : b ≠ r) (hz : sI S 2 a 2 = nI z) (hz12 : z ≤ 12) (hlk : sI S 2 a 0 = sI S 2 b 0 ∧ sI S 2 a 1 = sI S 2 b 1 ∧ sI S 2 a 2 = sI S 2 b 2) (ht : inN t 6) : CtI l G yX5_combine wsX5_combine (rmK 3 73) [.int t, .ref (gA G 2 a), .ref (gA G 2 b), .ref (gA G 2 r)] S (fun v S2 => (v = 1 ∧ ¬ ovP t (sJ S 9 a) (sJ S 9 b) z ∧ hs S S2 r (sI S 2 a 0) (sI S 2 a 1) z (cG t (sJ S 9 a) (sJ S 9 b) z)) ∨ (v = 0 ∧ ovP t (sJ S 9 a) (sJ S 9 b) z ∧ eqN S S2 r)) := by
  refine ofCtZ (cc := cX5_combine) (nL := 4) RX5 (by decide +kernel) rfl rfl (Nat.le_of_ble_eq_true rfl) ?_
  intro p e s m args below meth c A Q ls C w hl hret
  have hx := C.1
  have hb := C.2.1
  have hown := C.2.2.2.1
  have hts := C.2.2.2.2.1
  refine lv_iload_n hx hb dX5_combine_0 rfl (lv_at hl 0 rfl) ?_
  rcases sw5 t with hs_1 | hs_1 | hs_1 | hs_1 | hs_1 | hs_1
  · refine lv_tableIn (tgt := 36) (off := 35) hx hb dX5_combine_1 (by rw [hs_1]; decide) (by rw [hs_1]; decide) (by rw [hs_1]; rfl) (by decide) ?_
    refine lv_aload_n hx hb dX5_combine_36 rfl (lv_at hl 3 rfl) ?_
    refine lv_aload_n hx hb dX5_combine_37 rfl (lv_at hl 1 rfl) ?_
    refine lv_aload_n hx hb dX5_combine_38 rfl (lv_at hl 2 rfl) ?_
    refine cvI (n := 2) C w hl dX5_combine_39 (c_X2_becomeSum l G hX S hS r a b z hr ha hb2 hna hnb hz hz12) gX5_combine_X2_becomeSum rfl (by decide +kernel) rfl rfl (Nat.le_of_ble_eq_true rfl) ⟨by decide, by decide⟩ (by decide) rfl (oP2 hX (by omega)) (fun v2 S2 H locs hp w => ?_)
    have hq : (v2 = 1 ∧ ¬ ovP t (sJ S 9 a) (sJ S 9 b) z ∧ hs S S2 r (sI S 2 a 0) (sI S 2 a 1) z (cG t (sJ S 9 a) (sJ S 9 b) z)) ∨ (v2 = 0 ∧ ovP t (sJ S 9 a) (sJ S 9 b) z ∧ eqN S S2 r) := by
      rcases hp with ⟨h1, h2, h3⟩ | ⟨h1, h2, f, h3⟩
      · refine Or.inl ⟨h1, ?_, ?_⟩
        · rintro (h | h)
          · first | (obtain ⟨k, hk, h⟩ := h.2; exact h2 k hk ((ov_add _ _).mpr h)) | exact absurd h.1 (by rw [hs_1]; decide)
          · first | (obtain ⟨k, hk, h⟩ := h.2; exact h2 k hk ((ov_add _ _).mpr h)) | exact absurd h.1 (by rw [hs_1]; decide)
        · rw [h3]; unfold cG; first | rw [if_neg (by rw [hs_1]; decide), if_pos hs_1] | rw [if_pos hs_1]
          exact hs_rwk S r _ _ _ z hz _ _
      · refine Or.inr ⟨h1, ?_, by rw [h3]; exact (eqN_fm S r _ _ _).tr (eqN_rw9 _ r _)⟩
        obtain ⟨k, hk, h⟩ := h2
        first | exact Or.inl ⟨hs_1, k, hk, (ov_add _ _).mp h⟩ | exact Or.inr ⟨hs_1, k, hk, (ov_add _ _).mp h⟩
    exact hret _ _ _ _ _ _ dX5_combine_42 w (by rcases hp with h | h; exact Or.inr h.1; exact Or.inl h.1) hq
  · refine lv_tableIn (tgt := 43) (off := 42) hx hb dX5_combine_1 (by rw [hs_1]; decide) (by rw [hs_1]; decide) (by rw [hs_1]; rfl) (by decide) ?_
    refine lv_aload_n hx hb dX5_combine_43 rfl (lv_at hl 3 rfl) ?_
    refine lv_aload_n hx hb dX5_combine_44 rfl (lv_at hl 1 rfl) ?_
    refine lv_aload_n hx hb dX5_combine_45 rfl (lv_at hl 2 rfl) ?_
    refine cvI (n := 2) C w hl dX5_combine_46 (c_X2_becomeDifference l G hX S hS r a b z hr ha hb2 hna hnb hz hz12) gX5_combine_X2_becomeDifference rfl (by decide +kernel) rfl rfl (Nat.le_of_ble_eq_true rfl) ⟨by decide, by decide⟩ (by decide) rfl (oP2 hX (by omega)) (fun v2 S2 H locs hp w => ?_)
    have hq : (v2 = 1 ∧ ¬ ovP t (sJ S 9 a) (sJ S 9 b) z ∧ hs S S2 r (sI S 2 a 0) (sI S 2 a 1) z (cG t (sJ S 9 a) (sJ S 9 b) z)) ∨ (v2 = 0 ∧ ovP t (sJ S 9 a) (sJ S 9 b) z ∧ eqN S S2 r) := by
      rcases hp with ⟨h1, h2, h3⟩ | ⟨h1, h2, f, h3⟩
      · refine Or.inl ⟨h1, ?_, ?_⟩
        · rintro (h | h)
          · first | (obtain ⟨k, hk, h⟩ := h.2; exact h2 k hk ((ov_sub _ _).mpr h)) | exact absurd h.1 (by rw [hs_1]; decide)
          · first | (obtain ⟨k, hk, h⟩ := h.2; exact h2 k hk ((ov_sub _ _).mpr h)) | exact absurd h.1 (by rw [hs_1]; decide)
        · rw [h3]; unfold cG; first | rw [if_neg (by rw [hs_1]; decide), if_pos hs_1] | rw [if_pos hs_1]
          exact hs_rwk S r _ _ _ z hz _ _
      · refine Or.inr ⟨h1, ?_, by rw [h3]; exact (eqN_fm S r _ _ _).tr (eqN_rw9 _ r _)⟩
        obtain ⟨k, hk, h⟩ := h2
        first | exact Or.inl ⟨hs_1, k, hk, (ov_sub _ _).mp h⟩ | exact Or.inr ⟨hs_1, k, hk, (ov_sub _ _).mp h⟩
    exact hret _ _ _ _ _ _ dX5_combine_49 w (by rcases hp with h | h; exact Or.inr h.1; exact Or.inl h.1) hq
  · refine lv_tableIn (tgt := 50) (off := 49) hx hb dX5_combine_1 (by rw [hs_1]; decide) (by rw [hs_1]; decide) (by rw [hs_1]; rfl) (by decide) ?_
    refine lv_aload_n hx hb dX5_combine_50 rfl (lv_at hl 3 rfl) ?_
    refine lv_aload_n hx hb dX5_combine_51 rfl (lv_at hl 1 rfl) ?_
    refine lv_aload_n hx hb dX5_combine_52 rfl (lv_at hl 2 rfl) ?_
    refine cvI (n := 1) C w hl dX5_combine_53 (c_X2_compareWith l G hX S hS a b z ha hb2 hz hz12) gX5_combine_X2_compareWith rfl (by decide +kernel) rfl rfl (Nat.le_of_ble_eq_true rfl) ⟨by decide, by decide⟩ (by decide) rfl (oP2 hX (by omega)) (fun v2 S2 H locs hp w => ?_)
    obtain ⟨q2, e0⟩ := hp
    rw [e0] at w
    refine lv_if_ge (tgt := 63) hx hb dX5_combine_56 (by decide) (fun c_56 => ?_) (fun c_56 => ?_)
    · have hc : ¬ cmpG (sJ S 9 a) (sJ S 9 b) z 0 < 0 := by rw [← q2]; exact Int32.not_lt.mpr c_56
      have hcp := c_X2_copy l G hX S hS r a z hr ha hna hz hz12
      have hrow : cG t (sJ S 9 a) (sJ S 9 b) z = sJ S 9 a := by unfold cG; rw [if_neg (by rw [hs_1]; decide), if_neg (by rw [hs_1]; decide), if_pos hs_1, if_neg hc]
      refine lv_aload_n hx hb dX5_combine_63 rfl (lv_at hl 1 rfl) ?_
      refine cvV (n := 1) C w hl dX5_combine_64 hcp gX5_combine_X2_copy rfl (by decide +kernel) rfl rfl (Nat.le_of_ble_eq_true rfl) ⟨by decide, by decide⟩ (by decide) rfl (oP2 hX (by omega)) (fun S3 H locs hp w => ?_)
      refine lv_iconst (v := 1) hx hb dX5_combine_67 (by decide) ?_
      exact hret _ _ _ _ _ _ dX5_combine_68 w (by decide) (Or.inl ⟨rfl, (by rintro (h | h) <;> exact absurd h.1 (by rw [hs_1]; decide)), by rw [hrow, hp]; first | exact hs_rwk S r _ _ _ z hz _ _ | (rw [hlk.1, hlk.2.1]; exact hs_rwk S r _ _ _ z (by rw [← hlk.2.2]; exact hz) _ _)⟩)
    · have hc : cmpG (sJ S 9 a) (sJ S 9 b) z 0 < 0 := by rw [← q2]; exact Int32.not_le.mp c_56
      have hcp := c_X2_copy l G hX S hS r b z hr hb2 hnb (by rw [← hlk.2.2]; exact hz) hz12
      have hrow : cG t (sJ S 9 a) (sJ S 9 b) z = sJ S 9 b := by unfold cG; rw [if_neg (by rw [hs_1]; decide), if_neg (by rw [hs_1]; decide), if_pos hs_1, if_pos hc]
      refine lv_aload_n hx hb dX5_combine_59 rfl (lv_at hl 2 rfl) ?_
      refine lv_goto (tgt := 64) hx hb dX5_combine_60 (by decide) ?_
      refine cvV (n := 1) C w hl dX5_combine_64 hcp gX5_combine_X2_copy rfl (by decide +kernel) rfl rfl (Nat.le_of_ble_eq_true rfl) ⟨by decide, by decide⟩ (by decide) rfl (oP2 hX (by omega)) (fun S3 H locs hp w => ?_)
      refine lv_iconst (v := 1) hx hb dX5_combine_67 (by decide) ?_
      exact hret _ _ _ _ _ _ dX5_combine_68 w (by decide) (Or.inl ⟨rfl, (by rintro (h | h) <;> exact absurd h.1 (by rw [hs_1]; decide)), by rw [hrow, hp]; first | exact hs_rwk S r _ _ _ z hz _ _ | (rw [hlk.1, hlk.2.1]; exact hs_rwk S r _ _ _ z (by rw [← hlk.2.2]; exact hz) _ _)⟩)
  · refine lv_tableIn (tgt := 69) (off := 68) hx hb dX5_combine_1 (by rw [hs_1]; decide) (by rw [hs_1]; decide) (by rw [hs_1]; rfl) (by decide) ?_
    refine lv_aload_n hx hb dX5_combine_69 rfl (lv_at hl 3 rfl) ?_
    refine lv_aload_n hx hb dX5_combine_70 rfl (lv_at hl 1 rfl) ?_
    refine lv_aload_n hx hb dX5_combine_71 rfl (lv_at hl 2 rfl) ?_
    refine cvI (n := 1) C w hl dX5_combine_72 (c_X2_compareWith l G hX S hS a b z ha hb2 hz hz12) gX5_combine_X2_compareWith rfl (by decide +kernel) rfl rfl (Nat.le_of_ble_eq_true rfl) ⟨by decide, by decide⟩ (by decide) rfl (oP2 hX (by omega)) (fun v2 S2 H locs hp w => ?_)
    obtain ⟨q2, e0⟩ := hp
    rw [e0] at w
    refine lv_if_le (tgt := 82) hx hb dX5_combine_75 (by decide) (fun c_75 => ?_) (fun c_75 => ?_)
    · have hc : ¬ 0 < cmpG (sJ S 9 a) (sJ S 9 b) z 0 := by rw [← q2]; exact Int32.not_lt.mpr c_75
      have hcp := c_X2_copy l G hX S hS r a z hr ha hna hz hz12
      have hrow : cG t (sJ S 9 a) (sJ S 9 b) z = sJ S 9 a := by unfold cG; rw [if_neg (by rw [hs_1]; decide), if_neg (by rw [hs_1]; decide), if_neg (by rw [hs_1]; decide), if_pos hs_1, if_neg hc]
      refine lv_aload_n hx hb dX5_combine_82 rfl (lv_at hl 1 rfl) ?_
      refine cvV (n := 1) C w hl dX5_combine_83 hcp gX5_combine_X2_copy rfl (by decide +kernel) rfl rfl (Nat.le_of_ble_eq_true rfl) ⟨by decide, by decide⟩ (by decide) rfl (oP2 hX (by omega)) (fun S3 H locs hp w => ?_)
      refine lv_iconst (v := 1) hx hb dX5_combine_86 (by decide) ?_
      exact hret _ _ _ _ _ _ dX5_combine_87 w (by decide) (Or.inl ⟨rfl, (by rintro (h | h) <;> exact absurd h.1 (by rw [hs_1]; decide)), by rw [hrow, hp]; first | exact hs_rwk S r _ _ _ z hz _ _ | (rw [hlk.1, hlk.2.1]; exact hs_rwk S r _ _ _ z (by rw [← hlk.2.2]; exact hz) _ _)⟩)
    · have hc : 0 < cmpG (sJ S 9 a) (sJ S 9 b) z 0 := by rw [← q2]; exact Int32.not_le.mp c_75
      have hcp := c_X2_copy l G hX S hS r b z hr hb2 hnb (by rw [← hlk.2.2]; exact hz) hz12
      have hrow : cG t (sJ S 9 a) (sJ S 9 b) z = sJ S 9 b := by unfold cG; rw [if_neg (by rw [hs_1]; decide), if_neg (by rw [hs_1]; decide), if_neg (by rw [hs_1]; decide), if_pos hs_1, if_pos hc]
      refine lv_aload_n hx hb dX5_combine_78 rfl (lv_at hl 2 rfl) ?_
      refine lv_goto (tgt := 83) hx hb dX5_combine_79 (by decide) ?_
      refine cvV (n := 1) C w hl dX5_combine_83 hcp gX5_combine_X2_copy rfl (by decide +kernel) rfl rfl (Nat.le_of_ble_eq_true rfl) ⟨by decide, by decide⟩ (by decide) rfl (oP2 hX (by omega)) (fun S3 H locs hp w => ?_)
      refine lv_iconst (v := 1) hx hb dX5_combine_86 (by decide) ?_
      exact hret _ _ _ _ _ _ dX5_combine_87 w (by decide) (Or.inl ⟨rfl, (by rintro (h | h) <;> exact absurd h.1 (by rw [hs_1]; decide)), by rw [hrow, hp]; first | exact hs_rwk S r _ _ _ z hz _ _ | (rw [hlk.1, hlk.2.1]; exact hs_rwk S r _ _ _ z (by rw [← hlk.2.2]; exact hz) _ _)⟩)
  · refine lv_tableIn (tgt := 88) (off := 87) hx hb dX5_combine_1 (by rw [hs_1]; decide) (by rw [hs_1]; decide) (by rw [hs_1]; rfl) (by decide) ?_
    refine lv_aload_n hx hb dX5_combine_88 rfl (lv_at hl 3 rfl) ?_
    refine lv_aload_n hx hb dX5_combine_89 rfl (lv_at hl 1 rfl) ?_
    refine lv_aload_n hx hb dX5_combine_90 rfl (lv_at hl 2 rfl) ?_
    refine cvV (n := 2) C w hl dX5_combine_91 (c_X2_becomeGreaterLevels l G hX S hS r a b z hr ha hb2 hna hnb hz hz12) gX5_combine_X2_becomeGreaterLevels rfl (by decide +kernel) rfl rfl (Nat.le_of_ble_eq_true rfl) ⟨by decide, by decide⟩ (by decide) rfl (oP2 hX (by omega)) (fun S3 H locs hp w => ?_)
    refine lv_iconst (v := 1) hx hb dX5_combine_94 (by decide) ?_
    exact hret _ _ _ _ _ _ dX5_combine_95 w (by decide) (Or.inl ⟨rfl, (by rintro (h | h) <;> exact absurd h.1 (by first | (rw [hs_1]; decide) | (intro e; rw [e] at hs_1; revert hs_1; decide))), by subst hp; unfold cG; rw [if_neg (by first | (rw [hs_1]; decide) | (intro e; rw [e] at hs_1; revert hs_1; decide)), if_neg (by first | (rw [hs_1]; decide) | (intro e; rw [e] at hs_1; revert hs_1; decide)), if_neg (by first | (rw [hs_1]; decide) | (intro e; rw [e] at hs_1; revert hs_1; decide)), if_neg (by first | (rw [hs_1]; decide) | (intro e; rw [e] at hs_1; revert hs_1; decide)), if_pos hs_1]; exact hs_rwk S r _ _ _ z hz _ _⟩)
  · refine lv_tableOut (tgt := 96) hx hb dX5_combine_1 hs_1 (by decide) ?_
    refine lv_aload_n hx hb dX5_combine_96 rfl (lv_at hl 3 rfl) ?_
    refine lv_aload_n hx hb dX5_combine_97 rfl (lv_at hl 1 rfl) ?_
    refine lv_aload_n hx hb dX5_combine_98 rfl (lv_at hl 2 rfl) ?_
    refine cvV (n := 2) C w hl dX5_combine_99 (c_X2_becomeLesserLevels l G hX S hS r a b z hr ha hb2 hna hnb hz hz12) gX5_combine_X2_becomeLesserLevels rfl (by decide +kernel) rfl rfl (Nat.le_of_ble_eq_true rfl) ⟨by decide, by decide⟩ (by decide) rfl (oP2 hX (by omega)) (fun S3 H locs hp w => ?_)
    refine lv_iconst (v := 1) hx hb dX5_combine_102 (by decide) ?_
    exact hret _ _ _ _ _ _ dX5_combine_103 w (by decide) (Or.inl ⟨rfl, (by rintro (h | h) <;> exact absurd h.1 (by first | (rw [hs_1]; decide) | (intro e; rw [e] at hs_1; revert hs_1; decide))), by subst hp; unfold cG; rw [if_neg (by first | (rw [hs_1]; decide) | (intro e; rw [e] at hs_1; revert hs_1; decide)), if_neg (by first | (rw [hs_1]; decide) | (intro e; rw [e] at hs_1; revert hs_1; decide)), if_neg (by first | (rw [hs_1]; decide) | (intro e; rw [e] at hs_1; revert hs_1; decide)), if_neg (by first | (rw [hs_1]; decide) | (intro e; rw [e] at hs_1; revert hs_1; decide)), if_neg (by first | (rw [hs_1]; decide) | (intro e; rw [e] at hs_1; revert hs_1; decide))]; exact hs_rwk S r _ _ _ z hz _ _⟩)

set_option maxHeartbeats 4000000 in
set_option maxRecDepth 100000 in
/-- act -/
theorem c_X5_act (l : Launch) (G : GT) (hX : okX G) (S : PS) (hS : lkX S) (n : Nat) (hn : sI S 5 0 1 = nI n) (hn60 : n ≤ 60)(hsz : ∀ i, i < n → 0 ≤ (sI S 2 i 2).toInt ∧ (sI S 2 i 2).toInt ≤ 12) (t a b : Int32) : CtI l G yX5_act wsX5_act (rmK 4 96) [.ref (gA G 5 0), .int t, .int a, .int b] S (fun v S2 => spAct n (fun j => sI S 2 j 0) (fun j => sI S 2 j 1) (fun j => sI S 2 j 2) (fun j => sJ S 9 j) t a b v (eqN S S2 n ∧ (n = 60 → S2 = S)) (fun g => nw S S2 n (sI S 2 (jn a) 0) (sI S 2 (jn a) 1) (jn (sI S 2 (jn a) 2)) g)) := by
  refine ofCtI (cc := cX5_act) (nL := 5) RX5 (by decide +kernel) rfl rfl (Nat.le_of_ble_eq_true rfl) ?_
  intro p e s m args below meth c A Q ls C w hl hret
  have hx := C.1
  have hb := C.2.1
  have hown := C.2.2.2.1
  have hts := C.2.2.2.2.1
  have hi5 : ∀ w ∈ wsX50, w ∈ wsX5_act := by decide +kernel
  refine lv_aload_n hx hb dX5_act_0 rfl (lv_at hl 0 rfl) ?_
  refine lv_iload_n hx hb dX5_act_1 rfl (lv_at hl 2 rfl) ?_
  refine cvI (n := 1) C w hl dX5_act_2 (c_X5_isNumber l G hX S n hn hn60 a) gX5_act_X5_isNumber rfl (by decide +kernel) rfl rfl (Nat.le_of_ble_eq_true rfl) ⟨by decide, by decide⟩ (by decide) rfl (oP5 hX) (fun v1 S9 H locs hp w => ?_)
  obtain ⟨q1, e0⟩ := hp
  rw [e0] at w
  refine lv_if_eq (tgt := 16) hx hb dX5_act_5 (by decide) (fun c_5 => ?_) (fun c_5 => ?_)
  · refine lv_bipush (v := (-2)) hx hb dX5_act_16 (by decide) ?_
    exact hret _ _ _ _ _ _ dX5_act_18 w (by unfold spAct; rw [if_neg (fun q => by first | exact no_of q1 c_5 q.1 | exact no_of q2 c_13 q.2)]; exact ⟨rfl, eqN.rf S n, fun _ => rfl⟩)
  · refine lv_aload_n hx hb dX5_act_8 rfl (lv_at hl 0 rfl) ?_
    refine lv_iload_n hx hb dX5_act_9 rfl (lv_at hl 3 rfl) ?_
    refine cvI (n := 1) C w hl dX5_act_10 (c_X5_isNumber l G hX S n hn hn60 b) gX5_act_X5_isNumber rfl (by decide +kernel) rfl rfl (Nat.le_of_ble_eq_true rfl) ⟨by decide, by decide⟩ (by decide) rfl (oP5 hX) (fun v2 S9 H locs hp w => ?_)
    obtain ⟨q2, e0⟩ := hp
    rw [e0] at w
    refine lv_if_ne (tgt := 19) hx hb dX5_act_13 (by decide) (fun c_13 => ?_) (fun c_13 => ?_)
    · have ha := yes_of q1 c_5
      have hb2 := yes_of q2 c_13
      have hja := jn_lt ha
      have hjb := jn_lt hb2
      refine lv_iload_n hx hb dX5_act_19 rfl (lv_at hl 1 rfl) ?_
      refine lv_if_lt (tgt := 28) hx hb dX5_act_20 (by decide) (fun c_20 => ?_) (fun c_20 => ?_)
      · have ht : ¬ inN t 6 := inN_n1 c_20
        refine lv_bipush (v := (-3)) hx hb dX5_act_28 (by decide) ?_
        exact hret _ _ _ _ _ _ dX5_act_30 w (by unfold spAct; rw [if_pos ⟨ha, hb2⟩, if_neg ht]; exact ⟨rfl, eqN.rf S n, fun _ => rfl⟩)
      · refine lv_iload_n hx hb dX5_act_23 rfl (lv_at hl 1 rfl) ?_
        refine lv_iconst (v := 5) hx hb dX5_act_24 (by decide) ?_
        refine lv_icmp_le (tgt := 31) hx hb dX5_act_25 (by decide) (fun c_25 => ?_) (fun c_25 => ?_)
        · have ht : inN t 6 := by rw [Int32.lt_iff_toInt_lt, i32_0] at c_20; rw [Int32.le_iff_toInt_le, show (5 : Int32).toInt = 5 from rfl] at c_25; exact ⟨by omega, by omega⟩
          refine lv_aload_n hx hb dX5_act_31 rfl (lv_at hl 0 rfl) ?_
          refine cvI (n := 0) C w hl dX5_act_32 (c_X5_isFull l G hX S n hn hn60) gX5_act_X5_isFull rfl (by decide +kernel) rfl rfl (Nat.le_of_ble_eq_true rfl) ⟨by decide, by decide⟩ (by decide) rfl (oP5 hX) (fun v8 S8 H locs hp w => ?_)
          obtain ⟨qF, e0⟩ := hp
          rw [e0] at w
          refine lv_if_eq (tgt := 41) hx hb dX5_act_35 (by decide) (fun c_35 => ?_) (fun c_35 => ?_)
          · have hnf := no_of qF c_35
            refine lv_aload_n hx hb dX5_act_41 rfl (lv_at hl 0 rfl) ?_
            refine pgQ 5 0 10 (by decide) rfl (by decide) rfl rfl C w hi5 (by decide +kernel) dX5_act_42 (oP5 hX) hS.2.2.1 ?_
            refine lv_iload_n hx hb dX5_act_45 rfl (lv_at hl 2 rfl) ?_
            refine paQ C w dX5_act_46 (oP10 hX (by decide)) (n := jn a) (jn_eq ha) (oN100 hX) (by omega) (by decide) (r1 := jn a) (lk10 hS (by omega)) ?_
            refine lv_aload_n hx hb dX5_act_47 rfl (lv_at hl 0 rfl) ?_
            refine pgQ 5 0 10 (by decide) rfl (by decide) rfl rfl C w hi5 (by decide +kernel) dX5_act_48 (oP5 hX) hS.2.2.1 ?_
            refine lv_iload_n hx hb dX5_act_51 rfl (lv_at hl 3 rfl) ?_
            refine paQ C w dX5_act_52 (oP10 hX (by decide)) (n := jn b) (jn_eq hb2) (oN100 hX) (by omega) (by decide) (r1 := jn b) (lk10 hS (by omega)) ?_
            refine csI (n := 2) C w hl dX5_act_53 (c_X5_failureOfPair l G hX S (jn a) (jn b) (by omega) (by omega)) gX5_act_X5_failureOfPair rfl (by decide +kernel) rfl rfl (Nat.le_of_ble_eq_true rfl) ⟨by decide, by decide⟩ (fun v3 S3 H locs hp w => ?_)
            obtain ⟨q3, e0⟩ := hp
            rw [e0] at w
            refine lv_istore hx hb dX5_act_56 hl (by decide) rfl (fun ls hl => ?_)
            refine lv_iload hx hb dX5_act_58 (lv_at hl 0 rfl) ?_
            refine lv_if_eq (tgt := 66) hx hb dX5_act_60 (by decide) (fun c_60 => ?_) (fun c_60 => ?_)
            · have hpf := pairF_0 (q3.symm.trans c_60)
              have hzz : sI S 2 (jn a) 2 = nI (jn (sI S 2 (jn a) 2)) := nI_jn (hsz _ hja).1
              refine lv_iload_n hx hb dX5_act_66 rfl (lv_at hl 2 rfl) ?_
              refine lv_aload_n hx hb dX5_act_67 rfl (lv_at hl 1 rfl) ?_
              refine pgQ 5 0 10 (by decide) rfl (by decide) rfl rfl C w hi5 (by decide +kernel) dX5_act_68 (oP5 hX) hS.2.2.1 ?_
              refine lv_iload_n hx hb dX5_act_71 rfl (lv_at hl 3 rfl) ?_
              refine paQ C w dX5_act_72 (oP10 hX (by decide)) (n := jn a) (jn_eq ha) (oN100 hX) (by omega) (by decide) (r1 := jn a) (lk10 hS (by omega)) ?_
              refine lv_aload_n hx hb dX5_act_73 rfl (lv_at hl 1 rfl) ?_
              refine pgQ 5 0 10 (by decide) rfl (by decide) rfl rfl C w hi5 (by decide +kernel) dX5_act_74 (oP5 hX) hS.2.2.1 ?_
              refine lv_iload_n hx hb dX5_act_77 rfl (lv_at hl 4 rfl) ?_
              refine paQ C w dX5_act_78 (oP10 hX (by decide)) (n := jn b) (jn_eq hb2) (oN100 hX) (by omega) (by decide) (r1 := jn b) (lk10 hS (by omega)) ?_
              refine lv_aload_n hx hb dX5_act_79 rfl (lv_at hl 1 rfl) ?_
              refine pgQ 5 0 10 (by decide) rfl (by decide) rfl rfl C w hi5 (by decide +kernel) dX5_act_80 (oP5 hX) hS.2.2.1 ?_
              refine lv_aload_n hx hb dX5_act_83 rfl (lv_at hl 1 rfl) ?_
              refine pgI 5 1 (by decide) rfl (by decide) (Or.inl rfl) rfl C w hi5 (by decide +kernel) dX5_act_84 (oP5 hX) (v := nI n) hn ?_
              refine paQ C w dX5_act_87 (oP10 hX (by decide)) rfl (oN100 hX) (by omega) (by decide) (r1 := n) (lk10 hS (by omega)) ?_
              refine csI (n := 4) C w hl dX5_act_88 (c_X5_combine l G hX S hS t n (jn a) (jn b) (jn (sI S 2 (jn a) 2)) (by omega) (by omega) (by omega) (by omega) (by omega) hzz (by have := hsz _ hja; unfold jn at *; omega) hpf.2.2 ht) gX5_act_X5_combine rfl (by decide +kernel) rfl rfl (Nat.le_of_ble_eq_true rfl) ⟨by decide, by decide⟩ (fun v4 S4 H locs hp w => ?_)
              refine lv_if_eq (tgt := 101) hx hb dX5_act_91 (by decide) (fun c_91 => ?_) (fun c_91 => ?_)
              · have hq : ovP t (sJ S 9 (jn a)) (sJ S 9 (jn b)) (jn (sI S 2 (jn a) 2)) ∧ eqN S S4 n := by
                  rcases hp with h | h
                  · rw [h.1] at c_91; exact absurd c_91 (by decide)
                  · exact h.2
                refine lv_bipush (v := (-16)) hx hb dX5_act_101 (by decide) ?_
                exact hret _ _ _ _ _ _ dX5_act_103 w (by unfold spAct; rw [if_pos ⟨ha, hb2⟩, if_pos ht, if_neg hnf, if_pos (by rw [← q3]; exact c_60)]; first | exact Or.inr ⟨hq.1, rfl, hq.2, fun h => absurd h hnf⟩ | exact Or.inl ⟨hq.1, e5, hq.2.nw hn⟩)
              · have hq : ¬ ovP t (sJ S 9 (jn a)) (sJ S 9 (jn b)) (jn (sI S 2 (jn a) 2)) ∧ hs S S4 n (sI S 2 (jn a) 0) (sI S 2 (jn a) 1) (jn (sI S 2 (jn a) 2)) (cG t (sJ S 9 (jn a)) (sJ S 9 (jn b)) (jn (sI S 2 (jn a) 2))) := by
                  rcases hp with h | h
                  · exact h.2
                  · exact absurd h.1 c_91
                refine lv_aload_n hx hb dX5_act_94 rfl (lv_at hl 1 rfl) ?_
                refine cvI (n := 0) C w hl dX5_act_95 (c_X5_takeNumber l G hX S4 n (by rw [hq.2.n]; exact hn) hn60) gX5_act_X5_takeNumber rfl (by decide +kernel) rfl rfl (Nat.le_of_ble_eq_true rfl) ⟨by decide, by decide⟩ (by decide) rfl (oP5 hX) (fun v5 S5 H locs hp5 w => ?_)
                obtain ⟨e5, e6⟩ := hp5
                rw [e6] at w
                refine lv_goto (tgt := 103) hx hb dX5_act_98 (by decide) ?_
                exact hret _ _ _ _ _ _ dX5_act_103 w (by unfold spAct; rw [if_pos ⟨ha, hb2⟩, if_pos ht, if_neg hnf, if_pos (by rw [← q3]; exact c_60)]; first | exact Or.inr ⟨hq.1, rfl, hq.2, fun h => absurd h hnf⟩ | exact Or.inl ⟨hq.1, e5, hq.2.nw hn⟩)
            · refine lv_iload hx hb dX5_act_63 (lv_at hl 0 rfl) ?_
              exact hret _ _ _ _ _ _ dX5_act_65 w (by unfold spAct; rw [if_pos ⟨ha, hb2⟩, if_pos ht, if_neg hnf, if_neg (by rw [← q3]; exact c_60)]; exact ⟨q3, eqN.rf S n, fun _ => rfl⟩)
          · refine lv_bipush (v := (-4)) hx hb dX5_act_38 (by decide) ?_
            exact hret _ _ _ _ _ _ dX5_act_40 w (by unfold spAct; rw [if_pos ⟨ha, hb2⟩, if_pos ht, if_pos (yes_of qF c_35)]; exact ⟨rfl, eqN.rf S n, fun _ => rfl⟩)
        · have ht : ¬ inN t 6 := fun q => by rw [Int32.le_iff_toInt_le, show (5 : Int32).toInt = 5 from rfl] at c_25; have := q.2; omega
          refine lv_bipush (v := (-3)) hx hb dX5_act_28 (by decide) ?_
          exact hret _ _ _ _ _ _ dX5_act_30 w (by unfold spAct; rw [if_pos ⟨ha, hb2⟩, if_neg ht]; exact ⟨rfl, eqN.rf S n, fun _ => rfl⟩)
    · refine lv_bipush (v := (-2)) hx hb dX5_act_16 (by decide) ?_
      exact hret _ _ _ _ _ _ dX5_act_18 w (by unfold spAct; rw [if_neg (fun q => by first | exact no_of q1 c_5 q.1 | exact no_of q2 c_13 q.2)]; exact ⟨rfl, eqN.rf S n, fun _ => rfl⟩)
