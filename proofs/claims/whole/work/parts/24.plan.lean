/-- rule i's weight and the spare trade places -/
def trd (S : PS) (i x y : Nat) : PS := uQ (uQ S 10 1 i (some y)) 1 0 6 (some x)
theorem trd_back {S : PS} {i x y : Nat} (h1 : sQ S 10 1 i = some x) (h2 : sQ S 1 0 6 = some y) : trd (trd S i x y) i y x = S := by
  refine PS_ext (fun _ _ _ => rfl) (fun _ _ _ => rfl) (fun c' r' k' => ?_)
  unfold trd
  rw [sQ_uQ, sQ_uQ, sQ_uQ, sQ_uQ]
  by_cases a : c' = 1 ∧ r' = 0 ∧ k' = 6
  · obtain ⟨rfl, rfl, rfl⟩ := a; simp [h2]
  · rw [if_neg a]
    by_cases b : c' = 10 ∧ r' = 1 ∧ k' = i
    · obtain ⟨rfl, rfl, rfl⟩ := b; simp [h1]
    · rw [if_neg b, if_neg a, if_neg b]
theorem eq4.trade {S S2 : PS} (h : eq4 S S2) (i x y : Nat) : eq4 (trd S i x y) (trd S2 i x y) := (h.uQ _ _ _ _).uQ _ _ _ _
theorem trd_q {S : PS} {i x y c r k : Nat} (a : ¬ (c = 10 ∧ r = 1)) (b : ¬ (c = 1 ∧ k = 6)) : sQ (trd S i x y) c r k = sQ S c r k := by
  unfold trd
  rw [sQ_uQ, if_neg (fun q => b ⟨q.1, q.2.2⟩), sQ_uQ, if_neg (fun q => a ⟨q.1, q.2.1⟩)]
theorem trd_w {S : PS} {i x y j : Nat} : sQ (trd S i x y) 10 1 j = if j = i then some y else sQ S 10 1 j := by
  unfold trd
  rw [sQ_uQ, if_neg (by simp), sQ_uQ]
  by_cases h : j = i
  · rw [if_pos h, if_pos ⟨rfl, rfl, h⟩]
  · rw [if_neg h, if_neg (fun q => h q.2.2)]
theorem trd_s {S : PS} {i x y : Nat} : sQ (trd S i x y) 1 0 6 = some x := by unfold trd; rw [sQ_uQ, if_pos ⟨rfl, rfl, rfl⟩]
theorem lkX_trd {S : PS} (h : lkX S) (i x y : Nat) : lkX (trd S i x y) := by
  obtain ⟨h1, h2, h3⟩ := h
  refine ⟨fun r hr => ?_, fun j hj => ?_, ?_⟩
  · rw [trd_q (by simp) (by simp)]; exact h1 r hr
  · rw [trd_q (by simp) (by simp)]; exact h2 j hj
  · simp only [trd_q (show ¬ (5 = 10 ∧ 0 = 1) by simp) (show ¬ (5 = 1 ∧ _ = 6) by simp), trd_q (show ¬ (3 = 10 ∧ 0 = 1) by simp) (show ¬ (3 = 1 ∧ _ = 6) by simp), trd_q (show ¬ (0 = 10 ∧ 0 = 1) by simp) (show ¬ (0 = 1 ∧ _ = 6) by simp), trd_q (show ¬ (1 = 10 ∧ 0 = 1) by simp) (show ¬ (1 = 1 ∧ 0 = 6) by simp), trd_q (show ¬ (1 = 10 ∧ 0 = 1) by simp) (show ¬ (1 = 1 ∧ 1 = 6) by simp), trd_q (show ¬ (1 = 10 ∧ 0 = 1) by simp) (show ¬ (1 = 1 ∧ 2 = 6) by simp), trd_q (show ¬ (1 = 10 ∧ 0 = 1) by simp) (show ¬ (1 = 1 ∧ 4 = 6) by simp), trd_q (show ¬ (1 = 10 ∧ 0 = 1) by simp) (show ¬ (1 = 1 ∧ 7 = 6) by simp), trd_q (show ¬ (1 = 10 ∧ 0 = 1) by simp) (show ¬ (1 = 1 ∧ 8 = 6) by simp)]
    exact h3
theorem plX.trade {S : PS} {nr z : Nat} {wr : Nat → Nat} (h : plX S nr wr z) {i x y : Nat} (hy : y < 79) : plX (trd S i x y) nr (va_up wr i y) z := by
  refine ⟨lkX_trd h.1 i x y, h.n, h.n12, fun j hj => ?_, fun j hj => h.c hj, h.z, h.z12⟩
  rw [trd_w]
  unfold va_up
  by_cases q : j = i
  · rw [if_pos q, if_pos q]; exact ⟨rfl, hy⟩
  · rw [if_neg q, if_neg q]; exact ⟨h.w hj, h.w79 hj⟩

set_option maxHeartbeats 4000000 in
set_option maxRecDepth 100000 in
/-- Plan.begin -/
theorem c_X1_begin (l : Launch) (G : GT) (hX : okX G) (S : PS) (hS : lkX S) (a : Nat) (ha : a < 79) : CtV l G yX1_begin wsX1_begin (rmK 2 44) [.ref (gA G 1 0), .ref (gA G 2 a)] S (fun S2 => S2 = uI (uI (fm S 78 (sI S 2 a 0) (sI S 2 a 1) (sI S 2 a 2)) 1 0 3 0) 1 0 5 0) := by
  refine ofCtV (cc := cX1_begin) (nL := 2) RX1 (by decide +kernel) rfl rfl (Nat.le_of_ble_eq_true rfl) ?_
  intro p e s m args below meth c A Q ls C w hl hret
  have hx := C.1
  have hb := C.2.1
  have hown := C.2.2.2.1
  have hts := C.2.2.2.2.1
  have hi1 : ∀ w ∈ wsX10, w ∈ wsX1_begin := by decide +kernel
  refine lv_aload_n hx hb dX1_begin_0 rfl (lv_at hl 0 rfl) ?_
  refine pgQ 1 0 2 (by decide) rfl (by decide) rfl rfl C w hi1 (by decide +kernel) dX1_begin_1 (oP1 hX) hS.2.2.2.2.2.2.2.2.2.2.1 ?_
  refine lv_aload_n hx hb dX1_begin_4 rfl (lv_at hl 1 rfl) ?_
  refine cvV (n := 1) C w hl dX1_begin_5 (c_X2_formLike l G hX S 78 a (by decide) (by assumption)) gX1_begin_X2_formLike rfl (by decide +kernel) rfl rfl (Nat.le_of_ble_eq_true rfl) ⟨by decide, by decide⟩ (by decide) rfl (oP2 hX (by decide)) (fun S2 H locs hp w => ?_)
  subst hp
  refine lv_aload_n hx hb dX1_begin_8 rfl (lv_at hl 0 rfl) ?_
  refine lv_iconst (v := 0) hx hb dX1_begin_9 (by decide) ?_
  refine ppI 1 3 (by decide) rfl (by decide) rfl rfl tyX1_ok nmX1 rfl (by decide +kernel) C w hi1 (by decide +kernel) dX1_begin_10 (oP1 hX) (fun H locs w => ?_)
  refine lv_aload_n hx hb dX1_begin_13 rfl (lv_at hl 0 rfl) ?_
  refine lv_iconst (v := 0) hx hb dX1_begin_14 (by decide) ?_
  refine ppI 1 5 (by decide) rfl (by decide) rfl rfl tyX1_ok nmX1 rfl (by decide +kernel) C w hi1 (by decide +kernel) dX1_begin_15 (oP1 hX) (fun H locs w => ?_)
  exact hret _ _ _ _ _ dX1_begin_18 w rfl

set_option maxHeartbeats 4000000 in
set_option maxRecDepth 100000 in
/-- Plan.hasRule -/
theorem c_X1_hasRule (l : Launch) (G : GT) (hX : okX G) (S : PS) (k : Int32) : CtI l G yX1_hasRule wsX1_hasRule (rmK 0 0) [.ref (gA G 1 0), .int k] S (fun v S2 => v = (if k < 0 ∨ sI S 1 0 3 ≤ k then 0 else 1) ∧ S2 = S) := by
  refine ofCtZ (cc := cX1_hasRule) (nL := 2) RX1 (by decide +kernel) rfl rfl (Nat.le_of_ble_eq_true rfl) ?_
  intro p e s m args below meth c A Q ls C w hl hret
  have hx := C.1
  have hb := C.2.1
  have hown := C.2.2.2.1
  have hts := C.2.2.2.2.1
  have hi1 : ∀ w ∈ wsX10, w ∈ wsX1_hasRule := by decide +kernel
  refine lv_iload_n hx hb dX1_hasRule_0 rfl (lv_at hl 1 rfl) ?_
  refine lv_if_lt (tgt := 16) hx hb dX1_hasRule_1 (by decide) (fun c_1 => ?_) (fun c_1 => ?_)
  · refine lv_iconst (v := 0) hx hb dX1_hasRule_16 (by decide) ?_
    exact hret _ _ _ _ _ _ dX1_hasRule_17 w (by decide) ⟨by simp_all, rfl⟩
  · refine lv_iload_n hx hb dX1_hasRule_4 rfl (lv_at hl 1 rfl) ?_
    refine lv_aload_n hx hb dX1_hasRule_5 rfl (lv_at hl 0 rfl) ?_
    refine pgI 1 3 (by decide) rfl (by decide) (Or.inl rfl) rfl C w hi1 (by decide +kernel) dX1_hasRule_6 (oP1 hX) rfl ?_
    refine lv_icmp_ge (tgt := 16) hx hb dX1_hasRule_9 (by decide) (fun c_9 => ?_) (fun c_9 => ?_)
    · refine lv_iconst (v := 0) hx hb dX1_hasRule_16 (by decide) ?_
      exact hret _ _ _ _ _ _ dX1_hasRule_17 w (by decide) ⟨by simp_all, rfl⟩
    · refine lv_iconst (v := 1) hx hb dX1_hasRule_12 (by decide) ?_
      refine lv_goto (tgt := 17) hx hb dX1_hasRule_13 (by decide) ?_
      exact hret _ _ _ _ _ _ dX1_hasRule_17 w (by decide) ⟨by simp_all, rfl⟩

set_option maxHeartbeats 4000000 in
set_option maxRecDepth 100000 in
/-- Plan.addRule -/
theorem c_X1_addRule (l : Launch) (G : GT) (hX : okX G) (S : PS) (nr z : Nat) (wr : Nat → Nat) (hpl : plX S nr wr z) (a za : Nat) (ha : a < 79) (hna : a ≠ wr nr) (h12 : nr < 12) (hza : sI S 2 a 2 = nI za) (hza12 : za ≤ 12) : CtI l G yX1_addRule wsX1_addRule (rmK 3 66) [.ref (gA G 1 0), .ref (gA G 2 a)] S (fun v S2 => v = nI nr ∧ S2 = uI (uI (rwk (fm S (wr nr) (sI S 2 a 0) (sI S 2 a 1) (sI S 2 a 2)) (wr nr) (sJ S 9 a) (sJ S 9 (wr nr)) za) 8 0 nr 0) 1 0 3 (nI (nr + 1))) := by
  refine ofCtI (cc := cX1_addRule) (nL := 2) RX1 (by decide +kernel) rfl rfl (Nat.le_of_ble_eq_true rfl) ?_
  intro p e s m args below meth c A Q ls C w hl hret
  have hx := C.1
  have hb := C.2.1
  have hown := C.2.2.2.1
  have hts := C.2.2.2.2.1
  have hi1 : ∀ w ∈ wsX10, w ∈ wsX1_addRule := by decide +kernel
  refine lv_aload_n hx hb dX1_addRule_0 rfl (lv_at hl 0 rfl) ?_
  refine pgQ 1 1 10 (by decide) rfl (by decide) rfl rfl C w hi1 (by decide +kernel) dX1_addRule_1 (oP1 hX) (hpl.lk.2.2.2.2.2.2.2.2.2.2.2.1) ?_
  refine lv_aload_n hx hb dX1_addRule_4 rfl (lv_at hl 0 rfl) ?_
  refine pgI 1 3 (by decide) rfl (by decide) (Or.inl rfl) rfl C w hi1 (by decide +kernel) dX1_addRule_5 (oP1 hX) (v := nI nr) hpl.n ?_
  refine paQ C w dX1_addRule_8 (oP10 hX (by decide)) rfl (oN101 hX) (by omega) (by decide) (r1 := wr nr) (hpl.w h12) ?_
  refine lv_aload_n hx hb dX1_addRule_9 rfl (lv_at hl 1 rfl) ?_
  refine cvV (n := 1) C w hl dX1_addRule_10 (c_X2_copy l G hX S hpl.lk (wr nr) a za (hpl.w79 h12) ha hna hza hza12) gX1_addRule_X2_copy rfl (by decide +kernel) rfl rfl (Nat.le_of_ble_eq_true rfl) ⟨by decide, by decide⟩ (by decide) rfl (oP2 hX (hpl.w79 h12)) (fun S2 H locs hp w => ?_)
  subst hp
  refine lv_aload_n hx hb dX1_addRule_13 rfl (lv_at hl 0 rfl) ?_
  refine pgQ 1 2 8 (by decide) rfl (by decide) rfl rfl C w hi1 (by decide +kernel) dX1_addRule_14 (oP1 hX) (hpl.lk.2.2.2.2.2.2.2.2.2.2.2.2.1) ?_
  refine lv_aload_n hx hb dX1_addRule_17 rfl (lv_at hl 0 rfl) ?_
  refine pgI 1 3 (by decide) rfl (by decide) (Or.inl rfl) rfl C w hi1 (by decide +kernel) dX1_addRule_18 (oP1 hX) (v := nI nr) (by rw [sI_rwk, sI_fm_r (by simp)]; exact hpl.n) ?_
  refine lv_iconst (v := 0) hx hb dX1_addRule_21 (by decide) ?_
  refine psI C w dX1_addRule_22 (oP8 hX) rfl (oN8 hX) (by omega) (by decide) (fun H locs w => ?_)
  refine lv_aload_n hx hb dX1_addRule_23 rfl (lv_at hl 0 rfl) ?_
  refine lv_dup hx hb dX1_addRule_24 rfl ?_
  refine pgI 1 3 (by decide) rfl (by decide) (Or.inl rfl) rfl C w hi1 (by decide +kernel) dX1_addRule_25 (oP1 hX) (v := nI nr) (by rw [sI_uI, if_neg (by simp), sI_rwk, sI_fm_r (by simp)]; exact hpl.n) ?_
  refine lv_iconst (v := 1) hx hb dX1_addRule_28 (by decide) ?_
  refine lv_iadd hx hb dX1_addRule_29 ?_
  refine ppI 1 3 (by decide) rfl (by decide) rfl rfl tyX1_ok nmX1 rfl (by decide +kernel) C w hi1 (by decide +kernel) dX1_addRule_30 (oP1 hX) (fun H locs w => ?_)
  rw [nI_1] at w
  refine lv_aload_n hx hb dX1_addRule_33 rfl (lv_at hl 0 rfl) ?_
  refine pgI 1 3 (by decide) rfl (by decide) (Or.inl rfl) rfl C w hi1 (by decide +kernel) dX1_addRule_34 (oP1 hX) (v := nI (nr + 1)) (by rw [sI_uI, if_pos ⟨rfl, rfl, rfl⟩]) ?_
  refine lv_iconst (v := 1) hx hb dX1_addRule_37 (by decide) ?_
  refine lv_isub hx hb dX1_addRule_38 ?_
  exact hret _ _ _ _ _ _ dX1_addRule_39 w ⟨nI_pred nr, rfl⟩

set_option maxHeartbeats 4000000 in
set_option maxRecDepth 100000 in
/-- Plan.tradeSpare -/
theorem c_X1_tradeSpare (l : Launch) (G : GT) (hX : okX G) (S : PS) (nr z : Nat) (wr : Nat → Nat) (hpl : plX S nr wr z) (i sp : Nat) (hi : i < 12) (hsp : sQ S 1 0 6 = some sp) (hs79 : sp < 79) : CtV l G yX1_tradeSpare wsX1_tradeSpare (rmK 0 0) [.ref (gA G 1 0), .int (nI i)] S (fun S2 => S2 = trd S i (wr i) sp) := by
  refine ofCtV (cc := cX1_tradeSpare) (nL := 3) RX1 (by decide +kernel) rfl rfl (Nat.le_of_ble_eq_true rfl) ?_
  intro p e s m args below meth c A Q ls C w hl hret
  have hx := C.1
  have hb := C.2.1
  have hown := C.2.2.2.1
  have hts := C.2.2.2.2.1
  have hi1 : ∀ w ∈ wsX10, w ∈ wsX1_tradeSpare := by decide +kernel
  refine lv_aload_n hx hb dX1_tradeSpare_0 rfl (lv_at hl 0 rfl) ?_
  refine pgQ 1 1 10 (by decide) rfl (by decide) rfl rfl C w hi1 (by decide +kernel) dX1_tradeSpare_1 (oP1 hX) (hpl.lk.2.2.2.2.2.2.2.2.2.2.2.1) ?_
  refine lv_iload_n hx hb dX1_tradeSpare_4 rfl (lv_at hl 1 rfl) ?_
  refine paQ C w dX1_tradeSpare_5 (oP10 hX (by decide)) rfl (oN101 hX) (by omega) (by decide) (r1 := wr i) (hpl.w hi) ?_
  refine lv_astore_n hx hb dX1_tradeSpare_6 rfl hl (by decide) rfl (fun ls hl => ?_)
  refine lv_aload_n hx hb dX1_tradeSpare_7 rfl (lv_at hl 1 rfl) ?_
  refine pgQ 1 1 10 (by decide) rfl (by decide) rfl rfl C w hi1 (by decide +kernel) dX1_tradeSpare_8 (oP1 hX) (hpl.lk.2.2.2.2.2.2.2.2.2.2.2.1) ?_
  refine lv_iload_n hx hb dX1_tradeSpare_11 rfl (lv_at hl 2 rfl) ?_
  refine lv_aload_n hx hb dX1_tradeSpare_12 rfl (lv_at hl 1 rfl) ?_
  refine pgQ 1 6 2 (by decide) rfl (by decide) rfl rfl C w hi1 (by decide +kernel) dX1_tradeSpare_13 (oP1 hX) (r1 := sp) hsp ?_
  refine psQ C w dX1_tradeSpare_16 (oP10 hX (by decide)) (oP2 hX hs79) rfl (oN101 hX) (by omega) (by decide) (fun H locs w => ?_)
  refine lv_aload_n hx hb dX1_tradeSpare_17 rfl (lv_at hl 1 rfl) ?_
  refine lv_aload_n hx hb dX1_tradeSpare_18 rfl (lv_at hl 0 rfl) ?_
  refine ppQ (D := "LevelScores$Score") 1 6 2 (by decide) rfl (by decide) rfl rfl tyX1_ok nmX1 rfl (by decide +kernel) C w hi1 (by decide +kernel) dX1_tradeSpare_19 (oP1 hX) (fun H locs w => ?_)
  exact hret _ _ _ _ _ dX1_tradeSpare_22 w rfl

set_option maxHeartbeats 4000000 in
set_option maxRecDepth 100000 in
/-- Plan.changeWeight -/
theorem c_X1_changeWeight (l : Launch) (G : GT) (hX : okX G) (S : PS) (nr z : Nat) (wr : Nat → Nat) (hpl : plX S nr wr z) (i sp a : Nat) (hi : i < 12) (hsp : sQ S 1 0 6 = some sp) (hs79 : sp < 79) (hs78 : sp ≠ 78) (ha : a < 79) (hna : a ≠ sp) (hza : sI S 2 a 2 = nI z) : CtI l G yX1_changeWeight wsX1_changeWeight (rmK 4 93) [.ref (gA G 1 0), .int (nI i), .ref (gA G 2 a)] S (fun v S2 => (v = 1 ∧ fitS (trd (rwk (fm S sp (sI S 2 a 0) (sI S 2 a 1) (sI S 2 a 2)) sp (sJ S 9 a) (sJ S 9 sp) z) i (wr i) sp) nr (va_up wr i sp) z ∧ eq4 (trd (rwk (fm S sp (sI S 2 a 0) (sI S 2 a 1) (sI S 2 a 2)) sp (sJ S 9 a) (sJ S 9 sp) z) i (wr i) sp) S2) ∨ (v = 0 ∧ ¬ fitS (trd (rwk (fm S sp (sI S 2 a 0) (sI S 2 a 1) (sI S 2 a 2)) sp (sJ S 9 a) (sJ S 9 sp) z) i (wr i) sp) nr (va_up wr i sp) z ∧ eq4 (rwk (fm S sp (sI S 2 a 0) (sI S 2 a 1) (sI S 2 a 2)) sp (sJ S 9 a) (sJ S 9 sp) z) S2)) := by
  refine ofCtZ (cc := cX1_changeWeight) (nL := 3) RX1 (by decide +kernel) rfl rfl (Nat.le_of_ble_eq_true rfl) ?_
  intro p e s m args below meth c A Q ls C w hl hret
  have hx := C.1
  have hb := C.2.1
  have hown := C.2.2.2.1
  have hts := C.2.2.2.2.1
  have hi1 : ∀ w ∈ wsX10, w ∈ wsX1_changeWeight := by decide +kernel
  refine lv_aload_n hx hb dX1_changeWeight_0 rfl (lv_at hl 0 rfl) ?_
  refine pgQ 1 6 2 (by decide) rfl (by decide) rfl rfl C w hi1 (by decide +kernel) dX1_changeWeight_1 (oP1 hX) (r1 := sp) hsp ?_
  refine lv_aload_n hx hb dX1_changeWeight_4 rfl (lv_at hl 2 rfl) ?_
  refine cvV (n := 1) C w hl dX1_changeWeight_5 (c_X2_copy l G hX S hpl.lk sp a z hs79 ha hna hza hpl.z12) gX1_changeWeight_X2_copy rfl (by decide +kernel) rfl rfl (Nat.le_of_ble_eq_true rfl) ⟨by decide, by decide⟩ (by decide) rfl (oP2 hX hs79) (fun S2 H locs hp w => ?_)
  subst hp
  have hpl := hpl.row hs78 (sI S 2 a 0) (sI S 2 a 1) (sI S 2 a 2) (sJ S 9 a) (sJ S 9 sp) z
  refine lv_aload_n hx hb dX1_changeWeight_8 rfl (lv_at hl 0 rfl) ?_
  refine lv_iload_n hx hb dX1_changeWeight_9 rfl (lv_at hl 1 rfl) ?_
  refine cvV (n := 1) C w hl dX1_changeWeight_10 (c_X1_tradeSpare l G hX _ nr z wr hpl i sp hi hsp hs79) gX1_changeWeight_X1_tradeSpare rfl (by decide +kernel) rfl rfl (Nat.le_of_ble_eq_true rfl) ⟨by decide, by decide⟩ (by decide) rfl (oP1 hX) (fun S2 H locs hp w => ?_)
  subst hp
  have hpl2 := hpl.trade (i := i) (x := wr i) hs79
  refine lv_aload_n hx hb dX1_changeWeight_13 rfl (lv_at hl 0 rfl) ?_
  refine cvI (n := 0) C w hl dX1_changeWeight_14 (c_X1_allFit l G hX _ nr z _ hpl2) gX1_changeWeight_X1_allFit rfl (by decide +kernel) rfl rfl (Nat.le_of_ble_eq_true rfl) ⟨by decide, by decide⟩ (by decide) rfl (oP1 hX) (fun v2 S2 H locs hp w => ?_)
  refine lv_if_ne (tgt := 27) hx hb dX1_changeWeight_17 (by decide) (fun c_17 => ?_) (fun c_17 => ?_)
  · refine lv_iconst (v := 1) hx hb dX1_changeWeight_27 (by decide) ?_
    exact hret _ _ _ _ _ _ dX1_changeWeight_28 w (by decide) (Or.inl ⟨rfl, yes_of hp.1 c_17, hp.2⟩)
  · refine lv_aload_n hx hb dX1_changeWeight_20 rfl (lv_at hl 0 rfl) ?_
    refine lv_iload_n hx hb dX1_changeWeight_21 rfl (lv_at hl 1 rfl) ?_
    refine cvV (n := 1) C w hl dX1_changeWeight_22 (c_X1_tradeSpare l G hX S2 nr z _ (hpl2.of4 hp.2) i (wr i) hi (by rw [hp.2.2.1]; exact trd_s) (hpl.w79 hi)) gX1_changeWeight_X1_tradeSpare rfl (by decide +kernel) rfl rfl (Nat.le_of_ble_eq_true rfl) ⟨by decide, by decide⟩ (by decide) rfl (oP1 hX) (fun S3 H locs hp3 w => ?_)
    
    refine lv_iconst (v := 0) hx hb dX1_changeWeight_25 (by decide) ?_
    exact hret _ _ _ _ _ _ dX1_changeWeight_26 w (by decide) (Or.inr ⟨rfl, no_of hp.1 c_17, by have h9 := hp.2.trade i sp (wr i); rw [trd_back (hpl.w hi) hsp] at h9; rw [hp3, show va_up wr i sp i = sp from va_up_self _ _ _]; exact h9⟩)
