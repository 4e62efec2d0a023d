theorem yes_of {v : Int32} {P : Prop} (h : (v = 1 ∧ P) ∨ (v = 0 ∧ ¬ P)) (c : ¬ v = 0) : P := by
  rcases h with h | h
  · exact h.2
  · exact absurd h.1 c
theorem no_of {v : Int32} {P : Prop} (h : (v = 1 ∧ P) ∨ (v = 0 ∧ ¬ P)) (c : v = 0) : ¬ P := by
  rcases h with h | h
  · rw [h.1] at c; exact absurd c (by decide)
  · exact h.2
theorem b_of {v : Int32} {P : Prop} (h : (v = 1 ∧ P) ∨ (v = 0 ∧ ¬ P)) : v = 0 ∨ v = 1 := by
  rcases h with h | h
  · exact Or.inr h.1
  · exact Or.inl h.1
theorem imp_of {v : Int32} {P P' : Prop} (e : P ↔ P') (h : (v = 1 ∧ P) ∨ (v = 0 ∧ ¬ P)) : (v = 1 ∧ P') ∨ (v = 0 ∧ ¬ P') := by
  rcases h with h | h
  · exact Or.inl ⟨h.1, e.mp h.2⟩
  · exact Or.inr ⟨h.1, fun q => h.2 (e.mpr q)⟩
theorem uI_back (S : PS) (c r k : Nat) (v : Int32) : uI (uI S c r k v) c r k (sI S c r k) = S := by
  refine PS_ext (fun c' r' k' => ?_) (fun _ _ _ => rfl) (fun _ _ _ => rfl)
  rw [sI_uI, sI_uI]
  by_cases h : c' = c ∧ r' = r ∧ k' = k
  · obtain ⟨rfl, rfl, rfl⟩ := h; rw [if_pos ⟨rfl, rfl, rfl⟩]
  · rw [if_neg h, if_neg h]
theorem plX.cnt {S : PS} {nr z : Nat} {wr : Nat → Nat} (h : plX S nr wr z) {i : Nat} {v : Int32} (hv : 0 ≤ v.toInt ∧ v.toInt ≤ 1000000) : plX (uI S 8 0 i v) nr wr z := by
  refine ⟨lkX_of h.1 rfl, by rw [sI_uI, if_neg (by simp)]; exact h.n, h.n12, h.2.2.2.1, fun j hj => ?_, by rw [sI_uI, if_neg (by simp)]; exact h.z, h.z12⟩
  rw [sI_uI]
  by_cases q : j = i
  · rw [if_pos ⟨rfl, rfl, q⟩]; exact hv
  · rw [if_neg (fun x => q x.2.2)]; exact h.c hj
theorem plX.row {S : PS} {nr z : Nat} {wr : Nat → Nat} (h : plX S nr wr z) {a : Nat} (ha : a ≠ 78) (x y t : Int32) (g o : Nat → Int64) (k : Nat) : plX (rwk (fm S a x y t) a g o k) nr wr z := by
  refine ⟨lkX_of h.1 rfl, ?_, h.n12, h.2.2.2.1, fun j hj => ?_, ?_, h.z12⟩
  · rw [sI_rwk, sI_fm_r (by simp)]; exact h.n
  · rw [sI_rwk, sI_fm_r (by simp)]; exact h.c hj
  · rw [sI_rwk, sI_fm_r (fun q => ha q.2.symm)]; exact h.z

set_option maxHeartbeats 4000000 in
set_option maxRecDepth 100000 in
/-- Plan.fitsAt -/
theorem c_X1_fitsAt (l : Launch) (G : GT) (hX : okX G) (S : PS) (nr z : Nat) (wr : Nat → Nat) (hpl : plX S nr wr z) (k : Nat) (hk : k < 12) : CtI l G yX1_fitsAt wsX1_fitsAt (rmK 2 50) [.ref (gA G 1 0), .int (nI k)] S (fun v S2 => ((v = 1 ∧ fitA (fun i => sJ S 9 (wr i) k) (sI S 8 0) nr) ∨ (v = 0 ∧ ¬ fitA (fun i => sJ S 9 (wr i) k) (sI S 8 0) nr)) ∧ eq4 S S2) := by
  refine ofCtZ (cc := cX1_fitsAt) (nL := 3) RX1 (by decide +kernel) rfl rfl (Nat.le_of_ble_eq_true rfl) ?_
  intro p e s m args below meth c A Q ls C w hl hret
  have hx := C.1
  have hb := C.2.1
  have hown := C.2.2.2.1
  have hts := C.2.2.2.2.1
  have hi1 : ∀ w ∈ wsX10, w ∈ wsX1_fitsAt := by decide +kernel
  refine lv_iconst (v := 0) hx hb dX1_fitsAt_0 (by decide) ?_
  refine lv_istore_n hx hb dX1_fitsAt_1 rfl hl (by decide) rfl (fun ls hl => ?_)
  have loop_2 : ∀ (n : Nat) (i : Nat) (S1 : PS) (H : Heap) (locs : List Loc) (ls : Array Slot), i + n = nr → eq4 S S1 → (∀ j, j < i → in64 ((sJ S 9 (wr j) k).toInt * (sI S 8 0 j).toInt)) → Wd G A s.heap S1 H locs → lv_has ls 3 [(0, .ref (gA G 1 0)), (1, .int (nI k)), (2, .int (nI i))] → W p l e (rmK 2 50) s m args below meth c H locs 0 0 Q (F0 m 2 ls []) := by
    intro n
    induction n with
    | zero =>
      intro i S1 H locs ls hi hE hI w hl
      have hpl := hpl.of4 hE
      have h12 := hpl.n12
      refine lv_iload_n hx hb dX1_fitsAt_2 rfl (lv_at hl 2 rfl) ?_
      refine lv_aload_n hx hb dX1_fitsAt_3 rfl (lv_at hl 0 rfl) ?_
      refine pgI 1 3 (by decide) rfl (by decide) (Or.inl rfl) rfl C w hi1 (by decide +kernel) dX1_fitsAt_4 (oP1 hX) (v := nI nr) hpl.n ?_
      refine lv_icmp_ge (tgt := 34) hx hb dX1_fitsAt_7 (by decide) (fun c_7 => ?_) (fun c_7 => absurd (nI_le (by omega) (by omega)) c_7)
      refine lv_aload_n hx hb dX1_fitsAt_34 rfl (lv_at hl 0 rfl) ?_
      refine lv_iload_n hx hb dX1_fitsAt_35 rfl (lv_at hl 1 rfl) ?_
      refine cvV (n := 1) C w hl dX1_fitsAt_36 (c_X1_priceSum l G hX S1 nr z wr hpl k hk) gX1_fitsAt_X1_priceSum rfl (by decide +kernel) rfl rfl (Nat.le_of_ble_eq_true rfl) ⟨by decide, by decide⟩ (by decide) rfl (oP1 hX) (fun S2 H locs hp w => ?_)
      subst hp
      refine lv_aload_n hx hb dX1_fitsAt_39 rfl (lv_at hl 0 rfl) ?_
      refine pgQ 1 7 4 (by decide) rfl (by decide) rfl rfl C w hi1 (by decide +kernel) dX1_fitsAt_40 (oP1 hX) (hpl.lk.2.2.2.2.2.2.2.2.2.2.2.2.2.2.1) ?_
      refine cvI (n := 0) C w hl dX1_fitsAt_43 (c_X4_fits l G hX _ 1 _ (by decide) (sJ_wd_0 _ _ _) (sJ_wd_1 _ _ _) (by have := sumV_bd (W := fun i => sJ S1 9 (wr i) k) (C := sI S1 8 0) nr (fun i hi => hpl.c hi); omega) (by have := sumV_bd (W := fun i => sJ S1 9 (wr i) k) (C := sI S1 8 0) nr (fun i hi => hpl.c hi); omega)) gX1_fitsAt_X4_fits rfl (by decide +kernel) rfl rfl (Nat.le_of_ble_eq_true rfl) ⟨by decide, by decide⟩ (by decide) rfl (oP4 hX (by decide)) (fun v4 S4 H locs hp w => ?_)
      obtain ⟨hq, e0⟩ := hp
      rw [e0] at w
      rw [hE.1, show (fun i => sJ S1 9 (wr i) k) = fun i => sJ S 9 (wr i) k from funext fun i => hE.j9 _ _] at hq
      exact hret _ _ _ _ _ _ dX1_fitsAt_46 w (b_of hq) ⟨imp_of ⟨fun q => ⟨fun j hj => hI j (by omega), q⟩, fun q => q.2⟩ hq, hE.tr (eq4_wd _ _ _)⟩
    | succ n ih =>
      intro i S1 H locs ls hi hE hI w hl
      have hpl := hpl.of4 hE
      have h12 := hpl.n12
      refine lv_iload_n hx hb dX1_fitsAt_2 rfl (lv_at hl 2 rfl) ?_
      refine lv_aload_n hx hb dX1_fitsAt_3 rfl (lv_at hl 0 rfl) ?_
      refine pgI 1 3 (by decide) rfl (by decide) (Or.inl rfl) rfl C w hi1 (by decide +kernel) dX1_fitsAt_4 (oP1 hX) (v := nI nr) hpl.n ?_
      refine lv_icmp_ge (tgt := 34) hx hb dX1_fitsAt_7 (by decide) (fun c_7 => absurd c_7 (nI_ge (by omega) (by omega))) (fun c_7 => ?_)
      refine lv_aload_n hx hb dX1_fitsAt_10 rfl (lv_at hl 0 rfl) ?_
      refine lv_iload_n hx hb dX1_fitsAt_11 rfl (lv_at hl 2 rfl) ?_
      refine lv_iload_n hx hb dX1_fitsAt_12 rfl (lv_at hl 1 rfl) ?_
      refine cvV (n := 2) C w hl dX1_fitsAt_13 (c_X1_pricePart l G hX S1 nr z wr hpl i k (by omega) hk) gX1_fitsAt_X1_pricePart rfl (by decide +kernel) rfl rfl (Nat.le_of_ble_eq_true rfl) ⟨by decide, by decide⟩ (by decide) rfl (oP1 hX) (fun S2 H locs hp w => ?_)
      subst hp
      refine lv_aload_n hx hb dX1_fitsAt_16 rfl (lv_at hl 0 rfl) ?_
      refine pgQ 1 8 4 (by decide) rfl (by decide) rfl rfl C w hi1 (by decide +kernel) dX1_fitsAt_17 (oP1 hX) (hpl.lk.2.2.2.2.2.2.2.2.2.2.2.2.2.2.2) ?_
      refine cvI (n := 0) C w hl dX1_fitsAt_20 (c_X4_fits l G hX _ 2 _ (by decide) (sJ_wd_0 _ _ _) (sJ_wd_1 _ _ _) (by have := prod_bd (sJ S1 9 (wr i) k) (hpl.c (i := i) (by omega)); omega) (by have := prod_bd (sJ S1 9 (wr i) k) (hpl.c (i := i) (by omega)); omega)) gX1_fitsAt_X4_fits rfl (by decide +kernel) rfl rfl (Nat.le_of_ble_eq_true rfl) ⟨by decide, by decide⟩ (by decide) rfl (oP4 hX (by decide)) (fun v4 S4 H locs hp w => ?_)
      obtain ⟨hq, e0⟩ := hp
      rw [e0] at w
      refine lv_if_ne (tgt := 28) hx hb dX1_fitsAt_23 (by decide) (fun c_23 => ?_) (fun c_23 => ?_)
      · refine lv_iinc (v := nI (i + 1)) hx hb dX1_fitsAt_28 hl (k := 2) rfl (nI_1 i) (by decide) rfl (fun ls hl => ?_)
        refine lv_goto (tgt := 2) hx hb dX1_fitsAt_31 (by decide) ?_
        exact ih (i + 1) _ _ _ _ (by omega) (hE.tr (eq4_wd _ _ _)) (lt_s hI (by have := yes_of hq c_23; rwa [hE.j9, hE.1] at this)) w (lv_sub hl [1, 2, 0] rfl)
      · refine lv_iconst (v := 0) hx hb dX1_fitsAt_26 (by decide) ?_
        exact hret _ _ _ _ _ _ dX1_fitsAt_27 w (by decide) ⟨Or.inr ⟨rfl, fun q => no_of hq c_23 (by rw [hE.j9, hE.1]; exact q.1 i (by omega))⟩, hE.tr (eq4_wd _ _ _)⟩
  exact loop_2 nr 0 S _ _ _ (by omega) (eq4.rf S) lt_0 w (lv_sub hl [1, 2, 0] rfl)

set_option maxHeartbeats 4000000 in
set_option maxRecDepth 100000 in
/-- Plan.allFit -/
theorem c_X1_allFit (l : Launch) (G : GT) (hX : okX G) (S : PS) (nr z : Nat) (wr : Nat → Nat) (hpl : plX S nr wr z) : CtI l G yX1_allFit wsX1_allFit (rmK 3 72) [.ref (gA G 1 0)] S (fun v S2 => ((v = 1 ∧ fitS S nr wr z) ∨ (v = 0 ∧ ¬ fitS S nr wr z)) ∧ eq4 S S2) := by
  refine ofCtZ (cc := cX1_allFit) (nL := 2) RX1 (by decide +kernel) rfl rfl (Nat.le_of_ble_eq_true rfl) ?_
  intro p e s m args below meth c A Q ls C w hl hret
  have hx := C.1
  have hb := C.2.1
  have hown := C.2.2.2.1
  have hts := C.2.2.2.2.1
  have hi1 : ∀ w ∈ wsX10, w ∈ wsX1_allFit := by decide +kernel
  have hi2 : ∀ w ∈ wsX20, w ∈ wsX1_allFit := by decide +kernel
  refine lv_iconst (v := 0) hx hb dX1_allFit_0 (by decide) ?_
  refine lv_istore_n hx hb dX1_allFit_1 rfl hl (by decide) rfl (fun ls hl => ?_)
  have loop_2 : ∀ (n : Nat) (k : Nat) (S1 : PS) (H : Heap) (locs : List Loc) (ls : Array Slot), k + n = z → eq4 S S1 → (∀ j, j < k → fitA (fun i => sJ S 9 (wr i) j) (sI S 8 0) nr) → Wd G A s.heap S1 H locs → lv_has ls 2 [(0, .ref (gA G 1 0)), (1, .int (nI k))] → W p l e (rmK 3 72) s m args below meth c H locs 0 0 Q (F0 m 2 ls []) := by
    intro n
    induction n with
    | zero =>
      intro k S1 H locs ls hk hE hI w hl
      have hpl := hpl.of4 hE
      have h12 := hpl.z12
      refine lv_iload_n hx hb dX1_allFit_2 rfl (lv_at hl 1 rfl) ?_
      refine lv_aload_n hx hb dX1_allFit_3 rfl (lv_at hl 0 rfl) ?_
      refine pgQ 1 0 2 (by decide) rfl (by decide) rfl rfl C w hi1 (by decide +kernel) dX1_allFit_4 (oP1 hX) (hpl.lk.2.2.2.2.2.2.2.2.2.2.1) ?_
      refine pgI 2 2 (by decide) rfl (by decide) (Or.inl rfl) rfl C w hi2 (by decide +kernel) dX1_allFit_7 (oP2 hX (by decide)) (v := nI z) hpl.z ?_
      refine lv_icmp_ge (tgt := 29) hx hb dX1_allFit_10 (by decide) (fun c_10 => ?_) (fun c_10 => absurd (nI_le (by omega) (by omega)) c_10)
      refine lv_iconst (v := 1) hx hb dX1_allFit_29 (by decide) ?_
      exact hret _ _ _ _ _ _ dX1_allFit_30 w (by decide) ⟨Or.inl ⟨rfl, fun j hj => hI j (by omega)⟩, hE⟩
    | succ n ih =>
      intro k S1 H locs ls hk hE hI w hl
      have hpl := hpl.of4 hE
      have h12 := hpl.z12
      refine lv_iload_n hx hb dX1_allFit_2 rfl (lv_at hl 1 rfl) ?_
      refine lv_aload_n hx hb dX1_allFit_3 rfl (lv_at hl 0 rfl) ?_
      refine pgQ 1 0 2 (by decide) rfl (by decide) rfl rfl C w hi1 (by decide +kernel) dX1_allFit_4 (oP1 hX) (hpl.lk.2.2.2.2.2.2.2.2.2.2.1) ?_
      refine pgI 2 2 (by decide) rfl (by decide) (Or.inl rfl) rfl C w hi2 (by decide +kernel) dX1_allFit_7 (oP2 hX (by decide)) (v := nI z) hpl.z ?_
      refine lv_icmp_ge (tgt := 29) hx hb dX1_allFit_10 (by decide) (fun c_10 => absurd c_10 (nI_ge (by omega) (by omega))) (fun c_10 => ?_)
      refine lv_aload_n hx hb dX1_allFit_13 rfl (lv_at hl 0 rfl) ?_
      refine lv_iload_n hx hb dX1_allFit_14 rfl (lv_at hl 1 rfl) ?_
      refine cvI (n := 1) C w hl dX1_allFit_15 (c_X1_fitsAt l G hX S1 nr z wr hpl k (by omega)) gX1_allFit_X1_fitsAt rfl (by decide +kernel) rfl rfl (Nat.le_of_ble_eq_true rfl) ⟨by decide, by decide⟩ (by decide) rfl (oP1 hX) (fun v2 S2 H locs hp w => ?_)
      have hq := hp.1
      rw [hE.1, show (fun i => sJ S1 9 (wr i) k) = fun i => sJ S 9 (wr i) k from funext fun i => hE.j9 _ _] at hq
      refine lv_if_ne (tgt := 23) hx hb dX1_allFit_18 (by decide) (fun c_18 => ?_) (fun c_18 => ?_)
      · refine lv_iinc (v := nI (k + 1)) hx hb dX1_allFit_23 hl (k := 1) rfl (nI_1 k) (by decide) rfl (fun ls hl => ?_)
        refine lv_goto (tgt := 2) hx hb dX1_allFit_26 (by decide) ?_
        exact ih (k + 1) _ _ _ _ (by omega) (hE.tr hp.2) (lt_s hI (yes_of hq c_18)) w (lv_sub hl [1, 0] rfl)
      · refine lv_iconst (v := 0) hx hb dX1_allFit_21 (by decide) ?_
        exact hret _ _ _ _ _ _ dX1_allFit_22 w (by decide) ⟨Or.inr ⟨rfl, fun q => no_of hq c_18 (q k (by omega))⟩, hE.tr hp.2⟩
  exact loop_2 z 0 S _ _ _ (by omega) (eq4.rf S) lt_0 w (lv_sub hl [1, 0] rfl)

set_option maxHeartbeats 4000000 in
set_option maxRecDepth 100000 in
/-- Plan.changeCount -/
theorem c_X1_changeCount (l : Launch) (G : GT) (hX : okX G) (S : PS) (nr z : Nat) (wr : Nat → Nat) (hpl : plX S nr wr z) (i : Nat) (v : Int32) (hi : i < nr) (hv : 0 ≤ v.toInt ∧ v.toInt ≤ 1000000) : CtI l G yX1_changeCount wsX1_changeCount (rmK 4 93) [.ref (gA G 1 0), .int (nI i), .int v] S (fun a S2 => (a = 1 ∧ fitS (uI S 8 0 i v) nr wr z ∧ eq4 (uI S 8 0 i v) S2) ∨ (a = 0 ∧ ¬ fitS (uI S 8 0 i v) nr wr z ∧ eq4 S S2)) := by
  refine ofCtZ (cc := cX1_changeCount) (nL := 4) RX1 (by decide +kernel) rfl rfl (Nat.le_of_ble_eq_true rfl) ?_
  intro p e s m args below meth c A Q ls C w hl hret
  have hx := C.1
  have hb := C.2.1
  have hown := C.2.2.2.1
  have hts := C.2.2.2.2.1
  have hi1 : ∀ w ∈ wsX10, w ∈ wsX1_changeCount := by decide +kernel
  have h12 := hpl.n12
  refine lv_aload_n hx hb dX1_changeCount_0 rfl (lv_at hl 0 rfl) ?_
  refine pgQ 1 2 8 (by decide) rfl (by decide) rfl rfl C w hi1 (by decide +kernel) dX1_changeCount_1 (oP1 hX) (hpl.lk.2.2.2.2.2.2.2.2.2.2.2.2.1) ?_
  refine lv_iload_n hx hb dX1_changeCount_4 rfl (lv_at hl 1 rfl) ?_
  refine paI C w dX1_changeCount_5 (oP8 hX) rfl (oN8 hX) (by omega) (by decide) rfl ?_
  refine lv_istore_n hx hb dX1_changeCount_6 rfl hl (by decide) rfl (fun ls hl => ?_)
  refine lv_aload_n hx hb dX1_changeCount_7 rfl (lv_at hl 1 rfl) ?_
  refine pgQ 1 2 8 (by decide) rfl (by decide) rfl rfl C w hi1 (by decide +kernel) dX1_changeCount_8 (oP1 hX) (hpl.lk.2.2.2.2.2.2.2.2.2.2.2.2.1) ?_
  refine lv_iload_n hx hb dX1_changeCount_11 rfl (lv_at hl 2 rfl) ?_
  refine lv_iload_n hx hb dX1_changeCount_12 rfl (lv_at hl 3 rfl) ?_
  refine psI C w dX1_changeCount_13 (oP8 hX) rfl (oN8 hX) (by omega) (by decide) (fun H locs w => ?_)
  have hpl := hpl.cnt (i := i) hv
  refine lv_aload_n hx hb dX1_changeCount_14 rfl (lv_at hl 1 rfl) ?_
  refine cvI (n := 0) C w hl dX1_changeCount_15 (c_X1_allFit l G hX _ nr z wr hpl) gX1_changeCount_X1_allFit rfl (by decide +kernel) rfl rfl (Nat.le_of_ble_eq_true rfl) ⟨by decide, by decide⟩ (by decide) rfl (oP1 hX) (fun v2 S2 H locs hp w => ?_)
  have hpl := hpl.of4 hp.2
  refine lv_if_ne (tgt := 30) hx hb dX1_changeCount_18 (by decide) (fun c_18 => ?_) (fun c_18 => ?_)
  · refine lv_iconst (v := 1) hx hb dX1_changeCount_30 (by decide) ?_
    exact hret _ _ _ _ _ _ dX1_changeCount_31 w (by decide) (Or.inl ⟨rfl, yes_of hp.1 c_18, hp.2⟩)
  · refine lv_aload_n hx hb dX1_changeCount_21 rfl (lv_at hl 1 rfl) ?_
    refine pgQ 1 2 8 (by decide) rfl (by decide) rfl rfl C w hi1 (by decide +kernel) dX1_changeCount_22 (oP1 hX) (hpl.lk.2.2.2.2.2.2.2.2.2.2.2.2.1) ?_
    refine lv_iload_n hx hb dX1_changeCount_25 rfl (lv_at hl 2 rfl) ?_
    refine lv_iload_n hx hb dX1_changeCount_26 rfl (lv_at hl 0 rfl) ?_
    refine psI C w dX1_changeCount_27 (oP8 hX) rfl (oN8 hX) (by omega) (by decide) (fun H locs w => ?_)
    refine lv_iconst (v := 0) hx hb dX1_changeCount_28 (by decide) ?_
    exact hret _ _ _ _ _ _ dX1_changeCount_29 w (by decide) (Or.inr ⟨rfl, no_of hp.1 c_18, by have := hp.2.uI 8 0 i (sI S 8 0 i); rwa [uI_back] at this⟩)
