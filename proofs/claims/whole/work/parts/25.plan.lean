theorem bu_ff {b u : Bool} (hb : b = false) (c : (0 : Int32) = if u = true then 1 else 0) : b = u := by
  subst hb; cases u
  · rfl
  · exact absurd c (by decide)
theorem bu_tt {b u : Bool} (hb : b = true) (c : (1 : Int32) = if u = true then 1 else 0) : b = u := by
  subst hb; cases u
  · exact absurd c (by decide)
  · rfl
theorem bu_nf {b u : Bool} (hb : b = false) (c : ¬ (0 : Int32) = if u = true then 1 else 0) : ¬ b = u := by
  subst hb; cases u
  · exact absurd rfl c
  · decide
theorem bu_nt {b u : Bool} (hb : b = true) (c : ¬ (1 : Int32) = if u = true then 1 else 0) : ¬ b = u := by
  subst hb; cases u
  · decide
  · exact absurd rfl c

set_option maxHeartbeats 4000000 in
set_option maxRecDepth 100000 in
/-- Plan.sumInto -/
theorem c_X1_sumInto (l : Launch) (G : GT) (hX : okX G) (S : PS) (nr z : Nat) (wr : Nat → Nat) (hpl : plX S nr wr z) (a : Nat) (ha : a < 60) (hwa : ∀ i, i < 12 → wr i ≠ a) : CtV l G yX1_sumInto wsX1_sumInto (rmK 2 50) [.ref (gA G 1 0), .ref (gA G 2 a)] S (fun S2 => eq4 (rwk (fm S a (sI S 2 78 0) (sI S 2 78 1) (sI S 2 78 2)) a (fun k => Int64.ofInt (sumV (fun i => sJ S 9 (wr i) k) (sI S 8 0) nr)) (sJ S 9 a) z) S2) := by
  refine ofCtV (cc := cX1_sumInto) (nL := 3) RX1 (by decide +kernel) rfl rfl (Nat.le_of_ble_eq_true rfl) ?_
  intro p e s m args below meth c A Q ls C w hl hret
  have hx := C.1
  have hb := C.2.1
  have hown := C.2.2.2.1
  have hts := C.2.2.2.2.1
  have hi1 : ∀ w ∈ wsX10, w ∈ wsX1_sumInto := by decide +kernel
  have hi2 : ∀ w ∈ wsX20, w ∈ wsX1_sumInto := by decide +kernel
  refine lv_aload_n hx hb dX1_sumInto_0 rfl (lv_at hl 1 rfl) ?_
  refine lv_aload_n hx hb dX1_sumInto_1 rfl (lv_at hl 0 rfl) ?_
  refine pgQ 1 0 2 (by decide) rfl (by decide) rfl rfl C w hi1 (by decide +kernel) dX1_sumInto_2 (oP1 hX) (r1 := 78) hpl.lk.2.2.2.2.2.2.2.2.2.2.1 ?_
  refine cvV (n := 1) C w hl dX1_sumInto_5 (c_X2_formLike l G hX S a 78 (by omega) (by decide)) gX1_sumInto_X2_formLike rfl (by decide +kernel) rfl rfl (Nat.le_of_ble_eq_true rfl) ⟨by decide, by decide⟩ (by decide) rfl (oP2 hX (by omega)) (fun S2 H locs hp w => ?_)
  subst hp
  refine lv_iconst (v := 0) hx hb dX1_sumInto_8 (by decide) ?_
  refine lv_istore_n hx hb dX1_sumInto_9 rfl hl (by decide) rfl (fun ls hl => ?_)
  have loop_10 : ∀ (n : Nat) (k : Nat) (S1 : PS) (H : Heap) (locs : List Loc) (ls : Array Slot), k + n = z → eq4 (rwk (fm S a (sI S 2 78 0) (sI S 2 78 1) (sI S 2 78 2)) a (fun k => Int64.ofInt (sumV (fun i => sJ S 9 (wr i) k) (sI S 8 0) nr)) (sJ S 9 a) k) S1 → Wd G A s.heap S1 H locs → lv_has ls 3 [(0, .ref (gA G 1 0)), (1, .ref (gA G 2 a)), (2, .int (nI k))] → W p l e (rmK 2 50) s m args below meth c H locs 0 0 Q (F0 m 10 ls []) := by
    intro n
    induction n with
    | zero =>
      intro k S1 H locs ls hk hE w hl
      have hpl := (hpl.row (show a ≠ 78 by omega) (sI S 2 78 0) (sI S 2 78 1) (sI S 2 78 2) (fun k => Int64.ofInt (sumV (fun i => sJ S 9 (wr i) k) (sI S 8 0) nr)) (sJ S 9 a) k).of4 hE
      have h12 := hpl.n12
      have hz12 := hpl.z12
      have e9 : ∀ i, i < 12 → sJ S1 9 (wr i) k = sJ S 9 (wr i) k := fun i hi => by rw [hE.j9, sJ_rwk_n (hwa i hi)]; rfl
      have eI : sI S1 8 0 = sI S 8 0 := by rw [hE.1, sI_rwk]; funext j; exact sI_fm_r (by simp)
      refine lv_iload_n hx hb dX1_sumInto_10 rfl (lv_at hl 2 rfl) ?_
      refine lv_aload_n hx hb dX1_sumInto_11 rfl (lv_at hl 0 rfl) ?_
      refine pgQ 1 0 2 (by decide) rfl (by decide) rfl rfl C w hi1 (by decide +kernel) dX1_sumInto_12 (oP1 hX) (r1 := 78) hpl.lk.2.2.2.2.2.2.2.2.2.2.1 ?_
      refine pgI 2 2 (by decide) rfl (by decide) (Or.inl rfl) rfl C w hi2 (by decide +kernel) dX1_sumInto_15 (oP2 hX (by decide)) (v := nI z) hpl.z ?_
      refine lv_icmp_ge (tgt := 45) hx hb dX1_sumInto_18 (by decide) (fun c_18 => ?_) (fun c_18 => absurd (nI_le (by omega) (by omega)) c_18)
      have e : k = z := by omega
      subst e
      exact hret _ _ _ _ _ dX1_sumInto_45 w hE
    | succ n ih =>
      intro k S1 H locs ls hk hE w hl
      have hpl := (hpl.row (show a ≠ 78 by omega) (sI S 2 78 0) (sI S 2 78 1) (sI S 2 78 2) (fun k => Int64.ofInt (sumV (fun i => sJ S 9 (wr i) k) (sI S 8 0) nr)) (sJ S 9 a) k).of4 hE
      have h12 := hpl.n12
      have hz12 := hpl.z12
      have e9 : ∀ i, i < 12 → sJ S1 9 (wr i) k = sJ S 9 (wr i) k := fun i hi => by rw [hE.j9, sJ_rwk_n (hwa i hi)]; rfl
      have eI : sI S1 8 0 = sI S 8 0 := by rw [hE.1, sI_rwk]; funext j; exact sI_fm_r (by simp)
      refine lv_iload_n hx hb dX1_sumInto_10 rfl (lv_at hl 2 rfl) ?_
      refine lv_aload_n hx hb dX1_sumInto_11 rfl (lv_at hl 0 rfl) ?_
      refine pgQ 1 0 2 (by decide) rfl (by decide) rfl rfl C w hi1 (by decide +kernel) dX1_sumInto_12 (oP1 hX) (r1 := 78) hpl.lk.2.2.2.2.2.2.2.2.2.2.1 ?_
      refine pgI 2 2 (by decide) rfl (by decide) (Or.inl rfl) rfl C w hi2 (by decide +kernel) dX1_sumInto_15 (oP2 hX (by decide)) (v := nI z) hpl.z ?_
      refine lv_icmp_ge (tgt := 45) hx hb dX1_sumInto_18 (by decide) (fun c_18 => absurd c_18 (nI_ge (by omega) (by omega))) (fun c_18 => ?_)
      refine lv_aload_n hx hb dX1_sumInto_21 rfl (lv_at hl 0 rfl) ?_
      refine lv_iload_n hx hb dX1_sumInto_22 rfl (lv_at hl 2 rfl) ?_
      refine cvV (n := 1) C w hl dX1_sumInto_23 (c_X1_priceSum l G hX S1 nr z wr hpl k (by omega)) gX1_sumInto_X1_priceSum rfl (by decide +kernel) rfl rfl (Nat.le_of_ble_eq_true rfl) ⟨by decide, by decide⟩ (by decide) rfl (oP1 hX) (fun S2 H locs hp w => ?_)
      subst hp
      refine lv_aload_n hx hb dX1_sumInto_26 rfl (lv_at hl 1 rfl) ?_
      refine pgQ 2 3 9 (by decide) rfl (by decide) rfl rfl C w hi2 (by decide +kernel) dX1_sumInto_27 (oP2 hX (by omega)) (r1 := a) (lk2 hpl.lk (by omega)) ?_
      refine lv_iload_n hx hb dX1_sumInto_30 rfl (lv_at hl 2 rfl) ?_
      refine lv_aload_n hx hb dX1_sumInto_31 rfl (lv_at hl 0 rfl) ?_
      refine pgQ 1 7 4 (by decide) rfl (by decide) rfl rfl C w hi1 (by decide +kernel) dX1_sumInto_32 (oP1 hX) (hpl.lk.2.2.2.2.2.2.2.2.2.2.2.2.2.2.1) ?_
      refine cvL (n := 0) C w hl dX1_sumInto_35 (c_X4_value l G hX _ 1 _ (by decide) (sJ_wd_0 _ _ _) (sJ_wd_1 _ _ _)) gX1_sumInto_X4_value rfl (by decide +kernel) rfl rfl (Nat.le_of_ble_eq_true rfl) ⟨by decide, by decide⟩ (by decide) rfl (oP4 hX (by decide)) (fun v4 S4 H locs hp w => ?_)
      obtain ⟨hv4, e0⟩ := hp
      rw [e0] at w
      rw [eI, sumV_eq (W' := fun i => sJ S 9 (wr i) k) (C' := sI S 8 0) nr (fun i hi => ⟨e9 i (by omega), rfl⟩)] at hv4
      refine psJ C w dX1_sumInto_38 (oP9 hX (by omega)) rfl (oN9 hX (by omega)) (by omega) (by decide) (fun H locs w => ?_)
      refine lv_iinc (v := nI (k + 1)) hx hb dX1_sumInto_39 hl (k := 2) rfl (nI_1 k) (by decide) rfl (fun ls hl => ?_)
      refine lv_goto (tgt := 10) hx hb dX1_sumInto_42 (by decide) ?_
      refine ih (k + 1) _ _ _ _ (by omega) ?_ w (lv_sub hl [1, 2, 0] rfl)
      have h9 : ∀ V, eq4 (rwk (fm S a (sI S 2 78 0) (sI S 2 78 1) (sI S 2 78 2)) a (fun k => Int64.ofInt (sumV (fun i => sJ S 9 (wr i) k) (sI S 8 0) nr)) (sJ S 9 a) (k + 1)) (uJ (wd S1 1 V) 9 a k v4) := fun V => by have h8 := (hE.tr (eq4_wd S1 1 V)).uJ 9 a k v4; rwa [rwk_s (g := (fun k => Int64.ofInt (sumV (fun i => sJ S 9 (wr i) k) (sI S 8 0) nr))) hv4] at h8
      exact h9 _
  exact loop_10 z 0 _ _ _ _ (by omega) (by rw [rwk_0 (S := fm S a _ _ _) (o := sJ S 9 a) (fun _ => rfl)]; exact eq4.rf _) w (lv_sub hl [1, 2, 0] rfl)

set_option maxHeartbeats 4000000 in
set_option maxRecDepth 100000 in
/-- Plan.partInto -/
theorem c_X1_partInto (l : Launch) (G : GT) (hX : okX G) (S : PS) (nr z : Nat) (wr : Nat → Nat) (hpl : plX S nr wr z) (a : Nat) (ha : a < 60) (hwa : ∀ i, i < 12 → wr i ≠ a) (i : Nat) (hi : i < nr) : CtV l G yX1_partInto wsX1_partInto (rmK 2 50) [.ref (gA G 1 0), .int (nI i), .ref (gA G 2 a)] S (fun S2 => eq4 (rwk (fm S a (sI S 2 78 0) (sI S 2 78 1) (sI S 2 78 2)) a (fun k => Int64.ofInt ((sJ S 9 (wr i) k).toInt * (sI S 8 0 i).toInt)) (sJ S 9 a) z) S2) := by
  refine ofCtV (cc := cX1_partInto) (nL := 4) RX1 (by decide +kernel) rfl rfl (Nat.le_of_ble_eq_true rfl) ?_
  intro p e s m args below meth c A Q ls C w hl hret
  have hx := C.1
  have hb := C.2.1
  have hown := C.2.2.2.1
  have hts := C.2.2.2.2.1
  have hi1 : ∀ w ∈ wsX10, w ∈ wsX1_partInto := by decide +kernel
  have hi2 : ∀ w ∈ wsX20, w ∈ wsX1_partInto := by decide +kernel
  refine lv_aload_n hx hb dX1_partInto_0 rfl (lv_at hl 2 rfl) ?_
  refine lv_aload_n hx hb dX1_partInto_1 rfl (lv_at hl 0 rfl) ?_
  refine pgQ 1 0 2 (by decide) rfl (by decide) rfl rfl C w hi1 (by decide +kernel) dX1_partInto_2 (oP1 hX) (r1 := 78) hpl.lk.2.2.2.2.2.2.2.2.2.2.1 ?_
  refine cvV (n := 1) C w hl dX1_partInto_5 (c_X2_formLike l G hX S a 78 (by omega) (by decide)) gX1_partInto_X2_formLike rfl (by decide +kernel) rfl rfl (Nat.le_of_ble_eq_true rfl) ⟨by decide, by decide⟩ (by decide) rfl (oP2 hX (by omega)) (fun S2 H locs hp w => ?_)
  subst hp
  refine lv_iconst (v := 0) hx hb dX1_partInto_8 (by decide) ?_
  refine lv_istore_n hx hb dX1_partInto_9 rfl hl (by decide) rfl (fun ls hl => ?_)
  have loop_10 : ∀ (n : Nat) (k : Nat) (S1 : PS) (H : Heap) (locs : List Loc) (ls : Array Slot), k + n = z → eq4 (rwk (fm S a (sI S 2 78 0) (sI S 2 78 1) (sI S 2 78 2)) a (fun k => Int64.ofInt ((sJ S 9 (wr i) k).toInt * (sI S 8 0 i).toInt)) (sJ S 9 a) k) S1 → Wd G A s.heap S1 H locs → lv_has ls 4 [(0, .ref (gA G 1 0)), (1, .int (nI i)), (2, .ref (gA G 2 a)), (3, .int (nI k))] → W p l e (rmK 2 50) s m args below meth c H locs 0 0 Q (F0 m 10 ls []) := by
    intro n
    induction n with
    | zero =>
      intro k S1 H locs ls hk hE w hl
      have hpl := (hpl.row (show a ≠ 78 by omega) (sI S 2 78 0) (sI S 2 78 1) (sI S 2 78 2) (fun k => Int64.ofInt ((sJ S 9 (wr i) k).toInt * (sI S 8 0 i).toInt)) (sJ S 9 a) k).of4 hE
      have h12 := hpl.n12
      have hz12 := hpl.z12
      have e9 : ∀ i, i < 12 → sJ S1 9 (wr i) k = sJ S 9 (wr i) k := fun i hi => by rw [hE.j9, sJ_rwk_n (hwa i hi)]; rfl
      have eI : sI S1 8 0 = sI S 8 0 := by rw [hE.1, sI_rwk]; funext j; exact sI_fm_r (by simp)
      refine lv_iload_n hx hb dX1_partInto_10 rfl (lv_at hl 3 rfl) ?_
      refine lv_aload_n hx hb dX1_partInto_11 rfl (lv_at hl 0 rfl) ?_
      refine pgQ 1 0 2 (by decide) rfl (by decide) rfl rfl C w hi1 (by decide +kernel) dX1_partInto_12 (oP1 hX) (r1 := 78) hpl.lk.2.2.2.2.2.2.2.2.2.2.1 ?_
      refine pgI 2 2 (by decide) rfl (by decide) (Or.inl rfl) rfl C w hi2 (by decide +kernel) dX1_partInto_15 (oP2 hX (by decide)) (v := nI z) hpl.z ?_
      refine lv_icmp_ge (tgt := 46) hx hb dX1_partInto_18 (by decide) (fun c_18 => ?_) (fun c_18 => absurd (nI_le (by omega) (by omega)) c_18)
      have e : k = z := by omega
      subst e
      exact hret _ _ _ _ _ dX1_partInto_46 w hE
    | succ n ih =>
      intro k S1 H locs ls hk hE w hl
      have hpl := (hpl.row (show a ≠ 78 by omega) (sI S 2 78 0) (sI S 2 78 1) (sI S 2 78 2) (fun k => Int64.ofInt ((sJ S 9 (wr i) k).toInt * (sI S 8 0 i).toInt)) (sJ S 9 a) k).of4 hE
      have h12 := hpl.n12
      have hz12 := hpl.z12
      have e9 : ∀ i, i < 12 → sJ S1 9 (wr i) k = sJ S 9 (wr i) k := fun i hi => by rw [hE.j9, sJ_rwk_n (hwa i hi)]; rfl
      have eI : sI S1 8 0 = sI S 8 0 := by rw [hE.1, sI_rwk]; funext j; exact sI_fm_r (by simp)
      refine lv_iload_n hx hb dX1_partInto_10 rfl (lv_at hl 3 rfl) ?_
      refine lv_aload_n hx hb dX1_partInto_11 rfl (lv_at hl 0 rfl) ?_
      refine pgQ 1 0 2 (by decide) rfl (by decide) rfl rfl C w hi1 (by decide +kernel) dX1_partInto_12 (oP1 hX) (r1 := 78) hpl.lk.2.2.2.2.2.2.2.2.2.2.1 ?_
      refine pgI 2 2 (by decide) rfl (by decide) (Or.inl rfl) rfl C w hi2 (by decide +kernel) dX1_partInto_15 (oP2 hX (by decide)) (v := nI z) hpl.z ?_
      refine lv_icmp_ge (tgt := 46) hx hb dX1_partInto_18 (by decide) (fun c_18 => absurd c_18 (nI_ge (by omega) (by omega))) (fun c_18 => ?_)
      refine lv_aload_n hx hb dX1_partInto_21 rfl (lv_at hl 0 rfl) ?_
      refine lv_iload_n hx hb dX1_partInto_22 rfl (lv_at hl 1 rfl) ?_
      refine lv_iload_n hx hb dX1_partInto_23 rfl (lv_at hl 3 rfl) ?_
      refine cvV (n := 2) C w hl dX1_partInto_24 (c_X1_pricePart l G hX S1 nr z wr hpl i k hi (by omega)) gX1_partInto_X1_pricePart rfl (by decide +kernel) rfl rfl (Nat.le_of_ble_eq_true rfl) ⟨by decide, by decide⟩ (by decide) rfl (oP1 hX) (fun S2 H locs hp w => ?_)
      subst hp
      refine lv_aload_n hx hb dX1_partInto_27 rfl (lv_at hl 2 rfl) ?_
      refine pgQ 2 3 9 (by decide) rfl (by decide) rfl rfl C w hi2 (by decide +kernel) dX1_partInto_28 (oP2 hX (by omega)) (r1 := a) (lk2 hpl.lk (by omega)) ?_
      refine lv_iload_n hx hb dX1_partInto_31 rfl (lv_at hl 3 rfl) ?_
      refine lv_aload_n hx hb dX1_partInto_32 rfl (lv_at hl 0 rfl) ?_
      refine pgQ 1 8 4 (by decide) rfl (by decide) rfl rfl C w hi1 (by decide +kernel) dX1_partInto_33 (oP1 hX) (hpl.lk.2.2.2.2.2.2.2.2.2.2.2.2.2.2.2) ?_
      refine cvL (n := 0) C w hl dX1_partInto_36 (c_X4_value l G hX _ 2 _ (by decide) (sJ_wd_0 _ _ _) (sJ_wd_1 _ _ _)) gX1_partInto_X4_value rfl (by decide +kernel) rfl rfl (Nat.le_of_ble_eq_true rfl) ⟨by decide, by decide⟩ (by decide) rfl (oP4 hX (by decide)) (fun v4 S4 H locs hp w => ?_)
      obtain ⟨hv4, e0⟩ := hp
      rw [e0] at w
      rw [eI, e9 i (by omega)] at hv4
      refine psJ C w dX1_partInto_39 (oP9 hX (by omega)) rfl (oN9 hX (by omega)) (by omega) (by decide) (fun H locs w => ?_)
      refine lv_iinc (v := nI (k + 1)) hx hb dX1_partInto_40 hl (k := 3) rfl (nI_1 k) (by decide) rfl (fun ls hl => ?_)
      refine lv_goto (tgt := 10) hx hb dX1_partInto_43 (by decide) ?_
      refine ih (k + 1) _ _ _ _ (by omega) ?_ w (lv_sub hl [1, 2, 3, 0] rfl)
      have h9 : ∀ V, eq4 (rwk (fm S a (sI S 2 78 0) (sI S 2 78 1) (sI S 2 78 2)) a (fun k => Int64.ofInt ((sJ S 9 (wr i) k).toInt * (sI S 8 0 i).toInt)) (sJ S 9 a) (k + 1)) (uJ (wd S1 2 V) 9 a k v4) := fun V => by have h8 := (hE.tr (eq4_wd S1 2 V)).uJ 9 a k v4; rwa [rwk_s (g := (fun k => Int64.ofInt ((sJ S 9 (wr i) k).toInt * (sI S 8 0 i).toInt))) hv4] at h8
      exact h9 _
  exact loop_10 z 0 _ _ _ _ (by omega) (by rw [rwk_0 (S := fm S a _ _ _) (o := sJ S 9 a) (fun _ => rfl)]; exact eq4.rf _) w (lv_sub hl [1, 2, 3, 0] rfl)

set_option maxHeartbeats 4000000 in
set_option maxRecDepth 100000 in
/-- Plan.bearsAt -/
theorem c_X1_bearsAt (l : Launch) (G : GT) (hX : okX G) (S : PS) (nr z : Nat) (wr : Nat → Nat) (hpl : plX S nr wr z) (k : Nat) (hk : k < 12) (q : Int32) (hq : 0 ≤ q.toInt ∧ q.toInt ≤ 1000000) (u : Bool) : CtI l G yX1_bearsAt wsX1_bearsAt (rmK 1 28) [.ref (gA G 1 0), .int (nI k), .int q, .int (if u = true then 1 else 0)] S (fun v S2 => ((v = 1 ∧ in64 (sumS (fun i => sJ S 9 (wr i) k) q.toInt u nr)) ∨ (v = 0 ∧ ¬ in64 (sumS (fun i => sJ S 9 (wr i) k) q.toInt u nr))) ∧ eq4 S S2) := by
  refine ofCtZ (cc := cX1_bearsAt) (nL := 7) RX1 (by decide +kernel) rfl rfl (Nat.le_of_ble_eq_true rfl) ?_
  intro p e s m args below meth c A Q ls C w hl hret
  have hx := C.1
  have hb := C.2.1
  have hown := C.2.2.2.1
  have hts := C.2.2.2.2.1
  have hi1 : ∀ w ∈ wsX10, w ∈ wsX1_bearsAt := by decide +kernel
  have hi2 : ∀ w ∈ wsX20, w ∈ wsX1_bearsAt := by decide +kernel
  have h12 := hpl.n12
  refine lv_aload_n hx hb dX1_bearsAt_0 rfl (lv_at hl 0 rfl) ?_
  refine pgQ 1 7 4 (by decide) rfl (by decide) rfl rfl C w hi1 (by decide +kernel) dX1_bearsAt_1 (oP1 hX) (hpl.lk.2.2.2.2.2.2.2.2.2.2.2.2.2.2.1) ?_
  refine cvV (n := 0) C w hl dX1_bearsAt_4 (c_X4_clear l G hX S 1 (by decide)) gX1_bearsAt_X4_clear rfl (by decide +kernel) rfl rfl (Nat.le_of_ble_eq_true rfl) ⟨by decide, by decide⟩ (by decide) rfl (oP4 hX (by decide)) (fun S2 H locs hp w => ?_)
  subst hp
  refine lv_iconst (v := 0) hx hb dX1_bearsAt_7 (by decide) ?_
  refine lv_istore hx hb dX1_bearsAt_8 hl (by decide) rfl (fun ls hl => ?_)
  have loop_10 : ∀ (n : Nat) (i : Nat) (H : Heap) (locs : List Loc) (ls : Array Slot), i + n = nr → Wd G A s.heap (wd S 1 (sumS (fun i => sJ S 9 (wr i) k) q.toInt u i)) H locs → lv_has ls 7 [(0, .ref (gA G 1 0)), (1, .int (nI k)), (2, .int q), (3, .int (if u = true then 1 else 0)), (4, .int (nI i))] → W p l e (rmK 1 28) s m args below meth c H locs 0 0 Q (F0 m 10 ls []) := by
    intro n
    induction n with
    | zero =>
      intro i H locs ls hi w hl
      refine lv_iload hx hb dX1_bearsAt_10 (lv_at hl 4 rfl) ?_
      refine lv_aload_n hx hb dX1_bearsAt_12 rfl (lv_at hl 0 rfl) ?_
      refine pgI 1 3 (by decide) rfl (by decide) (Or.inl rfl) rfl C w hi1 (by decide +kernel) dX1_bearsAt_13 (oP1 hX) (v := nI nr) hpl.n ?_
      refine lv_icmp_ge (tgt := 66) hx hb dX1_bearsAt_16 (by decide) (fun c_16 => ?_) (fun c_16 => absurd (nI_le (by omega) (by omega)) c_16)
      have e : i = nr := by omega
      subst e
      refine lv_aload_n hx hb dX1_bearsAt_66 rfl (lv_at hl 0 rfl) ?_
      refine pgQ 1 7 4 (by decide) rfl (by decide) rfl rfl C w hi1 (by decide +kernel) dX1_bearsAt_67 (oP1 hX) (hpl.lk.2.2.2.2.2.2.2.2.2.2.2.2.2.2.1) ?_
      refine cvI (n := 0) C w hl dX1_bearsAt_70 (c_X4_fits l G hX _ 1 _ (by decide) (sJ_wd_0 _ _ _) (sJ_wd_1 _ _ _) (by have := sumS_bd (W := fun i => sJ S 9 (wr i) k) (u := u) hq i; omega) (by have := sumS_bd (W := fun i => sJ S 9 (wr i) k) (u := u) hq i; omega)) gX1_bearsAt_X4_fits rfl (by decide +kernel) rfl rfl (Nat.le_of_ble_eq_true rfl) ⟨by decide, by decide⟩ (by decide) rfl (oP4 hX (by decide)) (fun v4 S4 H locs hp w => ?_)
      obtain ⟨hq4, e0⟩ := hp
      rw [e0] at w
      exact hret _ _ _ _ _ _ dX1_bearsAt_73 w (b_of hq4) ⟨hq4, eq4_wd _ _ _⟩
    | succ n ih =>
      intro i H locs ls hi w hl
      refine lv_iload hx hb dX1_bearsAt_10 (lv_at hl 4 rfl) ?_
      refine lv_aload_n hx hb dX1_bearsAt_12 rfl (lv_at hl 0 rfl) ?_
      refine pgI 1 3 (by decide) rfl (by decide) (Or.inl rfl) rfl C w hi1 (by decide +kernel) dX1_bearsAt_13 (oP1 hX) (v := nI nr) hpl.n ?_
      refine lv_icmp_ge (tgt := 66) hx hb dX1_bearsAt_16 (by decide) (fun c_16 => absurd c_16 (nI_ge (by omega) (by omega))) (fun c_16 => ?_)
      refine lv_aload_n hx hb dX1_bearsAt_19 rfl (lv_at hl 0 rfl) ?_
      refine pgQ 1 1 10 (by decide) rfl (by decide) rfl rfl C w hi1 (by decide +kernel) dX1_bearsAt_20 (oP1 hX) (hpl.lk.2.2.2.2.2.2.2.2.2.2.2.1) ?_
      refine lv_iload hx hb dX1_bearsAt_23 (lv_at hl 4 rfl) ?_
      refine paQ C w dX1_bearsAt_25 (oP10 hX (by decide)) rfl (oN101 hX) (by omega) (by decide) (r1 := wr i) (hpl.w (by omega)) ?_
      refine pgQ 2 3 9 (by decide) rfl (by decide) rfl rfl C w hi2 (by decide +kernel) dX1_bearsAt_26 (oP2 hX (hpl.w79 (by omega))) (r1 := wr i) (lk2 hpl.lk (hpl.w79 (by omega))) ?_
      refine lv_iload_n hx hb dX1_bearsAt_29 rfl (lv_at hl 1 rfl) ?_
      refine paJ C w dX1_bearsAt_30 (oP9 hX (hpl.w79 (by omega))) rfl (oN9 hX (hpl.w79 (by omega))) (by omega) (by decide) (v := sJ S 9 (wr i) k) (sJ_wd_n (by simp)) ?_
      refine lv_lstore hx hb dX1_bearsAt_31 hl (by decide) rfl (fun ls hl => ?_)
      refine lv_lload hx hb dX1_bearsAt_33 (lv_at hl 0 rfl) ?_
      refine lv_lconst (v := 0) hx hb dX1_bearsAt_35 (by decide) ?_
      refine W.lcmp hx hb dX1_bearsAt_36 ?_
      refine lv_if_le (tgt := 44) hx hb dX1_bearsAt_37 (by decide) (fun c_37 => ?_) (fun c_37 => ?_)
      · rw [lg_cmp_le] at c_37
        have hw : decide (0 < sJ S 9 (wr i) k) = false := decide_eq_false (Int64.not_lt.mpr c_37)
        refine lv_iconst (v := 0) hx hb dX1_bearsAt_44 (by decide) ?_
        refine lv_iload_n hx hb dX1_bearsAt_45 rfl (lv_at hl 4 rfl) ?_
        refine lv_icmp_ne (tgt := 60) hx hb dX1_bearsAt_46 (by decide) (fun c_46 => ?_) (fun c_46 => ?_)
        · have hu : ¬ decide (0 < sJ S 9 (wr i) k) = u := by first | exact bu_nf hw c_46 | exact bu_nt hw c_46
          refine lv_iinc (v := nI (i + 1)) hx hb dX1_bearsAt_60 hl (k := 5) rfl (nI_1 i) (by decide) rfl (fun ls hl => ?_)
          refine lv_goto (tgt := 10) hx hb dX1_bearsAt_63 (by decide) ?_
          refine ih (i + 1) _ _ _ (by omega) ?_ (lv_sub hl [2, 3, 4, 5, 0] rfl)
          first
            | (rw [sumS, if_pos hu]; exact w)
            | (rw [sumS, if_neg hu, Int.add_zero]; exact w)
        · have hu : decide (0 < sJ S 9 (wr i) k) = u := by first | exact bu_ff hw c_46 | exact bu_tt hw c_46
          refine lv_aload_n hx hb dX1_bearsAt_49 rfl (lv_at hl 1 rfl) ?_
          refine pgQ 1 7 4 (by decide) rfl (by decide) rfl rfl C w hi1 (by decide +kernel) dX1_bearsAt_50 (oP1 hX) (hpl.lk.2.2.2.2.2.2.2.2.2.2.2.2.2.2.1) ?_
          refine lv_lload hx hb dX1_bearsAt_53 (lv_at hl 0 rfl) ?_
          refine lv_iload_n hx hb dX1_bearsAt_55 rfl (lv_at hl 3 rfl) ?_
          refine lv_i2l hx hb dX1_bearsAt_56 rfl ?_
          refine cvV (n := 2) C w hl dX1_bearsAt_57 (c_X4_addProduct l G hX _ 1 _ (by decide) (sJ_wd_0 S 1 _) (sJ_wd_1 S 1 _) _ _ (by rw [Int32.toInt_toInt64]; omega)) gX1_bearsAt_X4_addProduct rfl (by decide +kernel) rfl rfl (Nat.le_of_ble_eq_true rfl) ⟨by decide, by decide⟩ (by decide) rfl (oP4 hX (by decide)) (fun S3 H locs hp w => ?_)
          rw [wd_wd, Int32.toInt_toInt64] at hp
          subst hp
          refine lv_iinc (v := nI (i + 1)) hx hb dX1_bearsAt_60 hl (k := 5) rfl (nI_1 i) (by decide) rfl (fun ls hl => ?_)
          refine lv_goto (tgt := 10) hx hb dX1_bearsAt_63 (by decide) ?_
          refine ih (i + 1) _ _ _ (by omega) ?_ (lv_sub hl [2, 3, 4, 5, 0] rfl)
          first
            | (rw [sumS, if_pos hu]; exact w)
            | (rw [sumS, if_neg hu, Int.add_zero]; exact w)
      · rw [lg_cmp_le] at c_37
        have hw : decide (0 < sJ S 9 (wr i) k) = true := decide_eq_true (Int64.not_le.mp c_37)
        refine lv_iconst (v := 1) hx hb dX1_bearsAt_40 (by decide) ?_
        refine lv_goto (tgt := 45) hx hb dX1_bearsAt_41 (by decide) ?_
        refine lv_iload_n hx hb dX1_bearsAt_45 rfl (lv_at hl 4 rfl) ?_
        refine lv_icmp_ne (tgt := 60) hx hb dX1_bearsAt_46 (by decide) (fun c_46 => ?_) (fun c_46 => ?_)
        · have hu : ¬ decide (0 < sJ S 9 (wr i) k) = u := by first | exact bu_nf hw c_46 | exact bu_nt hw c_46
          refine lv_iinc (v := nI (i + 1)) hx hb dX1_bearsAt_60 hl (k := 5) rfl (nI_1 i) (by decide) rfl (fun ls hl => ?_)
          refine lv_goto (tgt := 10) hx hb dX1_bearsAt_63 (by decide) ?_
          refine ih (i + 1) _ _ _ (by omega) ?_ (lv_sub hl [2, 3, 4, 5, 0] rfl)
          first
            | (rw [sumS, if_pos hu]; exact w)
            | (rw [sumS, if_neg hu, Int.add_zero]; exact w)
        · have hu : decide (0 < sJ S 9 (wr i) k) = u := by first | exact bu_ff hw c_46 | exact bu_tt hw c_46
          refine lv_aload_n hx hb dX1_bearsAt_49 rfl (lv_at hl 1 rfl) ?_
          refine pgQ 1 7 4 (by decide) rfl (by decide) rfl rfl C w hi1 (by decide +kernel) dX1_bearsAt_50 (oP1 hX) (hpl.lk.2.2.2.2.2.2.2.2.2.2.2.2.2.2.1) ?_
          refine lv_lload hx hb dX1_bearsAt_53 (lv_at hl 0 rfl) ?_
          refine lv_iload_n hx hb dX1_bearsAt_55 rfl (lv_at hl 3 rfl) ?_
          refine lv_i2l hx hb dX1_bearsAt_56 rfl ?_
          refine cvV (n := 2) C w hl dX1_bearsAt_57 (c_X4_addProduct l G hX _ 1 _ (by decide) (sJ_wd_0 S 1 _) (sJ_wd_1 S 1 _) _ _ (by rw [Int32.toInt_toInt64]; omega)) gX1_bearsAt_X4_addProduct rfl (by decide +kernel) rfl rfl (Nat.le_of_ble_eq_true rfl) ⟨by decide, by decide⟩ (by decide) rfl (oP4 hX (by decide)) (fun S3 H locs hp w => ?_)
          rw [wd_wd, Int32.toInt_toInt64] at hp
          subst hp
          refine lv_iinc (v := nI (i + 1)) hx hb dX1_bearsAt_60 hl (k := 5) rfl (nI_1 i) (by decide) rfl (fun ls hl => ?_)
          refine lv_goto (tgt := 10) hx hb dX1_bearsAt_63 (by decide) ?_
          refine ih (i + 1) _ _ _ (by omega) ?_ (lv_sub hl [2, 3, 4, 5, 0] rfl)
          first
            | (rw [sumS, if_pos hu]; exact w)
            | (rw [sumS, if_neg hu, Int.add_zero]; exact w)
  exact loop_10 nr 0 _ _ _ (by omega) w (lv_sub hl [1, 2, 3, 4, 0] rfl)

set_option maxHeartbeats 4000000 in
set_option maxRecDepth 100000 in
/-- Plan.bears -/
theorem c_X1_bears (l : Launch) (G : GT) (hX : okX G) (S : PS) (nr z : Nat) (wr : Nat → Nat) (hpl : plX S nr wr z) (q : Int32) (hq : 0 ≤ q.toInt ∧ q.toInt ≤ 1000000) : CtI l G yX1_bears wsX1_bears (rmK 2 54) [.ref (gA G 1 0), .int q] S (fun v S2 => ((v = 1 ∧ (∀ k, k < z → in64 (sumS (fun i => sJ S 9 (wr i) k) q.toInt true nr) ∧ in64 (sumS (fun i => sJ S 9 (wr i) k) q.toInt false nr))) ∨ (v = 0 ∧ ¬ (∀ k, k < z → in64 (sumS (fun i => sJ S 9 (wr i) k) q.toInt true nr) ∧ in64 (sumS (fun i => sJ S 9 (wr i) k) q.toInt false nr)))) ∧ eq4 S S2) := by
  refine ofCtZ (cc := cX1_bears) (nL := 3) RX1 (by decide +kernel) rfl rfl (Nat.le_of_ble_eq_true rfl) ?_
  intro p e s m args below meth c A Q ls C w hl hret
  have hx := C.1
  have hb := C.2.1
  have hown := C.2.2.2.1
  have hts := C.2.2.2.2.1
  have hi1 : ∀ w ∈ wsX10, w ∈ wsX1_bears := by decide +kernel
  have hi2 : ∀ w ∈ wsX20, w ∈ wsX1_bears := by decide +kernel
  refine lv_iconst (v := 0) hx hb dX1_bears_0 (by decide) ?_
  refine lv_istore_n hx hb dX1_bears_1 rfl hl (by decide) rfl (fun ls hl => ?_)
  have loop_2 : ∀ (n : Nat) (k : Nat) (S1 : PS) (H : Heap) (locs : List Loc) (ls : Array Slot), k + n = z → eq4 S S1 → (∀ j, j < k → in64 (sumS (fun i => sJ S 9 (wr i) j) q.toInt true nr) ∧ in64 (sumS (fun i => sJ S 9 (wr i) j) q.toInt false nr)) → Wd G A s.heap S1 H locs → lv_has ls 3 [(0, .ref (gA G 1 0)), (1, .int q), (2, .int (nI k))] → W p l e (rmK 2 54) s m args below meth c H locs 0 0 Q (F0 m 2 ls []) := by
    intro n
    induction n with
    | zero =>
      intro k S1 H locs ls hk hE hI w hl
      have hpl := hpl.of4 hE
      have h12 := hpl.z12
      refine lv_iload_n hx hb dX1_bears_2 rfl (lv_at hl 2 rfl) ?_
      refine lv_aload_n hx hb dX1_bears_3 rfl (lv_at hl 0 rfl) ?_
      refine pgQ 1 0 2 (by decide) rfl (by decide) rfl rfl C w hi1 (by decide +kernel) dX1_bears_4 (oP1 hX) (hpl.lk.2.2.2.2.2.2.2.2.2.2.1) ?_
      refine pgI 2 2 (by decide) rfl (by decide) (Or.inl rfl) rfl C w hi2 (by decide +kernel) dX1_bears_7 (oP2 hX (by decide)) (v := nI z) hpl.z ?_
      refine lv_icmp_ge (tgt := 41) hx hb dX1_bears_10 (by decide) (fun c_10 => ?_) (fun c_10 => absurd (nI_le (by omega) (by omega)) c_10)
      refine lv_iconst (v := 1) hx hb dX1_bears_41 (by decide) ?_
      exact hret _ _ _ _ _ _ dX1_bears_42 w (by decide) ⟨Or.inl ⟨rfl, fun j hj => hI j (by omega)⟩, hE⟩
    | succ n ih =>
      intro k S1 H locs ls hk hE hI w hl
      have hpl := hpl.of4 hE
      have h12 := hpl.z12
      refine lv_iload_n hx hb dX1_bears_2 rfl (lv_at hl 2 rfl) ?_
      refine lv_aload_n hx hb dX1_bears_3 rfl (lv_at hl 0 rfl) ?_
      refine pgQ 1 0 2 (by decide) rfl (by decide) rfl rfl C w hi1 (by decide +kernel) dX1_bears_4 (oP1 hX) (hpl.lk.2.2.2.2.2.2.2.2.2.2.1) ?_
      refine pgI 2 2 (by decide) rfl (by decide) (Or.inl rfl) rfl C w hi2 (by decide +kernel) dX1_bears_7 (oP2 hX (by decide)) (v := nI z) hpl.z ?_
      refine lv_icmp_ge (tgt := 41) hx hb dX1_bears_10 (by decide) (fun c_10 => absurd c_10 (nI_ge (by omega) (by omega))) (fun c_10 => ?_)
      refine lv_aload_n hx hb dX1_bears_13 rfl (lv_at hl 0 rfl) ?_
      refine lv_iload_n hx hb dX1_bears_14 rfl (lv_at hl 2 rfl) ?_
      refine lv_iload_n hx hb dX1_bears_15 rfl (lv_at hl 1 rfl) ?_
      refine lv_iconst (v := 1) hx hb dX1_bears_16 (by decide) ?_
      refine cvI (n := 3) C w hl dX1_bears_17 (c_X1_bearsAt l G hX S1 nr z wr hpl k (by omega) q hq true) gX1_bears_X1_bearsAt rfl (by decide +kernel) rfl rfl (Nat.le_of_ble_eq_true rfl) ⟨by decide, by decide⟩ (by decide) rfl (oP1 hX) (fun v2 S2 H locs hp w => ?_)
      obtain ⟨hq2, hE2⟩ := hp
      replace hE2 := hE.tr hE2
      rw [show (fun i => sJ S1 9 (wr i) k) = fun i => sJ S 9 (wr i) k from funext fun i => hE.j9 _ _] at hq2
      refine lv_if_eq (tgt := 33) hx hb dX1_bears_20 (by decide) (fun c_20 => ?_) (fun c_20 => ?_)
      · have hf : ¬ (∀ k, k < z → in64 (sumS (fun i => sJ S 9 (wr i) k) q.toInt true nr) ∧ in64 (sumS (fun i => sJ S 9 (wr i) k) q.toInt false nr)) := fun h => no_of hq2 c_20 (h k (by omega)).1
        refine lv_iconst (v := 0) hx hb dX1_bears_33 (by decide) ?_
        exact hret _ _ _ _ _ _ dX1_bears_34 w (by decide) ⟨Or.inr ⟨rfl, hf⟩, by first | exact hE3 | exact hE2⟩
      · refine lv_aload_n hx hb dX1_bears_23 rfl (lv_at hl 0 rfl) ?_
        refine lv_iload_n hx hb dX1_bears_24 rfl (lv_at hl 2 rfl) ?_
        refine lv_iload_n hx hb dX1_bears_25 rfl (lv_at hl 1 rfl) ?_
        refine lv_iconst (v := 0) hx hb dX1_bears_26 (by decide) ?_
        refine cvI (n := 3) C w hl dX1_bears_27 (c_X1_bearsAt l G hX S2 nr z wr (hpl.of4 (hE.sy.tr hE2)) k (by omega) q hq false) gX1_bears_X1_bearsAt rfl (by decide +kernel) rfl rfl (Nat.le_of_ble_eq_true rfl) ⟨by decide, by decide⟩ (by decide) rfl (oP1 hX) (fun v3 S3 H locs hp w => ?_)
        obtain ⟨hq3, hE3⟩ := hp
        replace hE3 := hE2.tr hE3
        rw [show (fun i => sJ S2 9 (wr i) k) = fun i => sJ S 9 (wr i) k from funext fun i => hE2.j9 _ _] at hq3
        refine lv_if_ne (tgt := 35) hx hb dX1_bears_30 (by decide) (fun c_30 => ?_) (fun c_30 => ?_)
        · refine lv_iinc (v := nI (k + 1)) hx hb dX1_bears_35 hl (k := 2) rfl (nI_1 k) (by decide) rfl (fun ls hl => ?_)
          refine lv_goto (tgt := 2) hx hb dX1_bears_38 (by decide) ?_
          exact ih (k + 1) _ _ _ _ (by omega) hE3 (lt_s hI ⟨yes_of hq2 c_20, yes_of hq3 c_30⟩) w (lv_sub hl [1, 2, 0] rfl)
        · have hf : ¬ (∀ k, k < z → in64 (sumS (fun i => sJ S 9 (wr i) k) q.toInt true nr) ∧ in64 (sumS (fun i => sJ S 9 (wr i) k) q.toInt false nr)) := fun h => no_of hq3 c_30 (h k (by omega)).2
          refine lv_iconst (v := 0) hx hb dX1_bears_33 (by decide) ?_
          exact hret _ _ _ _ _ _ dX1_bears_34 w (by decide) ⟨Or.inr ⟨rfl, hf⟩, by first | exact hE3 | exact hE2⟩
  exact loop_2 z 0 S _ _ _ (by omega) (eq4.rf S) lt_0 w (lv_sub hl [1, 2, 0] rfl)
