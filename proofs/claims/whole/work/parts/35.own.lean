set_option maxHeartbeats 4000000 in
set_option maxRecDepth 100000 in
/-- plan -/
theorem c_X5_plan (l : Launch) (G : GT) (hX : okX G) (S : PS) (hS : lkX S) (n : Nat) (hn : sI S 5 0 1 = nI n) (hn60 : n ≤ 60) (nr : Nat) (hnr : sI S 1 0 3 = nI nr) (a : Int32) : CtI l G yX5_plan wsX5_plan (rmK 3 65) [.ref (gA G 5 0), .int a] S (fun v S2 => spPlan n nr (fun j => sI S 2 j 0) a v (S2 = S) (S2 = uI (uI (fm S 78 (sI S 2 (jn a) 0) (sI S 2 (jn a) 1) (sI S 2 (jn a) 2)) 1 0 3 0) 1 0 5 0)) := by
  refine ofCtI (cc := cX5_plan) (nL := 3) RX5 (by decide +kernel) rfl rfl (Nat.le_of_ble_eq_true rfl) ?_
  intro p e s m args below meth c A Q ls C w hl hret
  have hx := C.1
  have hb := C.2.1
  have hown := C.2.2.2.1
  have hts := C.2.2.2.2.1
  have hi1 : ∀ w ∈ wsX10, w ∈ wsX5_plan := by decide +kernel
  have hi5 : ∀ w ∈ wsX50, w ∈ wsX5_plan := by decide +kernel
  refine lv_aload_n hx hb dX5_plan_0 rfl (lv_at hl 0 rfl) ?_
  refine lv_iload_n hx hb dX5_plan_1 rfl (lv_at hl 1 rfl) ?_
  refine cvI (n := 1) C w hl dX5_plan_2 (c_X5_isNumber l G hX S n hn hn60 a) gX5_plan_X5_isNumber rfl (by decide +kernel) rfl rfl (Nat.le_of_ble_eq_true rfl) ⟨by decide, by decide⟩ (by decide) rfl (oP5 hX) (fun v1 S9 H locs hp w => ?_)
  obtain ⟨q1, e0⟩ := hp
  rw [e0] at w
  refine lv_if_ne (tgt := 11) hx hb dX5_plan_5 (by decide) (fun c_5 => ?_) (fun c_5 => ?_)
  · have ha := yes_of q1 c_5
    have hja := jn_lt ha
    refine lv_aload_n hx hb dX5_plan_11 rfl (lv_at hl 0 rfl) ?_
    refine pgQ 5 0 10 (by decide) rfl (by decide) rfl rfl C w hi5 (by decide +kernel) dX5_plan_12 (oP5 hX) hS.2.2.1 ?_
    refine lv_iload_n hx hb dX5_plan_15 rfl (lv_at hl 1 rfl) ?_
    refine paQ C w dX5_plan_16 (oP10 hX (by decide)) (n := jn a) (jn_eq ha) (oN100 hX) (by omega) (by decide) (r1 := jn a) (lk10 hS (by omega)) ?_
    refine cvI (n := 0) C w hl dX5_plan_17 (c_X2_isNothing l G hX S (jn a) (by omega)) gX5_plan_X2_isNothing rfl (by decide +kernel) rfl rfl (Nat.le_of_ble_eq_true rfl) ⟨by decide, by decide⟩ (by decide) rfl (oP2 hX (by omega)) (fun v2 S2 H locs hp w => ?_)
    obtain ⟨q2, e0⟩ := hp
    rw [e0] at w
    replace q2 := of_if q2
    refine lv_if_eq (tgt := 26) hx hb dX5_plan_20 (by decide) (fun c_20 => ?_) (fun c_20 => ?_)
    · refine lv_aload_n hx hb dX5_plan_26 rfl (lv_at hl 0 rfl) ?_
      refine pgQ 5 4 1 (by decide) rfl (by decide) rfl rfl C w hi5 (by decide +kernel) dX5_plan_27 (oP5 hX) hS.2.2.2.2.2.1 ?_
      refine pgI 1 3 (by decide) rfl (by decide) (Or.inl rfl) rfl C w hi1 (by decide +kernel) dX5_plan_30 (oP1 hX) (v := nI nr) hnr ?_
      refine lv_istore_n hx hb dX5_plan_33 rfl hl (by decide) rfl (fun ls hl => ?_)
      refine lv_aload_n hx hb dX5_plan_34 rfl (lv_at hl 1 rfl) ?_
      refine pgQ 5 4 1 (by decide) rfl (by decide) rfl rfl C w hi5 (by decide +kernel) dX5_plan_35 (oP5 hX) hS.2.2.2.2.2.1 ?_
      refine lv_aload_n hx hb dX5_plan_38 rfl (lv_at hl 1 rfl) ?_
      refine pgQ 5 0 10 (by decide) rfl (by decide) rfl rfl C w hi5 (by decide +kernel) dX5_plan_39 (oP5 hX) hS.2.2.1 ?_
      refine lv_iload_n hx hb dX5_plan_42 rfl (lv_at hl 2 rfl) ?_
      refine paQ C w dX5_plan_43 (oP10 hX (by decide)) (n := jn a) (jn_eq ha) (oN100 hX) (by omega) (by decide) (r1 := jn a) (lk10 hS (by omega)) ?_
      refine cvV (n := 1) C w hl dX5_plan_44 (c_X1_begin l G hX S hS (jn a) (by omega)) gX5_plan_X1_begin rfl (by decide +kernel) rfl rfl (Nat.le_of_ble_eq_true rfl) ⟨by decide, by decide⟩ (by decide) rfl (oP1 hX) (fun S4 H locs hp w => ?_)
      refine lv_iload_n hx hb dX5_plan_47 rfl (lv_at hl 0 rfl) ?_
      exact hret _ _ _ _ _ _ dX5_plan_48 w (by unfold spPlan; rw [if_pos ha, if_neg (no_of q2 c_20)]; exact ⟨rfl, hp⟩)
    · refine lv_bipush (v := (-11)) hx hb dX5_plan_23 (by decide) ?_
      exact hret _ _ _ _ _ _ dX5_plan_25 w (by unfold spPlan; rw [if_pos ha, if_pos (yes_of q2 c_20)]; exact ⟨rfl, rfl⟩)
  · refine lv_bipush (v := (-2)) hx hb dX5_plan_8 (by decide) ?_
    exact hret _ _ _ _ _ _ dX5_plan_10 w (by unfold spPlan; rw [if_neg (no_of q1 c_5)]; exact ⟨rfl, rfl⟩)

set_option maxHeartbeats 4000000 in
set_option maxRecDepth 100000 in
/-- rule -/
theorem c_X5_rule (l : Launch) (G : GT) (hX : okX G) (S : PS) (n : Nat) (hn : sI S 5 0 1 = nI n) (hn60 : n ≤ 60) (nr z : Nat) (wr : Nat → Nat) (hpl : plX S nr wr z)(hsz : ∀ i, i < n → 0 ≤ (sI S 2 i 2).toInt ∧ (sI S 2 i 2).toInt ≤ 12)(hwr : ∀ i, i < 12 → 60 ≤ wr i) (a : Int32) : CtI l G yX5_rule wsX5_rule (rmK 4 87) [.ref (gA G 5 0), .int a] S (fun v S2 => spRule n nr (fun j => sI S 2 j 0) (fun j => sI S 2 j 1) (fun j => sI S 2 j 2) (sI S 2 78 0) (sI S 2 78 1) (sI S 2 78 2) a v (S2 = S) (S2 = uI (uI (rwk (fm S (wr nr) (sI S 2 (jn a) 0) (sI S 2 (jn a) 1) (sI S 2 (jn a) 2)) (wr nr) (sJ S 9 (jn a)) (sJ S 9 (wr nr)) (jn (sI S 2 (jn a) 2))) 8 0 nr 0) 1 0 3 (nI (nr + 1)))) := by
  refine ofCtI (cc := cX5_rule) (nL := 3) RX5 (by decide +kernel) rfl rfl (Nat.le_of_ble_eq_true rfl) ?_
  intro p e s m args below meth c A Q ls C w hl hret
  have hx := C.1
  have hb := C.2.1
  have hown := C.2.2.2.1
  have hts := C.2.2.2.2.1
  have hi1 : ∀ w ∈ wsX10, w ∈ wsX5_rule := by decide +kernel
  have hi5 : ∀ w ∈ wsX50, w ∈ wsX5_rule := by decide +kernel
  have hS := hpl.lk
  have hr12 := hpl.n12
  refine lv_aload_n hx hb dX5_rule_0 rfl (lv_at hl 0 rfl) ?_
  refine lv_iload_n hx hb dX5_rule_1 rfl (lv_at hl 1 rfl) ?_
  refine cvI (n := 1) C w hl dX5_rule_2 (c_X5_isNumber l G hX S n hn hn60 a) gX5_rule_X5_isNumber rfl (by decide +kernel) rfl rfl (Nat.le_of_ble_eq_true rfl) ⟨by decide, by decide⟩ (by decide) rfl (oP5 hX) (fun v1 S9 H locs hp w => ?_)
  obtain ⟨q1, e0⟩ := hp
  rw [e0] at w
  refine lv_if_ne (tgt := 11) hx hb dX5_rule_5 (by decide) (fun c_5 => ?_) (fun c_5 => ?_)
  · have ha := yes_of q1 c_5
    have hja := jn_lt ha
    refine lv_aload_n hx hb dX5_rule_11 rfl (lv_at hl 0 rfl) ?_
    refine pgQ 5 4 1 (by decide) rfl (by decide) rfl rfl C w hi5 (by decide +kernel) dX5_rule_12 (oP5 hX) hS.2.2.2.2.2.1 ?_
    refine pgI 1 3 (by decide) rfl (by decide) (Or.inl rfl) rfl C w hi1 (by decide +kernel) dX5_rule_15 (oP1 hX) (v := nI nr) hpl.n ?_
    refine lv_bipush (v := 12) hx hb dX5_rule_18 (by decide) ?_
    refine lv_icmp_lt (tgt := 26) hx hb dX5_rule_20 (by decide) (fun c_20 => ?_) (fun c_20 => ?_)
    · have hf : ¬ nr = 12 := by have := (nI_ltI (a := nr) (b := 12) (by omega) (by decide)).mp c_20; omega
      refine lv_aload_n hx hb dX5_rule_26 rfl (lv_at hl 0 rfl) ?_
      refine pgQ 5 0 10 (by decide) rfl (by decide) rfl rfl C w hi5 (by decide +kernel) dX5_rule_27 (oP5 hX) hS.2.2.1 ?_
      refine lv_iload_n hx hb dX5_rule_30 rfl (lv_at hl 1 rfl) ?_
      refine paQ C w dX5_rule_31 (oP10 hX (by decide)) (n := jn a) (jn_eq ha) (oN100 hX) (by omega) (by decide) (r1 := jn a) (lk10 hS (by omega)) ?_
      refine lv_aload_n hx hb dX5_rule_32 rfl (lv_at hl 0 rfl) ?_
      refine pgQ 5 4 1 (by decide) rfl (by decide) rfl rfl C w hi5 (by decide +kernel) dX5_rule_33 (oP5 hX) hS.2.2.2.2.2.1 ?_
      refine pgQ 1 0 2 (by decide) rfl (by decide) rfl rfl C w hi1 (by decide +kernel) dX5_rule_36 (oP1 hX) (r1 := 78) hS.2.2.2.2.2.2.2.2.2.2.1 ?_
      refine csI (n := 2) C w hl dX5_rule_39 (c_X5_failureOfPair l G hX S (jn a) 78 (by omega) (by decide)) gX5_rule_X5_failureOfPair rfl (by decide +kernel) rfl rfl (Nat.le_of_ble_eq_true rfl) ⟨by decide, by decide⟩ (fun v3 S3 H locs hp w => ?_)
      obtain ⟨q3, e0⟩ := hp
      rw [e0] at w
      refine lv_istore_n hx hb dX5_rule_42 rfl hl (by decide) rfl (fun ls hl => ?_)
      refine lv_iload_n hx hb dX5_rule_43 rfl (lv_at hl 0 rfl) ?_
      refine lv_if_eq (tgt := 49) hx hb dX5_rule_44 (by decide) (fun c_44 => ?_) (fun c_44 => ?_)
      · refine lv_aload_n hx hb dX5_rule_49 rfl (lv_at hl 1 rfl) ?_
        refine pgQ 5 4 1 (by decide) rfl (by decide) rfl rfl C w hi5 (by decide +kernel) dX5_rule_50 (oP5 hX) hS.2.2.2.2.2.1 ?_
        refine lv_aload_n hx hb dX5_rule_53 rfl (lv_at hl 1 rfl) ?_
        refine pgQ 5 0 10 (by decide) rfl (by decide) rfl rfl C w hi5 (by decide +kernel) dX5_rule_54 (oP5 hX) hS.2.2.1 ?_
        refine lv_iload_n hx hb dX5_rule_57 rfl (lv_at hl 2 rfl) ?_
        refine paQ C w dX5_rule_58 (oP10 hX (by decide)) (n := jn a) (jn_eq ha) (oN100 hX) (by omega) (by decide) (r1 := jn a) (lk10 hS (by omega)) ?_
        refine cvI (n := 1) C w hl dX5_rule_59 (c_X1_addRule l G hX S nr z wr hpl (jn a) (jn (sI S 2 (jn a) 2)) (by omega) (by have := hwr nr (by omega); omega) (by omega) (nI_jn (hsz _ hja).1) (by have := hsz _ hja; unfold jn at *; omega)) gX5_rule_X1_addRule rfl (by decide +kernel) rfl rfl (Nat.le_of_ble_eq_true rfl) ⟨by decide, by decide⟩ (by decide) rfl (oP1 hX) (fun v4 S4 H locs hp w => ?_)
        exact hret _ _ _ _ _ _ dX5_rule_62 w (by unfold spRule; rw [if_pos ha, if_neg hf, if_pos (by rw [← q3]; exact c_44)]; exact hp)
      · refine lv_iload_n hx hb dX5_rule_47 rfl (lv_at hl 0 rfl) ?_
        exact hret _ _ _ _ _ _ dX5_rule_48 w (by unfold spRule; rw [if_pos ha, if_neg hf, if_neg (by rw [← q3]; exact c_44)]; exact ⟨q3, rfl⟩)
    · have hf : nr = 12 := by have := mt (nI_ltI (a := nr) (b := 12) (by omega) (by decide)).mpr c_20; omega
      refine lv_bipush (v := (-4)) hx hb dX5_rule_23 (by decide) ?_
      exact hret _ _ _ _ _ _ dX5_rule_25 w (by unfold spRule; rw [if_pos ha, if_pos hf]; exact ⟨rfl, rfl⟩)
  · refine lv_bipush (v := (-2)) hx hb dX5_rule_8 (by decide) ?_
    exact hret _ _ _ _ _ _ dX5_rule_10 w (by unfold spRule; rw [if_neg (no_of q1 c_5)]; exact ⟨rfl, rfl⟩)

set_option maxHeartbeats 4000000 in
set_option maxRecDepth 100000 in
/-- count -/
theorem c_X5_count (l : Launch) (G : GT) (hX : okX G) (S : PS) (nr z : Nat) (wr : Nat → Nat) (hpl : plX S nr wr z) (i q : Int32) : CtI l G yX5_count wsX5_count (rmK 5 116) [.ref (gA G 5 0), .int i, .int q] S (fun v S2 => spCount nr (sI S 8 0) (fitS (uI S 8 0 (jn i) q) nr wr z) i q v (eq4 S S2) (eq4 (uI S 8 0 (jn i) q) S2)) := by
  refine ofCtI (cc := cX5_count) (nL := 4) RX5 (by decide +kernel) rfl rfl (Nat.le_of_ble_eq_true rfl) ?_
  intro p e s m args below meth c A Q ls C w hl hret
  have hx := C.1
  have hb := C.2.1
  have hown := C.2.2.2.1
  have hts := C.2.2.2.2.1
  have hi1 : ∀ w ∈ wsX10, w ∈ wsX5_count := by decide +kernel
  have hi5 : ∀ w ∈ wsX50, w ∈ wsX5_count := by decide +kernel
  have hS := hpl.lk
  have hr12 := hpl.n12
  refine lv_aload_n hx hb dX5_count_0 rfl (lv_at hl 0 rfl) ?_
  refine pgQ 5 4 1 (by decide) rfl (by decide) rfl rfl C w hi5 (by decide +kernel) dX5_count_1 (oP5 hX) hS.2.2.2.2.2.1 ?_
  refine lv_iload_n hx hb dX5_count_4 rfl (lv_at hl 1 rfl) ?_
  refine cvI (n := 1) C w hl dX5_count_5 (c_X1_hasRule l G hX S i) gX5_count_X1_hasRule rfl (by decide +kernel) rfl rfl (Nat.le_of_ble_eq_true rfl) ⟨by decide, by decide⟩ (by decide) rfl (oP1 hX) (fun v1 S9 H locs hp w => ?_)
  obtain ⟨q1, e0⟩ := hp
  rw [e0] at w
  replace q1 := hl_of q1
  rw [hpl.n, nI_toInt (by omega)] at q1
  refine lv_if_ne (tgt := 14) hx hb dX5_count_8 (by decide) (fun c_8 => ?_) (fun c_8 => ?_)
  · have hin := yes_of q1 c_8
    have hj := jn_lt hin
    refine lv_iload_n hx hb dX5_count_14 rfl (lv_at hl 2 rfl) ?_
    refine csI (n := 1) C w hl dX5_count_15 (c_X5_isCount l G S q) gX5_count_X5_isCount rfl (by decide +kernel) rfl rfl (Nat.le_of_ble_eq_true rfl) ⟨by decide, by decide⟩ (fun v2 S8 H locs hp w => ?_)
    obtain ⟨q2, e0⟩ := hp
    rw [e0] at w
    refine lv_if_ne (tgt := 24) hx hb dX5_count_18 (by decide) (fun c_18 => ?_) (fun c_18 => ?_)
    · have hq := yes_of q2 c_18
      have hqi : i = nI (jn i) := jn_eq hin
      refine lv_aload_n hx hb dX5_count_24 rfl (lv_at hl 0 rfl) ?_
      refine pgQ 5 4 1 (by decide) rfl (by decide) rfl rfl C w hi5 (by decide +kernel) dX5_count_25 (oP5 hX) hS.2.2.2.2.2.1 ?_
      refine pgQ 1 2 8 (by decide) rfl (by decide) rfl rfl C w hi1 (by decide +kernel) dX5_count_28 (oP1 hX) hS.2.2.2.2.2.2.2.2.2.2.2.2.1 ?_
      refine lv_iload_n hx hb dX5_count_31 rfl (lv_at hl 1 rfl) ?_
      refine paI C w dX5_count_32 (oP8 hX) (n := jn i) hqi (oN8 hX) (by omega) (by decide) rfl ?_
      refine lv_istore_n hx hb dX5_count_33 rfl hl (by decide) rfl (fun ls hl => ?_)
      refine lv_aload_n hx hb dX5_count_34 rfl (lv_at hl 1 rfl) ?_
      refine pgQ 5 4 1 (by decide) rfl (by decide) rfl rfl C w hi5 (by decide +kernel) dX5_count_35 (oP5 hX) hS.2.2.2.2.2.1 ?_
      refine lv_iload_n hx hb dX5_count_38 rfl (lv_at hl 2 rfl) ?_
      refine lv_iload_n hx hb dX5_count_39 rfl (lv_at hl 3 rfl) ?_
      have hct := c_X1_changeCount l G hX S nr z wr hpl (jn i) q hj ⟨hq.1, by have := hq.2; omega⟩
      rw [← hqi] at hct
      refine cvI (n := 2) C w hl dX5_count_40 hct gX5_count_X1_changeCount rfl (by decide +kernel) rfl rfl (Nat.le_of_ble_eq_true rfl) ⟨by decide, by decide⟩ (by decide) rfl (oP1 hX) (fun v4 S4 H locs hp w => ?_)
      refine lv_if_eq (tgt := 50) hx hb dX5_count_43 (by decide) (fun c_43 => ?_) (fun c_43 => ?_)
      · have hf : ¬ fitS (uI S 8 0 (jn i) q) nr wr z ∧ eq4 S S4 := by
          rcases hp with h | h
          · rw [h.1] at c_43; exact absurd c_43 (by decide)
          · exact h.2
        refine lv_bipush (v := (-16)) hx hb dX5_count_50 (by decide) ?_
        exact hret _ _ _ _ _ _ dX5_count_52 w (by unfold spCount; rw [if_pos hin, if_pos hq]; first | exact Or.inl ⟨hf.1, rfl, hf.2⟩ | exact Or.inr ⟨hf.1, rfl, hf.2⟩)
      · have hf : fitS (uI S 8 0 (jn i) q) nr wr z ∧ eq4 (uI S 8 0 (jn i) q) S4 := by
          rcases hp with h | h
          · exact h.2
          · exact absurd h.1 c_43
        refine lv_iload_n hx hb dX5_count_46 rfl (lv_at hl 0 rfl) ?_
        refine lv_goto (tgt := 52) hx hb dX5_count_47 (by decide) ?_
        exact hret _ _ _ _ _ _ dX5_count_52 w (by unfold spCount; rw [if_pos hin, if_pos hq]; first | exact Or.inl ⟨hf.1, rfl, hf.2⟩ | exact Or.inr ⟨hf.1, rfl, hf.2⟩)
    · refine lv_bipush (v := (-3)) hx hb dX5_count_21 (by decide) ?_
      exact hret _ _ _ _ _ _ dX5_count_23 w (by unfold spCount; rw [if_pos hin, if_neg (no_of q2 c_18)]; exact ⟨rfl, eq4.rf S⟩)
  · refine lv_bipush (v := (-2)) hx hb dX5_count_11 (by decide) ?_
    exact hret _ _ _ _ _ _ dX5_count_13 w (by unfold spCount; rw [if_neg (no_of q1 c_8)]; exact ⟨rfl, eq4.rf S⟩)

set_option maxHeartbeats 4000000 in
set_option maxRecDepth 100000 in
/-- weight -/
theorem c_X5_weight (l : Launch) (G : GT) (hX : okX G) (S : PS) (n : Nat) (hn : sI S 5 0 1 = nI n) (hn60 : n ≤ 60) (nr z : Nat) (wr : Nat → Nat) (hpl : plX S nr wr z) (sp : Nat) (hsp : sQ S 1 0 6 = some sp) (hs60 : 60 ≤ sp) (hs78 : sp < 78) (i a : Int32) : CtI l G yX5_weight wsX5_weight (rmK 5 115) [.ref (gA G 5 0), .int i, .int a] S (fun v S2 => spWeight n nr (fun j => sI S 2 j 0) (fun j => sI S 2 j 1) (fun j => sI S 2 j 2) (sI S 2 78 0) (sI S 2 78 1) (sI S 2 78 2) (fitS (trd (rwk (fm S sp (sI S 2 (jn a) 0) (sI S 2 (jn a) 1) (sI S 2 (jn a) 2)) sp (sJ S 9 (jn a)) (sJ S 9 sp) z) (jn i) (wr (jn i)) sp) nr (va_up wr (jn i) sp) z) i a v (S2 = S ∨ eq4 (rwk (fm S sp (sI S 2 (jn a) 0) (sI S 2 (jn a) 1) (sI S 2 (jn a) 2)) sp (sJ S 9 (jn a)) (sJ S 9 sp) z) S2) (eq4 (trd (rwk (fm S sp (sI S 2 (jn a) 0) (sI S 2 (jn a) 1) (sI S 2 (jn a) 2)) sp (sJ S 9 (jn a)) (sJ S 9 sp) z) (jn i) (wr (jn i)) sp) S2)) := by
  refine ofCtI (cc := cX5_weight) (nL := 4) RX5 (by decide +kernel) rfl rfl (Nat.le_of_ble_eq_true rfl) ?_
  intro p e s m args below meth c A Q ls C w hl hret
  have hx := C.1
  have hb := C.2.1
  have hown := C.2.2.2.1
  have hts := C.2.2.2.2.1
  have hi1 : ∀ w ∈ wsX10, w ∈ wsX5_weight := by decide +kernel
  have hi5 : ∀ w ∈ wsX50, w ∈ wsX5_weight := by decide +kernel
  have hS := hpl.lk
  have hr12 := hpl.n12
  refine lv_aload_n hx hb dX5_weight_0 rfl (lv_at hl 0 rfl) ?_
  refine pgQ 5 4 1 (by decide) rfl (by decide) rfl rfl C w hi5 (by decide +kernel) dX5_weight_1 (oP5 hX) hS.2.2.2.2.2.1 ?_
  refine lv_iload_n hx hb dX5_weight_4 rfl (lv_at hl 1 rfl) ?_
  refine cvI (n := 1) C w hl dX5_weight_5 (c_X1_hasRule l G hX S i) gX5_weight_X1_hasRule rfl (by decide +kernel) rfl rfl (Nat.le_of_ble_eq_true rfl) ⟨by decide, by decide⟩ (by decide) rfl (oP1 hX) (fun v1 S9 H locs hp w => ?_)
  obtain ⟨q1, e0⟩ := hp
  rw [e0] at w
  replace q1 := hl_of q1
  rw [hpl.n, nI_toInt (by omega)] at q1
  refine lv_if_eq (tgt := 19) hx hb dX5_weight_8 (by decide) (fun c_8 => ?_) (fun c_8 => ?_)
  · refine lv_bipush (v := (-2)) hx hb dX5_weight_19 (by decide) ?_
    exact hret _ _ _ _ _ _ dX5_weight_21 w (by unfold spWeight; rw [if_neg (fun q => by first | exact no_of q1 c_8 q.1 | exact no_of q2 c_16 q.2)]; exact ⟨rfl, Or.inl rfl⟩)
  · refine lv_aload_n hx hb dX5_weight_11 rfl (lv_at hl 0 rfl) ?_
    refine lv_iload_n hx hb dX5_weight_12 rfl (lv_at hl 2 rfl) ?_
    refine cvI (n := 1) C w hl dX5_weight_13 (c_X5_isNumber l G hX S n hn hn60 a) gX5_weight_X5_isNumber rfl (by decide +kernel) rfl rfl (Nat.le_of_ble_eq_true rfl) ⟨by decide, by decide⟩ (by decide) rfl (oP5 hX) (fun v2 S9 H locs hp w => ?_)
    obtain ⟨q2, e0⟩ := hp
    rw [e0] at w
    refine lv_if_ne (tgt := 22) hx hb dX5_weight_16 (by decide) (fun c_16 => ?_) (fun c_16 => ?_)
    · have hin := yes_of q1 c_8
      have hj := jn_lt hin
      have ha := yes_of q2 c_16
      have hja := jn_lt ha
      have hqi : i = nI (jn i) := jn_eq hin
      refine lv_aload_n hx hb dX5_weight_22 rfl (lv_at hl 0 rfl) ?_
      refine pgQ 5 0 10 (by decide) rfl (by decide) rfl rfl C w hi5 (by decide +kernel) dX5_weight_23 (oP5 hX) hS.2.2.1 ?_
      refine lv_iload_n hx hb dX5_weight_26 rfl (lv_at hl 2 rfl) ?_
      refine paQ C w dX5_weight_27 (oP10 hX (by decide)) (n := jn a) (jn_eq ha) (oN100 hX) (by omega) (by decide) (r1 := jn a) (lk10 hS (by omega)) ?_
      refine lv_aload_n hx hb dX5_weight_28 rfl (lv_at hl 0 rfl) ?_
      refine pgQ 5 4 1 (by decide) rfl (by decide) rfl rfl C w hi5 (by decide +kernel) dX5_weight_29 (oP5 hX) hS.2.2.2.2.2.1 ?_
      refine pgQ 1 0 2 (by decide) rfl (by decide) rfl rfl C w hi1 (by decide +kernel) dX5_weight_32 (oP1 hX) (r1 := 78) hS.2.2.2.2.2.2.2.2.2.2.1 ?_
      refine csI (n := 2) C w hl dX5_weight_35 (c_X5_failureOfPair l G hX S (jn a) 78 (by omega) (by decide)) gX5_weight_X5_failureOfPair rfl (by decide +kernel) rfl rfl (Nat.le_of_ble_eq_true rfl) ⟨by decide, by decide⟩ (fun v3 S3 H locs hp w => ?_)
      obtain ⟨q3, e0⟩ := hp
      rw [e0] at w
      refine lv_istore_n hx hb dX5_weight_38 rfl hl (by decide) rfl (fun ls hl => ?_)
      refine lv_iload_n hx hb dX5_weight_39 rfl (lv_at hl 0 rfl) ?_
      refine lv_if_eq (tgt := 45) hx hb dX5_weight_40 (by decide) (fun c_40 => ?_) (fun c_40 => ?_)
      · have hpf := pairF_0 (q3.symm.trans c_40)
        refine lv_aload_n hx hb dX5_weight_45 rfl (lv_at hl 1 rfl) ?_
        refine pgQ 5 4 1 (by decide) rfl (by decide) rfl rfl C w hi5 (by decide +kernel) dX5_weight_46 (oP5 hX) hS.2.2.2.2.2.1 ?_
        refine lv_iload_n hx hb dX5_weight_49 rfl (lv_at hl 2 rfl) ?_
        refine lv_aload_n hx hb dX5_weight_50 rfl (lv_at hl 1 rfl) ?_
        refine pgQ 5 0 10 (by decide) rfl (by decide) rfl rfl C w hi5 (by decide +kernel) dX5_weight_51 (oP5 hX) hS.2.2.1 ?_
        refine lv_iload_n hx hb dX5_weight_54 rfl (lv_at hl 3 rfl) ?_
        refine paQ C w dX5_weight_55 (oP10 hX (by decide)) (n := jn a) (jn_eq ha) (oN100 hX) (by omega) (by decide) (r1 := jn a) (lk10 hS (by omega)) ?_
        have hct := c_X1_changeWeight l G hX S nr z wr hpl (jn i) sp (jn a) (by omega) hsp (by omega) (by omega) (by omega) (by omega) (by rw [hpf.2.2.2.2]; exact hpl.z)
        rw [← hqi] at hct
        refine cvI (n := 2) C w hl dX5_weight_56 hct gX5_weight_X1_changeWeight rfl (by decide +kernel) rfl rfl (Nat.le_of_ble_eq_true rfl) ⟨by decide, by decide⟩ (by decide) rfl (oP1 hX) (fun v4 S4 H locs hp w => ?_)
        refine lv_if_eq (tgt := 66) hx hb dX5_weight_59 (by decide) (fun c_59 => ?_) (fun c_59 => ?_)
        · have hf : ¬ fitS (trd (rwk (fm S sp (sI S 2 (jn a) 0) (sI S 2 (jn a) 1) (sI S 2 (jn a) 2)) sp (sJ S 9 (jn a)) (sJ S 9 sp) z) (jn i) (wr (jn i)) sp) nr (va_up wr (jn i) sp) z ∧ eq4 (rwk (fm S sp (sI S 2 (jn a) 0) (sI S 2 (jn a) 1) (sI S 2 (jn a) 2)) sp (sJ S 9 (jn a)) (sJ S 9 sp) z) S4 := by
            rcases hp with h | h
            · rw [h.1] at c_59; exact absurd c_59 (by decide)
            · exact h.2
          refine lv_bipush (v := (-16)) hx hb dX5_weight_66 (by decide) ?_
          exact hret _ _ _ _ _ _ dX5_weight_68 w (by unfold spWeight; rw [if_pos ⟨hin, ha⟩, if_pos (by rw [← q3]; exact c_40)]; first | exact Or.inl ⟨hf.1, rfl, hf.2⟩ | exact Or.inr ⟨hf.1, rfl, Or.inr hf.2⟩)
        · have hf : fitS (trd (rwk (fm S sp (sI S 2 (jn a) 0) (sI S 2 (jn a) 1) (sI S 2 (jn a) 2)) sp (sJ S 9 (jn a)) (sJ S 9 sp) z) (jn i) (wr (jn i)) sp) nr (va_up wr (jn i) sp) z ∧ eq4 (trd (rwk (fm S sp (sI S 2 (jn a) 0) (sI S 2 (jn a) 1) (sI S 2 (jn a) 2)) sp (sJ S 9 (jn a)) (sJ S 9 sp) z) (jn i) (wr (jn i)) sp) S4 := by
            rcases hp with h | h
            · exact h.2
            · exact absurd h.1 c_59
          refine lv_iconst (v := 1) hx hb dX5_weight_62 (by decide) ?_
          refine lv_goto (tgt := 68) hx hb dX5_weight_63 (by decide) ?_
          exact hret _ _ _ _ _ _ dX5_weight_68 w (by unfold spWeight; rw [if_pos ⟨hin, ha⟩, if_pos (by rw [← q3]; exact c_40)]; first | exact Or.inl ⟨hf.1, rfl, hf.2⟩ | exact Or.inr ⟨hf.1, rfl, Or.inr hf.2⟩)
      · refine lv_iload_n hx hb dX5_weight_43 rfl (lv_at hl 0 rfl) ?_
        exact hret _ _ _ _ _ _ dX5_weight_44 w (by unfold spWeight; rw [if_pos ⟨hin, ha⟩, if_neg (by rw [← q3]; exact c_40)]; exact ⟨q3, Or.inl rfl⟩)
    · refine lv_bipush (v := (-2)) hx hb dX5_weight_19 (by decide) ?_
      exact hret _ _ _ _ _ _ dX5_weight_21 w (by unfold spWeight; rw [if_neg (fun q => by first | exact no_of q1 c_8 q.1 | exact no_of q2 c_16 q.2)]; exact ⟨rfl, Or.inl rfl⟩)

set_option maxHeartbeats 4000000 in
set_option maxRecDepth 100000 in
/-- total -/
theorem c_X5_total (l : Launch) (G : GT) (hX : okX G) (S : PS) (n : Nat) (hn : sI S 5 0 1 = nI n) (hn60 : n ≤ 60) (nr z : Nat) (wr : Nat → Nat) (hpl : plX S nr wr z)(hwr : ∀ i, i < 12 → 60 ≤ wr i) (i : Int32) : CtI l G yX5_total wsX5_total (rmK 3 73) [.ref (gA G 5 0), .int i] S (fun v S2 => spTotal n nr i v (S2 = S) (nw S S2 n (sI S 2 78 0) (sI S 2 78 1) z (fun k => Int64.ofInt (sumV (fun i => sJ S 9 (wr i) k) (sI S 8 0) nr))) (fun j => nw S S2 n (sI S 2 78 0) (sI S 2 78 1) z (fun k => Int64.ofInt ((sJ S 9 (wr j) k).toInt * (sI S 8 0 j).toInt)))) := by
  refine ofCtI (cc := cX5_total) (nL := 2) RX5 (by decide +kernel) rfl rfl (Nat.le_of_ble_eq_true rfl) ?_
  intro p e s m args below meth c A Q ls C w hl hret
  have hx := C.1
  have hb := C.2.1
  have hown := C.2.2.2.1
  have hts := C.2.2.2.2.1
  have hi5 : ∀ w ∈ wsX50, w ∈ wsX5_total := by decide +kernel
  have hS := hpl.lk
  have hr12 := hpl.n12
  have join_19 : ∀  (H : Heap) (locs : List Loc) (ls : Array Slot), i = -1 ∨ (¬ i = -1 ∧ inN i nr) → Wd G A s.heap S H locs → lv_has ls 2 [(0, .ref (gA G 5 0)), (1, .int i)] → W p l e (rmK 3 73) s m args below meth c H locs 0 0 Q (F0 m 19 ls []) := by
    intro  H locs ls hii w hl
    refine lv_aload_n hx hb dX5_total_19 rfl (lv_at hl 0 rfl) ?_
    refine cvI (n := 0) C w hl dX5_total_20 (c_X5_isFull l G hX S n hn hn60) gX5_total_X5_isFull rfl (by decide +kernel) rfl rfl (Nat.le_of_ble_eq_true rfl) ⟨by decide, by decide⟩ (by decide) rfl (oP5 hX) (fun v8 S8 H locs hp w => ?_)
    obtain ⟨qF, e0⟩ := hp
    rw [e0] at w
    refine lv_if_eq (tgt := 29) hx hb dX5_total_23 (by decide) (fun c_23 => ?_) (fun c_23 => ?_)
    · have hnf := no_of qF c_23
      refine lv_iload_n hx hb dX5_total_29 rfl (lv_at hl 1 rfl) ?_
      refine lv_iconst (v := (-1)) hx hb dX5_total_30 (by decide) ?_
      refine lv_icmp_ne (tgt := 53) hx hb dX5_total_31 (by decide) (fun c_31 => ?_) (fun c_31 => ?_)
      · have hin : inN i nr := hii.elim (fun h => absurd h c_31) (fun h => h.2)
        have hj := jn_lt hin
        have hqi : i = nI (jn i) := jn_eq hin
        refine lv_aload_n hx hb dX5_total_53 rfl (lv_at hl 0 rfl) ?_
        refine pgQ 5 4 1 (by decide) rfl (by decide) rfl rfl C w hi5 (by decide +kernel) dX5_total_54 (oP5 hX) hS.2.2.2.2.2.1 ?_
        refine lv_iload_n hx hb dX5_total_57 rfl (lv_at hl 1 rfl) ?_
        refine lv_aload_n hx hb dX5_total_58 rfl (lv_at hl 0 rfl) ?_
        refine pgQ 5 0 10 (by decide) rfl (by decide) rfl rfl C w hi5 (by decide +kernel) dX5_total_59 (oP5 hX) hS.2.2.1 ?_
        refine lv_aload_n hx hb dX5_total_62 rfl (lv_at hl 0 rfl) ?_
        refine pgI 5 1 (by decide) rfl (by decide) (Or.inl rfl) rfl C w hi5 (by decide +kernel) dX5_total_63 (oP5 hX) (v := nI n) hn ?_
        refine paQ C w dX5_total_66 (oP10 hX (by decide)) rfl (oN100 hX) (by omega) (by decide) (r1 := n) (lk10 hS (by omega)) ?_
        have hct := c_X1_partInto l G hX S nr z wr hpl n (by omega) (fun i hi => by have := hwr i hi; omega) (jn i) hj
        rw [← hqi] at hct
        refine cvV (n := 2) C w hl dX5_total_67 hct gX5_total_X1_partInto rfl (by decide +kernel) rfl rfl (Nat.le_of_ble_eq_true rfl) ⟨by decide, by decide⟩ (by decide) rfl (oP1 hX) (fun S4 H locs hp w => ?_)
        have hh := (hs_rwk S n (sI S 2 78 0) (sI S 2 78 1) (sI S 2 78 2) z hpl.z (fun k => Int64.ofInt ((sJ S 9 (wr (jn i)) k).toInt * (sI S 8 0 (jn i)).toInt)) (sJ S 9 n)).of4 hp
        refine lv_aload_n hx hb dX5_total_70 rfl (lv_at hl 0 rfl) ?_
        refine cvI (n := 0) C w hl dX5_total_71 (c_X5_takeNumber l G hX S4 n (by rw [hh.n]; exact hn) hn60) gX5_total_X5_takeNumber rfl (by decide +kernel) rfl rfl (Nat.le_of_ble_eq_true rfl) ⟨by decide, by decide⟩ (by decide) rfl (oP5 hX) (fun v5 S5 H locs hp5 w => ?_)
        obtain ⟨e5, e6⟩ := hp5
        rw [e6] at w
        exact hret _ _ _ _ _ _ dX5_total_74 w (by unfold spTotal; first | (rw [if_pos c_31, if_neg hnf]; exact ⟨e5, hh.nw hn⟩) | (rw [if_neg c_31, if_pos hin, if_neg hnf]; exact ⟨e5, hh.nw hn⟩))
      · refine lv_aload_n hx hb dX5_total_34 rfl (lv_at hl 0 rfl) ?_
        refine pgQ 5 4 1 (by decide) rfl (by decide) rfl rfl C w hi5 (by decide +kernel) dX5_total_35 (oP5 hX) hS.2.2.2.2.2.1 ?_
        refine lv_aload_n hx hb dX5_total_38 rfl (lv_at hl 0 rfl) ?_
        refine pgQ 5 0 10 (by decide) rfl (by decide) rfl rfl C w hi5 (by decide +kernel) dX5_total_39 (oP5 hX) hS.2.2.1 ?_
        refine lv_aload_n hx hb dX5_total_42 rfl (lv_at hl 0 rfl) ?_
        refine pgI 5 1 (by decide) rfl (by decide) (Or.inl rfl) rfl C w hi5 (by decide +kernel) dX5_total_43 (oP5 hX) (v := nI n) hn ?_
        refine paQ C w dX5_total_46 (oP10 hX (by decide)) rfl (oN100 hX) (by omega) (by decide) (r1 := n) (lk10 hS (by omega)) ?_
        refine cvV (n := 1) C w hl dX5_total_47 (c_X1_sumInto l G hX S nr z wr hpl n (by omega) (fun i hi => by have := hwr i hi; omega)) gX5_total_X1_sumInto rfl (by decide +kernel) rfl rfl (Nat.le_of_ble_eq_true rfl) ⟨by decide, by decide⟩ (by decide) rfl (oP1 hX) (fun S4 H locs hp w => ?_)
        have hh := (hs_rwk S n (sI S 2 78 0) (sI S 2 78 1) (sI S 2 78 2) z hpl.z (fun k => Int64.ofInt (sumV (fun i => sJ S 9 (wr i) k) (sI S 8 0) nr)) (sJ S 9 n)).of4 hp
        refine lv_goto (tgt := 70) hx hb dX5_total_50 (by decide) ?_
        refine lv_aload_n hx hb dX5_total_70 rfl (lv_at hl 0 rfl) ?_
        refine cvI (n := 0) C w hl dX5_total_71 (c_X5_takeNumber l G hX S4 n (by rw [hh.n]; exact hn) hn60) gX5_total_X5_takeNumber rfl (by decide +kernel) rfl rfl (Nat.le_of_ble_eq_true rfl) ⟨by decide, by decide⟩ (by decide) rfl (oP5 hX) (fun v5 S5 H locs hp5 w => ?_)
        obtain ⟨e5, e6⟩ := hp5
        rw [e6] at w
        exact hret _ _ _ _ _ _ dX5_total_74 w (by unfold spTotal; first | (rw [if_pos c_31, if_neg hnf]; exact ⟨e5, hh.nw hn⟩) | (rw [if_neg c_31, if_pos hin, if_neg hnf]; exact ⟨e5, hh.nw hn⟩))
    · refine lv_bipush (v := (-4)) hx hb dX5_total_26 (by decide) ?_
      exact hret _ _ _ _ _ _ dX5_total_28 w (by unfold spTotal; rcases hii with h | ⟨h, h2⟩; rw [if_pos h, if_pos (yes_of qF c_23)]; exact ⟨rfl, rfl⟩; rw [if_neg h, if_pos h2, if_pos (yes_of qF c_23)]; exact ⟨rfl, rfl⟩)
  refine lv_iload_n hx hb dX5_total_0 rfl (lv_at hl 1 rfl) ?_
  refine lv_iconst (v := (-1)) hx hb dX5_total_1 (by decide) ?_
  refine lv_icmp_eq (tgt := 19) hx hb dX5_total_2 (by decide) (fun c_2 => ?_) (fun c_2 => ?_)
  · exact join_19 _ _ _ (by first | exact Or.inl c_2 | exact Or.inr ⟨c_2, yes_of q1 c_13⟩) w (lv_sub hl [0, 1] rfl)
  · refine lv_aload_n hx hb dX5_total_5 rfl (lv_at hl 0 rfl) ?_
    refine pgQ 5 4 1 (by decide) rfl (by decide) rfl rfl C w hi5 (by decide +kernel) dX5_total_6 (oP5 hX) hS.2.2.2.2.2.1 ?_
    refine lv_iload_n hx hb dX5_total_9 rfl (lv_at hl 1 rfl) ?_
    refine cvI (n := 1) C w hl dX5_total_10 (c_X1_hasRule l G hX S i) gX5_total_X1_hasRule rfl (by decide +kernel) rfl rfl (Nat.le_of_ble_eq_true rfl) ⟨by decide, by decide⟩ (by decide) rfl (oP1 hX) (fun v1 S9 H locs hp w => ?_)
    obtain ⟨q1, e0⟩ := hp
    rw [e0] at w
    replace q1 := hl_of q1
    rw [hpl.n, nI_toInt (by omega)] at q1
    refine lv_if_ne (tgt := 19) hx hb dX5_total_13 (by decide) (fun c_13 => ?_) (fun c_13 => ?_)
    · exact join_19 _ _ _ (by first | exact Or.inl c_2 | exact Or.inr ⟨c_2, yes_of q1 c_13⟩) w (lv_sub hl [0, 1] rfl)
    · refine lv_bipush (v := (-2)) hx hb dX5_total_16 (by decide) ?_
      exact hret _ _ _ _ _ _ dX5_total_18 w (by unfold spTotal; rw [if_neg c_2, if_neg (no_of q1 c_13)]; exact ⟨rfl, rfl⟩)

set_option maxHeartbeats 4000000 in
set_option maxRecDepth 100000 in
/-- safe -/
theorem c_X5_safe (l : Launch) (G : GT) (hX : okX G) (S : PS) (nr z : Nat) (wr : Nat → Nat) (hpl : plX S nr wr z) (q : Int32) : CtI l G yX5_safe wsX5_safe (rmK 3 76) [.ref (gA G 5 0), .int q] S (fun v S2 => spSafe (∀ k, k < z → in64 (sumS (fun i => sJ S 9 (wr i) k) q.toInt true nr) ∧ in64 (sumS (fun i => sJ S 9 (wr i) k) q.toInt false nr)) q v (eq4 S S2)) := by
  refine ofCtI (cc := cX5_safe) (nL := 2) RX5 (by decide +kernel) rfl rfl (Nat.le_of_ble_eq_true rfl) ?_
  intro p e s m args below meth c A Q ls C w hl hret
  have hx := C.1
  have hb := C.2.1
  have hown := C.2.2.2.1
  have hts := C.2.2.2.2.1
  have hi5 : ∀ w ∈ wsX50, w ∈ wsX5_safe := by decide +kernel
  have hS := hpl.lk
  have hr12 := hpl.n12
  refine lv_iload_n hx hb dX5_safe_0 rfl (lv_at hl 1 rfl) ?_
  refine csI (n := 1) C w hl dX5_safe_1 (c_X5_isCount l G S q) gX5_safe_X5_isCount rfl (by decide +kernel) rfl rfl (Nat.le_of_ble_eq_true rfl) ⟨by decide, by decide⟩ (fun v2 S8 H locs hp w => ?_)
  obtain ⟨q2, e0⟩ := hp
  rw [e0] at w
  refine lv_if_ne (tgt := 10) hx hb dX5_safe_4 (by decide) (fun c_4 => ?_) (fun c_4 => ?_)
  · have hq := yes_of q2 c_4
    refine lv_aload_n hx hb dX5_safe_10 rfl (lv_at hl 0 rfl) ?_
    refine pgQ 5 4 1 (by decide) rfl (by decide) rfl rfl C w hi5 (by decide +kernel) dX5_safe_11 (oP5 hX) hS.2.2.2.2.2.1 ?_
    refine lv_iload_n hx hb dX5_safe_14 rfl (lv_at hl 1 rfl) ?_
    refine cvI (n := 1) C w hl dX5_safe_15 (c_X1_bears l G hX S nr z wr hpl q ⟨hq.1, by have := hq.2; omega⟩) gX5_safe_X1_bears rfl (by decide +kernel) rfl rfl (Nat.le_of_ble_eq_true rfl) ⟨by decide, by decide⟩ (by decide) rfl (oP1 hX) (fun v4 S4 H locs hp w => ?_)
    refine lv_if_eq (tgt := 25) hx hb dX5_safe_18 (by decide) (fun c_18 => ?_) (fun c_18 => ?_)
    · refine lv_iconst (v := 0) hx hb dX5_safe_25 (by decide) ?_
      exact hret _ _ _ _ _ _ dX5_safe_26 w (by unfold spSafe; rw [if_pos hq]; first | exact ⟨Or.inl ⟨rfl, yes_of hp.1 c_18⟩, hp.2⟩ | exact ⟨Or.inr ⟨rfl, no_of hp.1 c_18⟩, hp.2⟩)
    · refine lv_iconst (v := 1) hx hb dX5_safe_21 (by decide) ?_
      refine lv_goto (tgt := 26) hx hb dX5_safe_22 (by decide) ?_
      exact hret _ _ _ _ _ _ dX5_safe_26 w (by unfold spSafe; rw [if_pos hq]; first | exact ⟨Or.inl ⟨rfl, yes_of hp.1 c_18⟩, hp.2⟩ | exact ⟨Or.inr ⟨rfl, no_of hp.1 c_18⟩, hp.2⟩)
  · refine lv_bipush (v := (-3)) hx hb dX5_safe_7 (by decide) ?_
    exact hret _ _ _ _ _ _ dX5_safe_9 w (by unfold spSafe; rw [if_neg (no_of q2 c_4)]; exact ⟨rfl, eq4.rf S⟩)

set_option maxHeartbeats 4000000 in
set_option maxRecDepth 100000 in
/-- keep -/
theorem c_X5_keep (l : Launch) (G : GT) (hX : okX G) (S : PS) (hS : lkX S) (n : Nat) (hn : sI S 5 0 1 = nI n) (hn60 : n ≤ 60)(nh z : Nat) (br : Nat → Nat) (hh : sI S 1 0 5 = nI nh) (hh5 : nh ≤ 5) (hbr : ∀ j, j < 5 → sQ S 10 2 j = some (br j) ∧ 60 ≤ br j ∧ br j < 78) (hbz : ∀ j, j < nh → sI S 2 (br j) 2 = nI z) (hpz : sI S 2 78 2 = nI z) (hz12 : z ≤ 12) (a : Int32) : CtI l G yX5_keep wsX5_keep (rmK 4 90) [.ref (gA G 5 0), .int a] S (fun v S2 => spKeep n (fun j => sI S 2 j 0) (fun j => sI S 2 j 1) (fun j => sI S 2 j 2) (sI S 2 78 0) (sI S 2 78 1) (sI S 2 78 2) (plc (fun j => cmpG (sJ S 9 (br j)) (sJ S 9 (jn a)) z 0) nh 0) a v (S2 = S) (fun p => ∃ m, m = (if nh < 5 then nh + 1 else 5) ∧ S2 = rwk (fm (admS S br m p) (br (m - 1)) (sI S 2 (jn a) 0) (sI S 2 (jn a) 1) (sI S 2 (jn a) 2)) (br (m - 1)) (sJ S 9 (jn a)) (sJ S 9 (br (m - 1))) z)) := by
  refine ofCtI (cc := cX5_keep) (nL := 3) RX5 (by decide +kernel) rfl rfl (Nat.le_of_ble_eq_true rfl) ?_
  intro p e s m args below meth c A Q ls C w hl hret
  have hx := C.1
  have hb := C.2.1
  have hown := C.2.2.2.1
  have hts := C.2.2.2.2.1
  have hi1 : ∀ w ∈ wsX10, w ∈ wsX5_keep := by decide +kernel
  have hi5 : ∀ w ∈ wsX50, w ∈ wsX5_keep := by decide +kernel
  refine lv_aload_n hx hb dX5_keep_0 rfl (lv_at hl 0 rfl) ?_
  refine lv_iload_n hx hb dX5_keep_1 rfl (lv_at hl 1 rfl) ?_
  refine cvI (n := 1) C w hl dX5_keep_2 (c_X5_isNumber l G hX S n hn hn60 a) gX5_keep_X5_isNumber rfl (by decide +kernel) rfl rfl (Nat.le_of_ble_eq_true rfl) ⟨by decide, by decide⟩ (by decide) rfl (oP5 hX) (fun v1 S9 H locs hp w => ?_)
  obtain ⟨q1, e0⟩ := hp
  rw [e0] at w
  refine lv_if_ne (tgt := 11) hx hb dX5_keep_5 (by decide) (fun c_5 => ?_) (fun c_5 => ?_)
  · have ha := yes_of q1 c_5
    have hja := jn_lt ha
    refine lv_aload_n hx hb dX5_keep_11 rfl (lv_at hl 0 rfl) ?_
    refine pgQ 5 0 10 (by decide) rfl (by decide) rfl rfl C w hi5 (by decide +kernel) dX5_keep_12 (oP5 hX) hS.2.2.1 ?_
    refine lv_iload_n hx hb dX5_keep_15 rfl (lv_at hl 1 rfl) ?_
    refine paQ C w dX5_keep_16 (oP10 hX (by decide)) (n := jn a) (jn_eq ha) (oN100 hX) (by omega) (by decide) (r1 := jn a) (lk10 hS (by omega)) ?_
    refine lv_aload_n hx hb dX5_keep_17 rfl (lv_at hl 0 rfl) ?_
    refine pgQ 5 4 1 (by decide) rfl (by decide) rfl rfl C w hi5 (by decide +kernel) dX5_keep_18 (oP5 hX) hS.2.2.2.2.2.1 ?_
    refine pgQ 1 0 2 (by decide) rfl (by decide) rfl rfl C w hi1 (by decide +kernel) dX5_keep_21 (oP1 hX) (r1 := 78) hS.2.2.2.2.2.2.2.2.2.2.1 ?_
    refine csI (n := 2) C w hl dX5_keep_24 (c_X5_failureOfPair l G hX S (jn a) 78 (by omega) (by decide)) gX5_keep_X5_failureOfPair rfl (by decide +kernel) rfl rfl (Nat.le_of_ble_eq_true rfl) ⟨by decide, by decide⟩ (fun v3 S3 H locs hp w => ?_)
    obtain ⟨q3, e0⟩ := hp
    rw [e0] at w
    refine lv_istore_n hx hb dX5_keep_27 rfl hl (by decide) rfl (fun ls hl => ?_)
    refine lv_iload_n hx hb dX5_keep_28 rfl (lv_at hl 0 rfl) ?_
    refine lv_if_eq (tgt := 34) hx hb dX5_keep_29 (by decide) (fun c_29 => ?_) (fun c_29 => ?_)
    · have hpf := pairF_0 (q3.symm.trans c_29)
      refine lv_aload_n hx hb dX5_keep_34 rfl (lv_at hl 1 rfl) ?_
      refine pgQ 5 4 1 (by decide) rfl (by decide) rfl rfl C w hi5 (by decide +kernel) dX5_keep_35 (oP5 hX) hS.2.2.2.2.2.1 ?_
      refine lv_aload_n hx hb dX5_keep_38 rfl (lv_at hl 1 rfl) ?_
      refine pgQ 5 0 10 (by decide) rfl (by decide) rfl rfl C w hi5 (by decide +kernel) dX5_keep_39 (oP5 hX) hS.2.2.1 ?_
      refine lv_iload_n hx hb dX5_keep_42 rfl (lv_at hl 2 rfl) ?_
      refine paQ C w dX5_keep_43 (oP10 hX (by decide)) (n := jn a) (jn_eq ha) (oN100 hX) (by omega) (by decide) (r1 := jn a) (lk10 hS (by omega)) ?_
      refine cvI (n := 1) C w hl dX5_keep_44 (c_X1_admit l G hX S hS nh z br hh hh5 (fun j hj => ⟨(hbr j hj).1, by have := hbr j hj; omega⟩) hbz hz12 (jn a) (by omega) (fun j hj => by have := hbr j hj; omega) (by rw [hpf.2.2.2.2]; exact hpz)) gX5_keep_X1_admit rfl (by decide +kernel) rfl rfl (Nat.le_of_ble_eq_true rfl) ⟨by decide, by decide⟩ (by decide) rfl (oP1 hX) (fun v4 S4 H locs hp w => ?_)
      exact hret _ _ _ _ _ _ dX5_keep_47 w (by unfold spKeep; rw [if_pos ha, if_pos (by rw [← q3]; exact c_29)]; rcases hp with ⟨h1, h2, h3⟩ | ⟨h1, h2, h3⟩; rw [if_pos h1]; exact ⟨h2, h3⟩; rw [if_neg (by omega)]; exact ⟨h2, h3⟩)
    · refine lv_iload_n hx hb dX5_keep_32 rfl (lv_at hl 0 rfl) ?_
      exact hret _ _ _ _ _ _ dX5_keep_33 w (by unfold spKeep; rw [if_pos ha, if_neg (by rw [← q3]; exact c_29)]; exact ⟨q3, rfl⟩)
  · refine lv_bipush (v := (-2)) hx hb dX5_keep_8 (by decide) ?_
    exact hret _ _ _ _ _ _ dX5_keep_10 w (by unfold spKeep; rw [if_neg (no_of q1 c_5)]; exact ⟨rfl, rfl⟩)

set_option maxHeartbeats 4000000 in
set_option maxRecDepth 100000 in
/-- kept -/
theorem c_X5_kept (l : Launch) (G : GT) (hX : okX G) (S : PS) (hS : lkX S) (n : Nat) (hn : sI S 5 0 1 = nI n) (hn60 : n ≤ 60)(nh z : Nat) (br : Nat → Nat) (hh : sI S 1 0 5 = nI nh) (hh5 : nh ≤ 5) (hbr : ∀ j, j < 5 → sQ S 10 2 j = some (br j) ∧ 60 ≤ br j ∧ br j < 78) (hbz : ∀ j, j < nh → sI S 2 (br j) 2 = nI z) (hpz : sI S 2 78 2 = nI z) (hz12 : z ≤ 12) (i : Int32) : CtI l G yX5_kept wsX5_kept (rmK 3 66) [.ref (gA G 5 0), .int i] S (fun v S2 => spKept n nh i v (S2 = S) (fun j => nw S S2 n (sI S 2 (br j) 0) (sI S 2 (br j) 1) z (sJ S 9 (br j)))) := by
  refine ofCtI (cc := cX5_kept) (nL := 2) RX5 (by decide +kernel) rfl rfl (Nat.le_of_ble_eq_true rfl) ?_
  intro p e s m args below meth c A Q ls C w hl hret
  have hx := C.1
  have hb := C.2.1
  have hown := C.2.2.2.1
  have hts := C.2.2.2.2.1
  have hi1 : ∀ w ∈ wsX10, w ∈ wsX5_kept := by decide +kernel
  have hi5 : ∀ w ∈ wsX50, w ∈ wsX5_kept := by decide +kernel
  refine lv_iload_n hx hb dX5_kept_0 rfl (lv_at hl 1 rfl) ?_
  refine lv_if_lt (tgt := 15) hx hb dX5_kept_1 (by decide) (fun c_1 => ?_) (fun c_1 => ?_)
  · have hin : ¬ inN i nh := inN_n1 c_1
    refine lv_bipush (v := (-2)) hx hb dX5_kept_15 (by decide) ?_
    exact hret _ _ _ _ _ _ dX5_kept_17 w (by unfold spKept; rw [if_neg hin]; exact ⟨rfl, rfl⟩)
  · refine lv_iload_n hx hb dX5_kept_4 rfl (lv_at hl 1 rfl) ?_
    refine lv_aload_n hx hb dX5_kept_5 rfl (lv_at hl 0 rfl) ?_
    refine pgQ 5 4 1 (by decide) rfl (by decide) rfl rfl C w hi5 (by decide +kernel) dX5_kept_6 (oP5 hX) hS.2.2.2.2.2.1 ?_
    refine pgI 1 5 (by decide) rfl (by decide) (Or.inl rfl) rfl C w hi1 (by decide +kernel) dX5_kept_9 (oP1 hX) (v := nI nh) hh ?_
    refine lv_icmp_lt (tgt := 18) hx hb dX5_kept_12 (by decide) (fun c_12 => ?_) (fun c_12 => ?_)
    · have hin : inN i nh := by have := inN_of c_1 (Int32.not_le.mpr c_12); rwa [nI_toInt (by omega)] at this
      have hj := jn_lt hin
      have hbj := hbr (jn i) (by omega)
      refine lv_aload_n hx hb dX5_kept_18 rfl (lv_at hl 0 rfl) ?_
      refine cvI (n := 0) C w hl dX5_kept_19 (c_X5_isFull l G hX S n hn hn60) gX5_kept_X5_isFull rfl (by decide +kernel) rfl rfl (Nat.le_of_ble_eq_true rfl) ⟨by decide, by decide⟩ (by decide) rfl (oP5 hX) (fun v8 S8 H locs hp w => ?_)
      obtain ⟨qF, e0⟩ := hp
      rw [e0] at w
      refine lv_if_eq (tgt := 28) hx hb dX5_kept_22 (by decide) (fun c_22 => ?_) (fun c_22 => ?_)
      · have hnf := no_of qF c_22
        refine lv_aload_n hx hb dX5_kept_28 rfl (lv_at hl 0 rfl) ?_
        refine pgQ 5 0 10 (by decide) rfl (by decide) rfl rfl C w hi5 (by decide +kernel) dX5_kept_29 (oP5 hX) hS.2.2.1 ?_
        refine lv_aload_n hx hb dX5_kept_32 rfl (lv_at hl 0 rfl) ?_
        refine pgI 5 1 (by decide) rfl (by decide) (Or.inl rfl) rfl C w hi5 (by decide +kernel) dX5_kept_33 (oP5 hX) (v := nI n) hn ?_
        refine paQ C w dX5_kept_36 (oP10 hX (by decide)) rfl (oN100 hX) (by omega) (by decide) (r1 := n) (lk10 hS (by omega)) ?_
        refine lv_aload_n hx hb dX5_kept_37 rfl (lv_at hl 0 rfl) ?_
        refine pgQ 5 4 1 (by decide) rfl (by decide) rfl rfl C w hi5 (by decide +kernel) dX5_kept_38 (oP5 hX) hS.2.2.2.2.2.1 ?_
        refine pgQ 1 4 10 (by decide) rfl (by decide) rfl rfl C w hi1 (by decide +kernel) dX5_kept_41 (oP1 hX) hS.2.2.2.2.2.2.2.2.2.2.2.2.2.1 ?_
        refine lv_iload_n hx hb dX5_kept_44 rfl (lv_at hl 1 rfl) ?_
        refine paQ C w dX5_kept_45 (oP10 hX (by decide)) (n := jn i) (jn_eq hin) (oN102 hX) (by omega) (by decide) (r1 := br (jn i)) hbj.1 ?_
        refine cvV (n := 1) C w hl dX5_kept_46 (c_X2_copy l G hX S hS n (br (jn i)) z (by omega) (by omega) (by omega) (hbz _ hj) hz12) gX5_kept_X2_copy rfl (by decide +kernel) rfl rfl (Nat.le_of_ble_eq_true rfl) ⟨by decide, by decide⟩ (by decide) rfl (oP2 hX (by omega)) (fun S4 H locs hp w => ?_)
        have hh := hs_rwk S n (sI S 2 (br (jn i)) 0) (sI S 2 (br (jn i)) 1) (sI S 2 (br (jn i)) 2) z (hbz _ hj) (sJ S 9 (br (jn i))) (sJ S 9 n)
        rw [← hp] at hh
        refine lv_aload_n hx hb dX5_kept_49 rfl (lv_at hl 0 rfl) ?_
        refine cvI (n := 0) C w hl dX5_kept_50 (c_X5_takeNumber l G hX S4 n (by rw [hh.n]; exact hn) hn60) gX5_kept_X5_takeNumber rfl (by decide +kernel) rfl rfl (Nat.le_of_ble_eq_true rfl) ⟨by decide, by decide⟩ (by decide) rfl (oP5 hX) (fun v5 S5 H locs hp5 w => ?_)
        obtain ⟨e5, e6⟩ := hp5
        rw [e6] at w
        exact hret _ _ _ _ _ _ dX5_kept_53 w (by unfold spKept; rw [if_pos hin, if_neg hnf]; exact ⟨e5, hh.nw hn⟩)
      · refine lv_bipush (v := (-4)) hx hb dX5_kept_25 (by decide) ?_
        exact hret _ _ _ _ _ _ dX5_kept_27 w (by unfold spKept; rw [if_pos hin, if_pos (yes_of qF c_22)]; exact ⟨rfl, rfl⟩)
    · have hin : ¬ inN i nh := by have := inN_n2 (Int32.not_lt.mp c_12); rwa [nI_toInt (by omega)] at this
      refine lv_bipush (v := (-2)) hx hb dX5_kept_15 (by decide) ?_
      exact hret _ _ _ _ _ _ dX5_kept_17 w (by unfold spKept; rw [if_neg hin]; exact ⟨rfl, rfl⟩)
