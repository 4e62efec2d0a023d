theorem nar_b {v : Int32} (h : v = 0 ∨ v = 1) : narrow .boolean (.int v) = .int v := by rcases h with rfl | rfl <;> decide
theorem b01 {v : Int32} {P : Prop} (h : (v = 1 ∧ P) ∨ (v = 0 ∧ ¬ P)) : v = 0 ∨ v = 1 := h.elim (fun x => Or.inr x.1) (fun x => Or.inl x.1)

set_option maxHeartbeats 4000000 in
set_option maxRecDepth 100000 in
/-- parseBent -/
theorem c_X3_parseBent (l : Launch) (G : GT) (k : SK) (hX : okX G) (S : PS) (T : Nat → Int32) (tl q0 : Nat) (ht : tpX S T tl q0) (h300 : tl ≤ 300) (hq0 : q0 ≤ tl) (r : Nat) (hr9 : r < 79) (h91 : hr T tl q0 = 91) : CkI l G k yX3_parseBent wsX3_parseBent (rmK 6 128) [.ref (gA G 3 0), .ref (gA G 2 r)] S (fun v S2 => sI S2 3 0 2 = nI (bentC (hr T tl) tl q0).1 ∧ frP S S2 r ∧ ((v = 1 ∧ (bentC (hr T tl) tl q0).2.1 = true ∧ hsL S2 r 3 (bentC (hr T tl) tl q0).2.2.1.length ((bentC (hr T tl) tl q0).2.2.1 ++ (bentC (hr T tl) tl q0).2.2.2)) ∨ (v = 0 ∧ ¬ (bentC (hr T tl) tl q0).2.1 = true)) ∧ (bentC (hr T tl) tl q0).1 ≤ tl) := by
  refine ofCkN (cc := cX3_parseBent) (nL := 4) .boolean RX3 (by decide +kernel) rfl rfl (Nat.le_of_ble_eq_true rfl) ?_
  intro p e s m args below meth c A Q ls C hk w hl hret
  have hx := C.1
  have hb := C.2.1
  have hown := C.2.2.2.1
  have hts := C.2.2.2.2.1
  have hi3 : ∀ w ∈ wsX30, w ∈ wsX3_parseBent := by decide +kernel
  have hq1 : q0 + 1 ≤ tl := by
    apply Classical.byContradiction
    intro x
    rw [hr_end (by omega)] at h91
    exact absurd h91 (by decide)
  refine lv_aload_n hx hb dX3_parseBent_0 rfl (lv_at hl 0 rfl) ?_
  refine lv_dup hx hb dX3_parseBent_1 rfl ?_
  refine pgI 3 2 (by decide) rfl (by decide) (Or.inl rfl) rfl C w hi3 (by decide +kernel) dX3_parseBent_2 (oP3 hX) (v := nI q0) ht.2.2.2 ?_
  refine lv_iconst (v := 1) hx hb dX3_parseBent_5 (by decide) ?_
  refine lv_iadd hx hb dX3_parseBent_6 ?_
  refine ppI 3 2 (by decide) rfl (by decide) rfl rfl tyX3_ok nmX3 rfl (by decide +kernel) C w hi3 (by decide +kernel) dX3_parseBent_7 (oP3 hX) (fun H locs w => ?_)
  rw [nI_1] at w
  refine lv_aload_n hx hb dX3_parseBent_10 rfl (lv_at hl 0 rfl) ?_
  refine lv_aload_n hx hb dX3_parseBent_11 rfl (lv_at hl 1 rfl) ?_
  refine lv_iconst (v := 0) hx hb dX3_parseBent_12 (by decide) ?_
  refine cvI (n := 2) C w hl dX3_parseBent_13 (c_X3_parseList l G hX (uI S 3 0 2 (nI (q0 + 1))) T tl (q0 + 1) (ht.at (q0 + 1)) h300 hq1 r 0 hr9 (by decide)) gX3_parseBent_X3_parseList rfl (by decide +kernel) rfl rfl (Nat.le_of_ble_eq_true rfl) ⟨by decide, by decide⟩ (by decide) rfl (oP3 hX) (fun v2 S2 H locs hp w => ?_)
  obtain ⟨hpc2, hr2, hle2⟩ := hp
  have ht2 := hpc2.tp (ht.at (q0 + 1))
  have hf2 := (frP_pl S r (nI (q0 + 1))).tr hpc2.fr
  refine lv_istore_n hx hb dX3_parseBent_16 rfl hl (by decide) rfl (fun ls hl => ?_)
  refine lv_iload_n hx hb dX3_parseBent_17 rfl (lv_at hl 0 rfl) ?_
  refine lv_iconst (v := (-1)) hx hb dX3_parseBent_18 (by decide) ?_
  refine lv_icmp_eq (tgt := 31) hx hb dX3_parseBent_19 (by decide) (fun c_19 => ?_) (fun c_19 => ?_)
  · have hE : (bentC (hr T tl) tl q0) = ((rowC (hr T tl) tl (q0 + 1)).1, false, [], []) := by
      unfold bentC
      rw [if_pos (hr2.elim (fun x => x.2) (fun x => absurd (x.1.symm.trans c_19) (fun y => by have := congrArg Int32.toInt y; rw [nI_toInt (by omega)] at this; exact absurd this (by rw [show (-1 : Int32).toInt = -1 from rfl]; omega))))]
    have hplc := ht2.2.2.2
    have hfr := hf2
    have hple := hle2
    refine lv_iconst (v := 0) hx hb dX3_parseBent_31 (by decide) ?_
    exact hret _ _ _ _ _ _ dX3_parseBent_32 w (by decide) (by rw [hE]; exact ⟨hplc, hfr, Or.inr ⟨rfl, Bool.false_ne_true⟩, hple⟩)
  · have hg2 := (hr2.elim (fun x => absurd x.1 c_19) (fun x => x) : v2 = nI (rowC (hr T tl) tl (q0 + 1)).2.2.length ∧ (rowC (hr T tl) tl (q0 + 1)).2.1 = true ∧ (rowC (hr T tl) tl (q0 + 1)).2.2.length ≤ 6 ∧ ∀ k, k < (rowC (hr T tl) tl (q0 + 1)).2.2.length → sJ S2 9 r (0 + k) = (rowC (hr T tl) tl (q0 + 1)).2.2.getD k 0)
    refine lv_aload_n hx hb dX3_parseBent_22 rfl (lv_at hl 1 rfl) ?_
    refine va_ldcS hx hb hown hk.2.2.2.2.2.2.2.2.2.2.2.2.1 dX3_parseBent_23 ?_
    refine kvI (n := 1) C hk w hl dX3_parseBent_25 (c_X3_parseWord l G k hX S2 T tl (rowC (hr T tl) tl (q0 + 1)).1 ht2 h300 hle2 4 (by decide)) gX3_parseBent_X3_parseWord rfl (by decide +kernel) rfl rfl (Nat.le_of_ble_eq_true rfl) ⟨by decide, by decide⟩ (by decide) rfl (oP3 hX) (fun v3 S3 H locs hp w => ?_)
    obtain ⟨q3, e3⟩ := hp
    have hle3 := pw_le (T := T) (i := 4) (by decide) hle2
    have ht3 := ht2.at (wrd (hr T tl) (sTx 4) (rowC (hr T tl) tl (q0 + 1)).1).1
    rw [← e3] at ht3
    have hf3 := hf2.tr (frP_pl S2 r (nI (wrd (hr T tl) (sTx 4) (rowC (hr T tl) tl (q0 + 1)).1).1))
    rw [← e3] at hf3
    refine lv_if_ne (tgt := 33) hx hb dX3_parseBent_28 (by decide) (fun c_28 => ?_) (fun c_28 => ?_)
    · have hok3 := yes_of q3 c_28
      refine lv_aload_n hx hb dX3_parseBent_33 rfl (lv_at hl 1 rfl) ?_
      refine lv_aload_n hx hb dX3_parseBent_34 rfl (lv_at hl 2 rfl) ?_
      refine lv_iload_n hx hb dX3_parseBent_35 rfl (lv_at hl 0 rfl) ?_
      refine lv_rep hg2.1 ?_
      refine cvI (n := 2) C w hl dX3_parseBent_36 (c_X3_parseList l G hX S3 T tl (wrd (hr T tl) (sTx 4) (rowC (hr T tl) tl (q0 + 1)).1).1 ht3 h300 hle3 r (rowC (hr T tl) tl (q0 + 1)).2.2.length hr9 hg2.2.2.1) gX3_parseBent_X3_parseList rfl (by decide +kernel) rfl rfl (Nat.le_of_ble_eq_true rfl) ⟨by decide, by decide⟩ (by decide) rfl (oP3 hX) (fun v4 S4 H locs hp w => ?_)
      obtain ⟨hpc4, hr4, hle4⟩ := hp
      have ht4 := hpc4.tp ht3
      have hf4 := hf3.tr hpc4.fr
      refine lv_istore_n hx hb dX3_parseBent_39 rfl hl (by decide) rfl (fun ls hl => ?_)
      refine lv_iload_n hx hb dX3_parseBent_40 rfl (lv_at hl 0 rfl) ?_
      refine lv_iconst (v := (-1)) hx hb dX3_parseBent_41 (by decide) ?_
      refine lv_icmp_eq (tgt := 51) hx hb dX3_parseBent_42 (by decide) (fun c_42 => ?_) (fun c_42 => ?_)
      · have hE : (bentC (hr T tl) tl q0) = ((rowC (hr T tl) tl (wrd (hr T tl) (sTx 4) (rowC (hr T tl) tl (q0 + 1)).1).1).1, false, [], []) := by
          unfold bentC
          rw [if_neg (fun x => x hg2.2.1), if_neg (fun x => x hok3), if_pos (Or.inl (hr4.elim (fun x => x.2) (fun x => absurd (x.1.symm.trans c_42) (fun y => by have := congrArg Int32.toInt y; rw [nI_toInt (by omega)] at this; exact absurd this (by rw [show (-1 : Int32).toInt = -1 from rfl]; omega)))))]
        have hplc := ht4.2.2.2
        have hfr := hf4
        have hple := hle4
        refine lv_iconst (v := 0) hx hb dX3_parseBent_51 (by decide) ?_
        exact hret _ _ _ _ _ _ dX3_parseBent_52 w (by decide) (by rw [hE]; exact ⟨hplc, hfr, Or.inr ⟨rfl, Bool.false_ne_true⟩, hple⟩)
      · have hg4 := (hr4.elim (fun x => absurd x.1 c_42) (fun x => x) : v4 = nI (rowC (hr T tl) tl (wrd (hr T tl) (sTx 4) (rowC (hr T tl) tl (q0 + 1)).1).1).2.2.length ∧ (rowC (hr T tl) tl (wrd (hr T tl) (sTx 4) (rowC (hr T tl) tl (q0 + 1)).1).1).2.1 = true ∧ (rowC (hr T tl) tl (wrd (hr T tl) (sTx 4) (rowC (hr T tl) tl (q0 + 1)).1).1).2.2.length ≤ 6 ∧ ∀ k, k < (rowC (hr T tl) tl (wrd (hr T tl) (sTx 4) (rowC (hr T tl) tl (q0 + 1)).1).1).2.2.length → sJ S4 9 r ((rowC (hr T tl) tl (q0 + 1)).2.2.length + k) = (rowC (hr T tl) tl (wrd (hr T tl) (sTx 4) (rowC (hr T tl) tl (q0 + 1)).1).1).2.2.getD k 0)
        refine lv_iload_n hx hb dX3_parseBent_45 rfl (lv_at hl 1 rfl) ?_
        refine lv_rep hg2.1 ?_
        refine lv_iload_n hx hb dX3_parseBent_46 rfl (lv_at hl 0 rfl) ?_
        refine lv_rep hg4.1 ?_
        refine lv_iadd hx hb dX3_parseBent_47 ?_
        refine lv_rep (nI_add _ _) ?_
        refine lv_if_ne (tgt := 53) hx hb dX3_parseBent_48 (by decide) (fun c_48 => ?_) (fun c_48 => ?_)
        · have hnz : ¬ (rowC (hr T tl) tl (q0 + 1)).2.2.length + (rowC (hr T tl) tl (wrd (hr T tl) (sTx 4) (rowC (hr T tl) tl (q0 + 1)).1).1).2.2.length = 0 := fun x => c_48 (by rw [x]; rfl)
          refine lv_aload_n hx hb dX3_parseBent_53 rfl (lv_at hl 3 rfl) ?_
          refine lv_iconst (v := 3) hx hb dX3_parseBent_54 (by decide) ?_
          refine lv_iload_n hx hb dX3_parseBent_55 rfl (lv_at hl 1 rfl) ?_
          refine lv_rep hg2.1 ?_
          refine lv_iload_n hx hb dX3_parseBent_56 rfl (lv_at hl 1 rfl) ?_
          refine lv_rep hg2.1 ?_
          refine lv_iload_n hx hb dX3_parseBent_57 rfl (lv_at hl 0 rfl) ?_
          refine lv_rep hg4.1 ?_
          refine lv_iadd hx hb dX3_parseBent_58 ?_
          refine lv_rep (nI_add _ _) ?_
          refine cvV (n := 3) C w hl dX3_parseBent_59 (c_X2_form l G hX S4 r 3 (nI (rowC (hr T tl) tl (q0 + 1)).2.2.length) (nI ((rowC (hr T tl) tl (q0 + 1)).2.2.length + (rowC (hr T tl) tl (wrd (hr T tl) (sTx 4) (rowC (hr T tl) tl (q0 + 1)).1).1).2.2.length)) hr9) gX3_parseBent_X2_form rfl (by decide +kernel) rfl rfl (Nat.le_of_ble_eq_true rfl) ⟨by decide, by decide⟩ (by decide) rfl (oP2 hX hr9) (fun S5 H locs hp w => ?_)
          have hf5 := hf4.tr (frP_fm S4 r 3 (nI (rowC (hr T tl) tl (q0 + 1)).2.2.length) (nI ((rowC (hr T tl) tl (q0 + 1)).2.2.length + (rowC (hr T tl) tl (wrd (hr T tl) (sTx 4) (rowC (hr T tl) tl (q0 + 1)).1).1).2.2.length)))
          rw [← hp] at hf5
          have ht5 := hf5.tp ht (q := (rowC (hr T tl) tl (wrd (hr T tl) (sTx 4) (rowC (hr T tl) tl (q0 + 1)).1).1).1) (by rw [hp, sI_fm_r (by simp)]; exact ht4.2.2.2)
          have hs5 : hsL S5 r 3 (rowC (hr T tl) tl (q0 + 1)).2.2.length ((rowC (hr T tl) tl (q0 + 1)).2.2 ++ (rowC (hr T tl) tl (wrd (hr T tl) (sTx 4) (rowC (hr T tl) tl (q0 + 1)).1).1).2.2) := by
            refine ⟨by rw [hp, sI_fm0], by rw [hp, sI_fm1], by rw [hp, sI_fm2, List.length_append], fun k hk => ?_⟩
            rw [List.length_append] at hk
            rw [hp, sJ_fm]
            by_cases z : k < (rowC (hr T tl) tl (q0 + 1)).2.2.length
            · rw [getD_l z, hpc4.2.2 9 r k (fun x => by omega), e3]
              have := hg2.2.2.2 k z
              rw [Nat.zero_add] at this
              exact this
            · rw [getD_r (by omega)]
              have := hg4.2.2.2 (k - (rowC (hr T tl) tl (q0 + 1)).2.2.length) (by omega)
              rw [show (rowC (hr T tl) tl (q0 + 1)).2.2.length + (k - (rowC (hr T tl) tl (q0 + 1)).2.2.length) = k by omega] at this
              exact this
          refine lv_aload_n hx hb dX3_parseBent_62 rfl (lv_at hl 2 rfl) ?_
          refine va_ldcS hx hb hown hk.2.2.2.2.2.2.2.2.2.2.2.2.2 dX3_parseBent_63 ?_
          refine kvI (n := 1) C hk w hl dX3_parseBent_65 (c_X3_parseWord l G k hX S5 T tl (rowC (hr T tl) tl (wrd (hr T tl) (sTx 4) (rowC (hr T tl) tl (q0 + 1)).1).1).1 ht5 h300 hle4 5 (by decide)) gX3_parseBent_X3_parseWord rfl (by decide +kernel) rfl rfl (Nat.le_of_ble_eq_true rfl) ⟨by decide, by decide⟩ (by decide) rfl (oP3 hX) (fun v6 S6 H locs hp w => ?_)
          obtain ⟨q6, e6⟩ := hp
          have hE : (bentC (hr T tl) tl q0) = ((wrd (hr T tl) (sTx 5) (rowC (hr T tl) tl (wrd (hr T tl) (sTx 4) (rowC (hr T tl) tl (q0 + 1)).1).1).1).1, (wrd (hr T tl) (sTx 5) (rowC (hr T tl) tl (wrd (hr T tl) (sTx 4) (rowC (hr T tl) tl (q0 + 1)).1).1).1).2, (rowC (hr T tl) tl (q0 + 1)).2.2, (rowC (hr T tl) tl (wrd (hr T tl) (sTx 4) (rowC (hr T tl) tl (q0 + 1)).1).1).2.2) := by
            unfold bentC
            rw [if_neg (fun x => x hg2.2.1), if_neg (fun x => x hok3), if_neg (fun x => x.elim (fun y => y hg4.2.1) hnz)]
          exact hret _ _ _ _ _ _ dX3_parseBent_68 w (nar_b (b01 q6)) (by rw [hE, e6]; exact ⟨by rw [sI_uI, if_pos ⟨rfl, rfl, rfl⟩], hf5.tr (frP_pl S5 r _), q6.elim (fun x => Or.inl ⟨x.1, x.2, hsL_pl hs5 _⟩) (fun x => Or.inr x), pw_le (by decide) hle4⟩)
        · have hz : (rowC (hr T tl) tl (q0 + 1)).2.2.length + (rowC (hr T tl) tl (wrd (hr T tl) (sTx 4) (rowC (hr T tl) tl (q0 + 1)).1).1).2.2.length = 0 := (nI_eq (b := 0) (by omega) (by decide)).mp c_48
          have hE : (bentC (hr T tl) tl q0) = ((rowC (hr T tl) tl (wrd (hr T tl) (sTx 4) (rowC (hr T tl) tl (q0 + 1)).1).1).1, false, [], []) := by
            unfold bentC
            rw [if_neg (fun x => x hg2.2.1), if_neg (fun x => x hok3), if_pos (Or.inr hz)]
          have hplc := ht4.2.2.2
          have hfr := hf4
          have hple := hle4
          refine lv_iconst (v := 0) hx hb dX3_parseBent_51 (by decide) ?_
          exact hret _ _ _ _ _ _ dX3_parseBent_52 w (by decide) (by rw [hE]; exact ⟨hplc, hfr, Or.inr ⟨rfl, Bool.false_ne_true⟩, hple⟩)
    · have hE : (bentC (hr T tl) tl q0) = ((wrd (hr T tl) (sTx 4) (rowC (hr T tl) tl (q0 + 1)).1).1, false, [], []) := by
        unfold bentC
        rw [if_neg (fun x => x hg2.2.1), if_pos (no_of q3 c_28)]
      have hplc := ht3.2.2.2
      have hfr := hf3
      have hple := hle3
      refine lv_iconst (v := 0) hx hb dX3_parseBent_31 (by decide) ?_
      exact hret _ _ _ _ _ _ dX3_parseBent_32 w (by decide) (by rw [hE]; exact ⟨hplc, hfr, Or.inr ⟨rfl, Bool.false_ne_true⟩, hple⟩)

set_option maxHeartbeats 4000000 in
set_option maxRecDepth 100000 in
/-- parsePlain -/
theorem c_X3_parsePlain (l : Launch) (G : GT) (k : SK) (hX : okX G) (S : PS) (T : Nat → Int32) (tl q0 : Nat) (ht : tpX S T tl q0) (h300 : tl ≤ 300) (hq0 : q0 ≤ tl) (r : Nat) (hr9 : r < 79) : CkI l G k yX3_parsePlain wsX3_parsePlain (rmK 6 128) [.ref (gA G 3 0), .ref (gA G 2 r)] S (fun v S2 => sI S2 3 0 2 = nI (plainC (hr T tl) tl q0).1 ∧ frP S S2 r ∧ ((v = 1 ∧ (plainC (hr T tl) tl q0).2.1 = true ∧ hsL S2 r (plainC (hr T tl) tl q0).2.2.1 (if (plainC (hr T tl) tl q0).2.2.1 = 0 then 0 else 1) (plainC (hr T tl) tl q0).2.2.2) ∨ (v = 0 ∧ ¬ (plainC (hr T tl) tl q0).2.1 = true)) ∧ (plainC (hr T tl) tl q0).1 ≤ tl) := by
  refine ofCkN (cc := cX3_parsePlain) (nL := 2) .boolean RX3 (by decide +kernel) rfl rfl (Nat.le_of_ble_eq_true rfl) ?_
  intro p e s m args below meth c A Q ls C hk w hl hret
  have hx := C.1
  have hb := C.2.1
  have hown := C.2.2.2.1
  have hts := C.2.2.2.2.1
  have hi3 : ∀ w ∈ wsX30, w ∈ wsX3_parsePlain := by decide +kernel
  refine lv_aload_n hx hb dX3_parsePlain_0 rfl (lv_at hl 0 rfl) ?_
  refine lv_aload_n hx hb dX3_parsePlain_1 rfl (lv_at hl 1 rfl) ?_
  refine lv_iconst (v := 0) hx hb dX3_parsePlain_2 (by decide) ?_
  refine cvI (n := 2) C w hl dX3_parsePlain_3 (c_X3_parseNumber l G hX S T tl q0 ht h300 hq0 r 0 hr9 (by decide)) gX3_parsePlain_X3_parseNumber rfl (by decide +kernel) rfl rfl (Nat.le_of_ble_eq_true rfl) ⟨by decide, by decide⟩ (by decide) rfl (oP3 hX) (fun v1 S1 H locs hp w => ?_)
  have hp0 := hp
  refine lv_if_ne (tgt := 11) hx hb dX3_parsePlain_6 (by decide) (fun c_6 => ?_) (fun c_6 => ?_)
  · have hn0 : ¬ (num (hr T tl) tl q0).2.2 = 0 := fun z => by rw [if_pos z] at hp0; exact c_6 hp0.1
    rw [if_neg hn0] at hp0
    have e0 := hp0.2
    have hle0 := (num_le (T := T) hq0).1
    have hf0 : frP S S1 r := by
      rw [e0]
      exact ((frP_pl S r _).tr (frP_uJ _ r 0 _))
    have ht0 : tpX S1 T tl (num (hr T tl) tl q0).1 := hf0.tp ht (by rw [e0, sI_uJ, sI_uI, if_pos ⟨rfl, rfl, rfl⟩])
    have l00 : sJ S1 9 r 0 = (nV (hr T tl) tl q0) := by rw [e0, sJ_uJ, if_pos ⟨rfl, rfl, rfl⟩]
    refine lv_aload_n hx hb dX3_parsePlain_11 rfl (lv_at hl 0 rfl) ?_
    refine pgI 3 2 (by decide) rfl (by decide) (Or.inl rfl) rfl C w hi3 (by decide +kernel) dX3_parsePlain_12 (oP3 hX) (v := nI (num (hr T tl) tl q0).1) ht0.2.2.2 ?_
    refine lv_aload_n hx hb dX3_parsePlain_15 rfl (lv_at hl 0 rfl) ?_
    refine pgI 3 1 (by decide) rfl (by decide) (Or.inl rfl) rfl C w hi3 (by decide +kernel) dX3_parsePlain_16 (oP3 hX) (v := nI tl) ht0.2.2.1 ?_
    refine lv_icmp_ne (tgt := 31) hx hb dX3_parsePlain_19 (by decide) (fun c_19 => ?_) (fun c_19 => ?_)
    · have hd0 : ¬ (num (hr T tl) tl q0).1 = tl := fun x => c_19 (by rw [x])
      refine lv_aload_n hx hb dX3_parsePlain_31 rfl (lv_at hl 0 rfl) ?_
      refine va_ldcS hx hb hown hk.2.2.2.2.2.2.2.2.2.1 dX3_parsePlain_32 ?_
      refine kvI (n := 1) C hk w hl dX3_parsePlain_34 (c_X3_parseWord l G k hX S1 T tl (num (hr T tl) tl q0).1 ht0 h300 hle0 0 (by decide)) gX3_parsePlain_X3_parseWord rfl (by decide +kernel) rfl rfl (Nat.le_of_ble_eq_true rfl) ⟨by decide, by decide⟩ (by decide) rfl (oP3 hX) (fun v3 S3 H locs hp w => ?_)
      obtain ⟨q2, e2⟩ := hp
      have hf2 : frP S S3 r := by rw [e2]; exact hf0.tr (frP_pl S1 r _)
      have hle2 := pw_le (T := T) (i := 0) (by decide) hle0
      have ht2 : tpX S3 T tl (wrd (hr T tl) (sTx 0) (num (hr T tl) tl q0).1).1 := hf2.tp ht (by rw [e2, sI_uI, if_pos ⟨rfl, rfl, rfl⟩])
      have l02 : sJ S3 9 r 0 = (nV (hr T tl) tl q0) := by rw [e2]; exact l00
      refine lv_if_eq (tgt := 49) hx hb dX3_parsePlain_37 (by decide) (fun c_37 => ?_) (fun c_37 => ?_)
      · have hE : (plainC (hr T tl) tl q0) = ((wrd (hr T tl) (sTx 0) (num (hr T tl) tl q0).1).1, false, 0, []) := by
          unfold plainC
          rw [if_neg hn0, if_neg hd0, if_pos (no_of q2 c_37)]
        have hplc := ht2.2.2.2
        have hfr := hf2
        have hple := hle2
        refine lv_iconst (v := 0) hx hb dX3_parsePlain_49 (by decide) ?_
        exact hret _ _ _ _ _ _ dX3_parsePlain_50 w (by decide) (by rw [hE]; exact ⟨hplc, hfr, Or.inr ⟨rfl, Bool.false_ne_true⟩, hple⟩)
      · have hok2 := yes_of q2 c_37
        refine lv_aload_n hx hb dX3_parsePlain_40 rfl (lv_at hl 0 rfl) ?_
        refine lv_aload_n hx hb dX3_parsePlain_41 rfl (lv_at hl 1 rfl) ?_
        refine lv_iconst (v := 1) hx hb dX3_parsePlain_42 (by decide) ?_
        refine cvI (n := 2) C w hl dX3_parsePlain_43 (c_X3_parseNumber l G hX S3 T tl (wrd (hr T tl) (sTx 0) (num (hr T tl) tl q0).1).1 ht2 h300 hle2 r 1 hr9 (by decide)) gX3_parsePlain_X3_parseNumber rfl (by decide +kernel) rfl rfl (Nat.le_of_ble_eq_true rfl) ⟨by decide, by decide⟩ (by decide) rfl (oP3 hX) (fun v4 S4 H locs hp w => ?_)
        have hp3 := hp
        refine lv_if_ne (tgt := 51) hx hb dX3_parsePlain_46 (by decide) (fun c_46 => ?_) (fun c_46 => ?_)
        · have hn3 : ¬ (num (hr T tl) tl (wrd (hr T tl) (sTx 0) (num (hr T tl) tl q0).1).1).2.2 = 0 := fun z => by rw [if_pos z] at hp3; exact c_46 hp3.1
          rw [if_neg hn3] at hp3
          have e3 := hp3.2
          have hle3 := (num_le (T := T) hle2).1
          have hf3 : frP S S4 r := by
            rw [e3]
            exact (hf2.tr ((frP_pl S3 r _).tr (frP_uJ _ r 1 _)))
          have ht3 : tpX S4 T tl (num (hr T tl) tl (wrd (hr T tl) (sTx 0) (num (hr T tl) tl q0).1).1).1 := hf3.tp ht (by rw [e3, sI_uJ, sI_uI, if_pos ⟨rfl, rfl, rfl⟩])
          have l03 : sJ S4 9 r 0 = (nV (hr T tl) tl q0) := by rw [e3, sJ_uJ, if_neg (by simp)]; exact l02
          have l13 : sJ S4 9 r 1 = (nV (hr T tl) tl (wrd (hr T tl) (sTx 0) (num (hr T tl) tl q0).1).1) := by rw [e3, sJ_uJ, if_pos ⟨rfl, rfl, rfl⟩]
          refine lv_aload_n hx hb dX3_parsePlain_51 rfl (lv_at hl 0 rfl) ?_
          refine lv_bipush (v := 109) hx hb dX3_parsePlain_52 (by decide) ?_
          refine cvI (n := 1) C w hl dX3_parsePlain_54 (c_X3_isNext l G hX S4 T tl (num (hr T tl) tl (wrd (hr T tl) (sTx 0) (num (hr T tl) tl q0).1).1).1 ht3 h300 hle3 109 (by decide)) gX3_parsePlain_X3_isNext rfl (by decide +kernel) rfl rfl (Nat.le_of_ble_eq_true rfl) ⟨by decide, by decide⟩ (by decide) rfl (oP3 hX) (fun v5 S9 H locs hp w => ?_)
          obtain ⟨q5, e9⟩ := hp
          rw [e9] at w
          refine lv_if_ne (tgt := 74) hx hb dX3_parsePlain_57 (by decide) (fun c_57 => ?_) (fun c_57 => ?_)
          · have hm := yes_of q5 c_57
            refine lv_aload_n hx hb dX3_parsePlain_74 rfl (lv_at hl 1 rfl) ?_
            refine lv_iconst (v := 2) hx hb dX3_parsePlain_75 (by decide) ?_
            refine lv_iconst (v := 1) hx hb dX3_parsePlain_76 (by decide) ?_
            refine lv_iconst (v := 3) hx hb dX3_parsePlain_77 (by decide) ?_
            refine cvV (n := 3) C w hl dX3_parsePlain_78 (c_X2_form l G hX S4 r 2 1 3 hr9) gX3_parsePlain_X2_form rfl (by decide +kernel) rfl rfl (Nat.le_of_ble_eq_true rfl) ⟨by decide, by decide⟩ (by decide) rfl (oP2 hX hr9) (fun S5 H locs hp w => ?_)
            have e5 := hp
            have hf5 : frP S S5 r := by rw [e5]; exact hf3.tr (frP_fm S4 r 2 1 3)
            have ht5 : tpX S5 T tl (num (hr T tl) tl (wrd (hr T tl) (sTx 0) (num (hr T tl) tl q0).1).1).1 := hf5.tp ht (by rw [e5, sI_fm_r (by simp)]; exact ht3.2.2.2)
            have h50 : sI S5 2 r 0 = 2 ∧ sI S5 2 r 1 = nI 1 ∧ sI S5 2 r 2 = nI 3 ∧ sJ S5 9 r 0 = (nV (hr T tl) tl q0) ∧ sJ S5 9 r 1 = (nV (hr T tl) tl (wrd (hr T tl) (sTx 0) (num (hr T tl) tl q0).1).1) := ⟨by rw [e5, sI_fm0], by rw [e5, sI_fm1]; rfl, by rw [e5, sI_fm2]; rfl, by rw [e5, sJ_fm]; exact l03, by rw [e5, sJ_fm]; exact l13⟩
            refine lv_aload_n hx hb dX3_parsePlain_81 rfl (lv_at hl 0 rfl) ?_
            refine va_ldcS hx hb hown hk.2.2.2.2.2.2.2.2.2.2.1 dX3_parsePlain_82 ?_
            refine kvI (n := 1) C hk w hl dX3_parsePlain_84 (c_X3_parseWord l G k hX S5 T tl (num (hr T tl) tl (wrd (hr T tl) (sTx 0) (num (hr T tl) tl q0).1).1).1 ht5 h300 hle3 1 (by decide)) gX3_parsePlain_X3_parseWord rfl (by decide +kernel) rfl rfl (Nat.le_of_ble_eq_true rfl) ⟨by decide, by decide⟩ (by decide) rfl (oP3 hX) (fun v6 S6 H locs hp w => ?_)
            obtain ⟨q6, e6⟩ := hp
            have hf6 : frP S S6 r := by rw [e6]; exact hf5.tr (frP_pl S5 r _)
            have hle6 := pw_le (T := T) (i := 1) (by decide) hle3
            have ht6 : tpX S6 T tl (wrd (hr T tl) (sTx 1) (num (hr T tl) tl (wrd (hr T tl) (sTx 0) (num (hr T tl) tl q0).1).1).1).1 := hf6.tp ht (by rw [e6, sI_uI, if_pos ⟨rfl, rfl, rfl⟩])
            have h60 : sI S6 2 r 0 = 2 ∧ sI S6 2 r 1 = nI 1 ∧ sI S6 2 r 2 = nI 3 ∧ sJ S6 9 r 0 = (nV (hr T tl) tl q0) ∧ sJ S6 9 r 1 = (nV (hr T tl) tl (wrd (hr T tl) (sTx 0) (num (hr T tl) tl q0).1).1) := by rw [e6]; exact ⟨by rw [sI_uI, if_neg (by simp)]; exact h50.1, by rw [sI_uI, if_neg (by simp)]; exact h50.2.1, by rw [sI_uI, if_neg (by simp)]; exact h50.2.2.1, h50.2.2.2.1, h50.2.2.2.2⟩
            refine lv_if_eq (tgt := 112) hx hb dX3_parsePlain_87 (by decide) (fun c_87 => ?_) (fun c_87 => ?_)
            · have hE : (plainC (hr T tl) tl q0) = ((wrd (hr T tl) (sTx 1) (num (hr T tl) tl (wrd (hr T tl) (sTx 0) (num (hr T tl) tl q0).1).1).1).1, false, 0, []) := by
                unfold plainC
                rw [if_neg hn0, if_neg hd0, if_neg (fun x => x hok2), if_neg hn3, if_pos hm, if_pos (no_of q6 c_87)]
              have hplc := ht6.2.2.2
              have hfr := hf6
              have hple := hle6
              refine lv_iconst (v := 0) hx hb dX3_parsePlain_112 (by decide) ?_
              exact hret _ _ _ _ _ _ dX3_parsePlain_113 w (by decide) (by first | exact hout | (rw [hE]; exact ⟨hplc, hfr, Or.inr ⟨rfl, Bool.false_ne_true⟩, hple⟩))
            · have hok6 := yes_of q6 c_87
              refine lv_aload_n hx hb dX3_parsePlain_90 rfl (lv_at hl 0 rfl) ?_
              refine lv_aload_n hx hb dX3_parsePlain_91 rfl (lv_at hl 1 rfl) ?_
              refine lv_iconst (v := 2) hx hb dX3_parsePlain_92 (by decide) ?_
              refine cvI (n := 2) C w hl dX3_parsePlain_93 (c_X3_parseNumber l G hX S6 T tl (wrd (hr T tl) (sTx 1) (num (hr T tl) tl (wrd (hr T tl) (sTx 0) (num (hr T tl) tl q0).1).1).1).1 ht6 h300 hle6 r 2 hr9 (by decide)) gX3_parsePlain_X3_parseNumber rfl (by decide +kernel) rfl rfl (Nat.le_of_ble_eq_true rfl) ⟨by decide, by decide⟩ (by decide) rfl (oP3 hX) (fun v8 S8 H locs hp w => ?_)
              have hp8 := hp
              refine lv_if_eq (tgt := 112) hx hb dX3_parsePlain_96 (by decide) (fun c_96 => ?_) (fun c_96 => ?_)
              · have hz8 : (num (hr T tl) tl (wrd (hr T tl) (sTx 1) (num (hr T tl) tl (wrd (hr T tl) (sTx 0) (num (hr T tl) tl q0).1).1).1).1).2.2 = 0 := Classical.byContradiction fun z => by rw [if_neg z] at hp8; exact absurd (hp8.1.symm.trans c_96) (by decide)
                rw [if_pos hz8] at hp8
                have e8 := hp8.2
                have hE : (plainC (hr T tl) tl q0) = ((num (hr T tl) tl (wrd (hr T tl) (sTx 1) (num (hr T tl) tl (wrd (hr T tl) (sTx 0) (num (hr T tl) tl q0).1).1).1).1).1, false, 0, []) := by
                  unfold plainC
                  rw [if_neg hn0, if_neg hd0, if_neg (fun x => x hok2), if_neg hn3, if_pos hm, if_neg (fun x => x hok6), if_pos hz8]
                have hplc := (show sI S8 3 0 2 = nI (num (hr T tl) tl (wrd (hr T tl) (sTx 1) (num (hr T tl) tl (wrd (hr T tl) (sTx 0) (num (hr T tl) tl q0).1).1).1).1).1 by rw [e8, sI_uI, if_pos ⟨rfl, rfl, rfl⟩])
                have hfr := (show frP S S8 r by rw [e8]; exact hf6.tr (frP_pl S6 r _))
                have hple := (num_le (T := T) hle6).1
                refine lv_iconst (v := 0) hx hb dX3_parsePlain_112 (by decide) ?_
                exact hret _ _ _ _ _ _ dX3_parsePlain_113 w (by decide) (by first | exact hout | (rw [hE]; exact ⟨hplc, hfr, Or.inr ⟨rfl, Bool.false_ne_true⟩, hple⟩))
              · have hn8 : ¬ (num (hr T tl) tl (wrd (hr T tl) (sTx 1) (num (hr T tl) tl (wrd (hr T tl) (sTx 0) (num (hr T tl) tl q0).1).1).1).1).2.2 = 0 := fun z => by rw [if_pos z] at hp8; exact c_96 hp8.1
                rw [if_neg hn8] at hp8
                have e8 := hp8.2
                have hle8 := (num_le (T := T) hle6).1
                have hf8 : frP S S8 r := by
                  rw [e8]
                  exact (hf6.tr ((frP_pl S6 r _).tr (frP_uJ _ r 2 _)))
                have ht8 : tpX S8 T tl (num (hr T tl) tl (wrd (hr T tl) (sTx 1) (num (hr T tl) tl (wrd (hr T tl) (sTx 0) (num (hr T tl) tl q0).1).1).1).1).1 := hf8.tp ht (by rw [e8, sI_uJ, sI_uI, if_pos ⟨rfl, rfl, rfl⟩])
                have hs8 : hsL S8 r 2 1 [(nV (hr T tl) tl q0), (nV (hr T tl) tl (wrd (hr T tl) (sTx 0) (num (hr T tl) tl q0).1).1), (nV (hr T tl) tl (wrd (hr T tl) (sTx 1) (num (hr T tl) tl (wrd (hr T tl) (sTx 0) (num (hr T tl) tl q0).1).1).1).1)] := ⟨by rw [e8, sI_uJ, sI_uI, if_neg (by simp)]; exact h60.1, by rw [e8, sI_uJ, sI_uI, if_neg (by simp)]; exact h60.2.1, by rw [e8, sI_uJ, sI_uI, if_neg (by simp)]; exact h60.2.2.1, fun k hk => by
                  have z : k = 0 ∨ k = 1 ∨ k = 2 := by have : k < 3 := hk; omega
                  rw [e8, sJ_uJ]
                  rcases z with z | z | z
                  · rw [z, if_neg (by simp)]; exact h60.2.2.2.1
                  · rw [z, if_neg (by simp)]; exact h60.2.2.2.2
                  · rw [z, if_pos ⟨rfl, rfl, rfl⟩]; rfl⟩
                refine lv_aload_n hx hb dX3_parsePlain_99 rfl (lv_at hl 0 rfl) ?_
                refine va_ldcS hx hb hown hk.2.2.2.2.2.2.2.2.2.2.2.1 dX3_parsePlain_100 ?_
                refine kvI (n := 1) C hk w hl dX3_parsePlain_102 (c_X3_parseWord l G k hX S8 T tl (num (hr T tl) tl (wrd (hr T tl) (sTx 1) (num (hr T tl) tl (wrd (hr T tl) (sTx 0) (num (hr T tl) tl q0).1).1).1).1).1 ht8 h300 hle8 2 (by decide)) gX3_parsePlain_X3_parseWord rfl (by decide +kernel) rfl rfl (Nat.le_of_ble_eq_true rfl) ⟨by decide, by decide⟩ (by decide) rfl (oP3 hX) (fun v9 S10 H locs hp w => ?_)
                obtain ⟨q9, e10⟩ := hp
                have hE2 : (plainC (hr T tl) tl q0) = ((wrd (hr T tl) (sTx 2) (num (hr T tl) tl (wrd (hr T tl) (sTx 1) (num (hr T tl) tl (wrd (hr T tl) (sTx 0) (num (hr T tl) tl q0).1).1).1).1).1).1, (wrd (hr T tl) (sTx 2) (num (hr T tl) tl (wrd (hr T tl) (sTx 1) (num (hr T tl) tl (wrd (hr T tl) (sTx 0) (num (hr T tl) tl q0).1).1).1).1).1).2, 2, [(nV (hr T tl) tl q0), (nV (hr T tl) tl (wrd (hr T tl) (sTx 0) (num (hr T tl) tl q0).1).1), (nV (hr T tl) tl (wrd (hr T tl) (sTx 1) (num (hr T tl) tl (wrd (hr T tl) (sTx 0) (num (hr T tl) tl q0).1).1).1).1)]) := by
                  unfold plainC
                  rw [if_neg hn0, if_neg hd0, if_neg (fun x => x hok2), if_neg hn3, if_pos hm, if_neg (fun x => x hok6), if_neg hn8]
                refine lv_if_eq (tgt := 112) hx hb dX3_parsePlain_105 (by decide) (fun c_105 => ?_) (fun c_105 => ?_)
                · have hout : sI S10 3 0 2 = nI (plainC (hr T tl) tl q0).1 ∧ frP S S10 r ∧ (((0 : Int32) = 1 ∧ (plainC (hr T tl) tl q0).2.1 = true ∧ hsL S10 r (plainC (hr T tl) tl q0).2.2.1 (if (plainC (hr T tl) tl q0).2.2.1 = 0 then 0 else 1) (plainC (hr T tl) tl q0).2.2.2) ∨ ((0 : Int32) = 0 ∧ ¬ (plainC (hr T tl) tl q0).2.1 = true)) ∧ (plainC (hr T tl) tl q0).1 ≤ tl := by
                    rw [hE2, e10]
                    exact ⟨by rw [sI_uI, if_pos ⟨rfl, rfl, rfl⟩], hf8.tr (frP_pl S8 r _), Or.inr ⟨rfl, no_of q9 c_105⟩, pw_le (by decide) hle8⟩
                  refine lv_iconst (v := 0) hx hb dX3_parsePlain_112 (by decide) ?_
                  exact hret _ _ _ _ _ _ dX3_parsePlain_113 w (by decide) (by first | exact hout | (rw [hE]; exact ⟨hplc, hfr, Or.inr ⟨rfl, Bool.false_ne_true⟩, hple⟩))
                · have hout : sI S10 3 0 2 = nI (plainC (hr T tl) tl q0).1 ∧ frP S S10 r ∧ (((1 : Int32) = 1 ∧ (plainC (hr T tl) tl q0).2.1 = true ∧ hsL S10 r (plainC (hr T tl) tl q0).2.2.1 (if (plainC (hr T tl) tl q0).2.2.1 = 0 then 0 else 1) (plainC (hr T tl) tl q0).2.2.2) ∨ ((1 : Int32) = 0 ∧ ¬ (plainC (hr T tl) tl q0).2.1 = true)) ∧ (plainC (hr T tl) tl q0).1 ≤ tl := by
                    rw [hE2, e10]
                    exact ⟨by rw [sI_uI, if_pos ⟨rfl, rfl, rfl⟩], hf8.tr (frP_pl S8 r _), Or.inl ⟨rfl, yes_of q9 c_105, hsL_pl hs8 _⟩, pw_le (by decide) hle8⟩
                  refine lv_iconst (v := 1) hx hb dX3_parsePlain_108 (by decide) ?_
                  refine lv_goto (tgt := 113) hx hb dX3_parsePlain_109 (by decide) ?_
                  exact hret _ _ _ _ _ _ dX3_parsePlain_113 w (by decide) (by first | exact hout | (rw [hE]; exact ⟨hplc, hfr, Or.inr ⟨rfl, Bool.false_ne_true⟩, hple⟩))
          · have hm := no_of q5 c_57
            refine lv_aload_n hx hb dX3_parsePlain_60 rfl (lv_at hl 1 rfl) ?_
            refine lv_iconst (v := 1) hx hb dX3_parsePlain_61 (by decide) ?_
            refine lv_iconst (v := 1) hx hb dX3_parsePlain_62 (by decide) ?_
            refine lv_iconst (v := 2) hx hb dX3_parsePlain_63 (by decide) ?_
            refine cvV (n := 3) C w hl dX3_parsePlain_64 (c_X2_form l G hX S4 r 1 1 2 hr9) gX3_parsePlain_X2_form rfl (by decide +kernel) rfl rfl (Nat.le_of_ble_eq_true rfl) ⟨by decide, by decide⟩ (by decide) rfl (oP2 hX hr9) (fun S5 H locs hp w => ?_)
            have e5 := hp
            have hf5 : frP S S5 r := by rw [e5]; exact hf3.tr (frP_fm S4 r 1 1 2)
            have ht5 : tpX S5 T tl (num (hr T tl) tl (wrd (hr T tl) (sTx 0) (num (hr T tl) tl q0).1).1).1 := hf5.tp ht (by rw [e5, sI_fm_r (by simp)]; exact ht3.2.2.2)
            have hs5 : hsL S5 r 1 1 [(nV (hr T tl) tl q0), (nV (hr T tl) tl (wrd (hr T tl) (sTx 0) (num (hr T tl) tl q0).1).1)] := ⟨by rw [e5, sI_fm0], by rw [e5, sI_fm1]; rfl, by rw [e5, sI_fm2]; rfl, fun k hk => by
              have z : k = 0 ∨ k = 1 := by have : k < 2 := hk; omega
              rw [e5, sJ_fm]
              rcases z with z | z
              · rw [z]; exact l03
              · rw [z]; exact l13⟩
            refine lv_aload_n hx hb dX3_parsePlain_67 rfl (lv_at hl 0 rfl) ?_
            refine va_ldcS hx hb hown hk.2.2.2.2.2.2.2.2.2.2.2.1 dX3_parsePlain_68 ?_
            refine kvI (n := 1) C hk w hl dX3_parsePlain_70 (c_X3_parseWord l G k hX S5 T tl (num (hr T tl) tl (wrd (hr T tl) (sTx 0) (num (hr T tl) tl q0).1).1).1 ht5 h300 hle3 2 (by decide)) gX3_parsePlain_X3_parseWord rfl (by decide +kernel) rfl rfl (Nat.le_of_ble_eq_true rfl) ⟨by decide, by decide⟩ (by decide) rfl (oP3 hX) (fun v7 S7 H locs hp w => ?_)
            obtain ⟨q7, e7⟩ := hp
            exact hret _ _ _ _ _ _ dX3_parsePlain_73 w (nar_b (b01 q7)) (by rw [show (plainC (hr T tl) tl q0) = ((wrd (hr T tl) (sTx 2) (num (hr T tl) tl (wrd (hr T tl) (sTx 0) (num (hr T tl) tl q0).1).1).1).1, (wrd (hr T tl) (sTx 2) (num (hr T tl) tl (wrd (hr T tl) (sTx 0) (num (hr T tl) tl q0).1).1).1).2, 1, [(nV (hr T tl) tl q0), (nV (hr T tl) tl (wrd (hr T tl) (sTx 0) (num (hr T tl) tl q0).1).1)]) from by unfold plainC; rw [if_neg hn0, if_neg hd0, if_neg (fun x => x hok2), if_neg hn3, if_neg hm], e7]; exact ⟨by rw [sI_uI, if_pos ⟨rfl, rfl, rfl⟩], hf5.tr (frP_pl S5 r _), q7.elim (fun x => Or.inl ⟨x.1, x.2, hsL_pl hs5 _⟩) (fun x => Or.inr x), pw_le (by decide) hle3⟩)
        · have hz3 : (num (hr T tl) tl (wrd (hr T tl) (sTx 0) (num (hr T tl) tl q0).1).1).2.2 = 0 := Classical.byContradiction fun z => by rw [if_neg z] at hp3; exact absurd (hp3.1.symm.trans c_46) (by decide)
          rw [if_pos hz3] at hp3
          have e3 := hp3.2
          have hE : (plainC (hr T tl) tl q0) = ((num (hr T tl) tl (wrd (hr T tl) (sTx 0) (num (hr T tl) tl q0).1).1).1, false, 0, []) := by
            unfold plainC
            rw [if_neg hn0, if_neg hd0, if_neg (fun x => x hok2), if_pos hz3]
          have hplc := (show sI S4 3 0 2 = nI (num (hr T tl) tl (wrd (hr T tl) (sTx 0) (num (hr T tl) tl q0).1).1).1 by rw [e3, sI_uI, if_pos ⟨rfl, rfl, rfl⟩])
          have hfr := (show frP S S4 r by rw [e3]; exact hf2.tr (frP_pl S3 r _))
          have hple := (num_le (T := T) hle2).1
          refine lv_iconst (v := 0) hx hb dX3_parsePlain_49 (by decide) ?_
          exact hret _ _ _ _ _ _ dX3_parsePlain_50 w (by decide) (by rw [hE]; exact ⟨hplc, hfr, Or.inr ⟨rfl, Bool.false_ne_true⟩, hple⟩)
    · have hd0 : (num (hr T tl) tl q0).1 = tl := (nI_eq (by omega) (by omega)).mp c_19
      refine lv_aload_n hx hb dX3_parsePlain_22 rfl (lv_at hl 1 rfl) ?_
      refine lv_iconst (v := 0) hx hb dX3_parsePlain_23 (by decide) ?_
      refine lv_iconst (v := 0) hx hb dX3_parsePlain_24 (by decide) ?_
      refine lv_iconst (v := 1) hx hb dX3_parsePlain_25 (by decide) ?_
      refine cvV (n := 3) C w hl dX3_parsePlain_26 (c_X2_form l G hX S1 r 0 0 1 hr9) gX3_parsePlain_X2_form rfl (by decide +kernel) rfl rfl (Nat.le_of_ble_eq_true rfl) ⟨by decide, by decide⟩ (by decide) rfl (oP2 hX hr9) (fun S2 H locs hp w => ?_)
      have e2 := hp
      have hs2 : hsL S2 r 0 0 [(nV (hr T tl) tl q0)] := ⟨by rw [e2, sI_fm0], by rw [e2, sI_fm1]; rfl, by rw [e2, sI_fm2]; rfl, fun k hk => by
        have z : k = 0 := by have : k < 1 := hk; omega
        rw [e2, sJ_fm, z]; exact l00⟩
      refine lv_iconst (v := 1) hx hb dX3_parsePlain_29 (by decide) ?_
      exact hret _ _ _ _ _ _ dX3_parsePlain_30 w (by decide) (by rw [show (plainC (hr T tl) tl q0) = ((num (hr T tl) tl q0).1, true, 0, [(nV (hr T tl) tl q0)]) from by unfold plainC; rw [if_neg hn0, if_pos hd0]]; exact ⟨by rw [e2, sI_fm_r (by simp)]; exact ht0.2.2.2, by rw [e2]; exact hf0.tr (frP_fm S1 r 0 0 1), Or.inl ⟨rfl, rfl, hs2⟩, hle0⟩)
  · have hz0 : (num (hr T tl) tl q0).2.2 = 0 := Classical.byContradiction fun z => by rw [if_neg z] at hp0; exact absurd (hp0.1.symm.trans c_6) (by decide)
    rw [if_pos hz0] at hp0
    have e0 := hp0.2
    have hE : (plainC (hr T tl) tl q0) = ((num (hr T tl) tl q0).1, false, 0, []) := by
      unfold plainC
      rw [if_pos hz0]
    have hplc := (show sI S1 3 0 2 = nI (num (hr T tl) tl q0).1 by rw [e0, sI_uI, if_pos ⟨rfl, rfl, rfl⟩])
    have hfr := (show frP S S1 r by rw [e0]; exact frP_pl S r _)
    have hple := (num_le (T := T) hq0).1
    refine lv_iconst (v := 0) hx hb dX3_parsePlain_9 (by decide) ?_
    exact hret _ _ _ _ _ _ dX3_parsePlain_10 w (by decide) (by rw [hE]; exact ⟨hplc, hfr, Or.inr ⟨rfl, Bool.false_ne_true⟩, hple⟩)
