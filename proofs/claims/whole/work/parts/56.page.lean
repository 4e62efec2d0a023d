theorem sL3 : (sTx 3).length = 1 := rfl
theorem sL4 : (sTx 4).length = 7 := rfl
theorem sL5 : (sTx 5).length = 5 := rfl
theorem sL0 : (sTx 0).length = 5 := rfl
theorem sL1 : (sTx 1).length = 7 := rfl
theorem sL2 : (sTx 2).length = 4 := rfl
theorem sG0 : sLen.getD 0 0 = 5 := rfl
theorem sG1 : sLen.getD 1 0 = 7 := rfl
theorem sG2 : sLen.getD 2 0 = 4 := rfl
theorem sG4 : sLen.getD 4 0 = 7 := rfl
theorem sG5 : sLen.getD 5 0 = 5 := rfl

set_option maxHeartbeats 4000000 in
set_option maxRecDepth 100000 in
/-- writeBent -/
theorem c_X0_writeBent (l : Launch) (G : GT) (k : SK) (hX : okX G) (S : PS) (hS : lkX S) (hL : sI S 0 0 1 = nI 0) (r : Nat) (hr : r < 79) (hd sz : Nat) (hhd : sI S 2 r 1 = nI hd) (hsz : sI S 2 r 2 = nI sz) (h6 : hd ≤ 6) (hle : hd ≤ sz) (hs6 : sz - hd ≤ 6) : CkV l G k yX0_writeBent wsX0_writeBent (rmK 6 128) [.ref (gA G 0 0), .ref (gA G 2 r)] S (fun S2 => wrP 0 1 7 1 S S2 0 ((((sTx 3 ++ lsT (sJ S 9 r) 0 (hd - 0)) ++ sTx 4) ++ lsT (sJ S 9 r) hd (sz - hd)) ++ sTx 5)) := by
  refine ofCkV (cc := cX0_writeBent) (nL := 2) RX0 (by decide +kernel) rfl rfl (Nat.le_of_ble_eq_true rfl) ?_
  intro p e s m args below meth c A Q ls C hk w hl hret
  have hx := C.1
  have hb := C.2.1
  have hown := C.2.2.2.1
  have hts := C.2.2.2.2.1
  have hi2 : ∀ w ∈ wsX20, w ∈ wsX0_writeBent := by decide +kernel
  have hl1 := lsT_le (sJ S 9 r) 0 (hd - 0)
  have hl2 := lsT_le (sJ S 9 r) hd (sz - hd)
  refine lv_aload_n hx hb dX0_writeBent_0 rfl (lv_at hl 0 rfl) ?_
  refine va_ldcS hx hb hown hk.2.2.2.2.2.2.1 dX0_writeBent_1 ?_
  refine kvV (n := 1) C hk w hl dX0_writeBent_3 (c_X0_writeWord l G k hX S hS 0 hL 3 (by decide) (by decide)) gX0_writeBent_X0_writeWord rfl (by decide +kernel) rfl rfl (Nat.le_of_ble_eq_true rfl) ⟨by decide, by decide⟩ (by decide) rfl (oP0 hX) (fun S1 H locs hp w => ?_)
  have w1 := hp
  refine lv_aload_n hx hb dX0_writeBent_6 rfl (lv_at hl 0 rfl) ?_
  refine lv_aload_n hx hb dX0_writeBent_7 rfl (lv_at hl 1 rfl) ?_
  refine lv_iconst (v := 0) hx hb dX0_writeBent_8 (by decide) ?_
  refine lv_aload_n hx hb dX0_writeBent_9 rfl (lv_at hl 1 rfl) ?_
  refine pgI 2 1 (by decide) rfl (by decide) (Or.inl rfl) rfl C w hi2 (by decide +kernel) dX0_writeBent_10 (oP2 hX (by omega)) (v := nI hd) (by rw [w1.2.2.2.2 2 r 1 (by simp) (by simp) (by simp)]; exact hhd) ?_
  refine cvV (n := 3) C w hl dX0_writeBent_13 (c_X0_writeList l G hX S1 (lkX_of hS w1.1) (0 + (sTx 3).length) w1.n r 0 hd hr (Nat.zero_le _) (by omega) (by rw [sL3]; omega)) gX0_writeBent_X0_writeList rfl (by decide +kernel) rfl rfl (Nat.le_of_ble_eq_true rfl) ⟨by decide, by decide⟩ (by decide) rfl (oP0 hX) (fun S3 H locs hp w => ?_)
  rw [w1.2.1] at hp
  have w2 := w1.tr (by decide) (by decide) hp
  refine lv_aload_n hx hb dX0_writeBent_16 rfl (lv_at hl 0 rfl) ?_
  refine va_ldcS hx hb hown hk.2.2.2.2.2.2.2.1 dX0_writeBent_17 ?_
  refine kvV (n := 1) C hk w hl dX0_writeBent_19 (c_X0_writeWord l G k hX S3 (lkX_of hS w2.1) (0 + (sTx 3 ++ lsT (sJ S 9 r) 0 (hd - 0)).length) w2.n 4 (by decide) (by rw [List.length_append, sL3, sG4]; omega)) gX0_writeBent_X0_writeWord rfl (by decide +kernel) rfl rfl (Nat.le_of_ble_eq_true rfl) ⟨by decide, by decide⟩ (by decide) rfl (oP0 hX) (fun S4 H locs hp w => ?_)
  have w3 := w2.tr (by decide) (by decide) hp
  refine lv_aload_n hx hb dX0_writeBent_22 rfl (lv_at hl 0 rfl) ?_
  refine lv_aload_n hx hb dX0_writeBent_23 rfl (lv_at hl 1 rfl) ?_
  refine lv_aload_n hx hb dX0_writeBent_24 rfl (lv_at hl 1 rfl) ?_
  refine pgI 2 1 (by decide) rfl (by decide) (Or.inl rfl) rfl C w hi2 (by decide +kernel) dX0_writeBent_25 (oP2 hX (by omega)) (v := nI hd) (by rw [w3.2.2.2.2 2 r 1 (by simp) (by simp) (by simp)]; exact hhd) ?_
  refine lv_aload_n hx hb dX0_writeBent_28 rfl (lv_at hl 1 rfl) ?_
  refine pgI 2 2 (by decide) rfl (by decide) (Or.inl rfl) rfl C w hi2 (by decide +kernel) dX0_writeBent_29 (oP2 hX (by omega)) (v := nI sz) (by rw [w3.2.2.2.2 2 r 2 (by simp) (by simp) (by simp)]; exact hsz) ?_
  refine cvV (n := 3) C w hl dX0_writeBent_32 (c_X0_writeList l G hX S4 (lkX_of hS w3.1) (0 + ((sTx 3 ++ lsT (sJ S 9 r) 0 (hd - 0)) ++ sTx 4).length) w3.n r hd sz hr hle (by omega) (by rw [List.length_append, List.length_append, sL3, sL4]; omega)) gX0_writeBent_X0_writeList rfl (by decide +kernel) rfl rfl (Nat.le_of_ble_eq_true rfl) ⟨by decide, by decide⟩ (by decide) rfl (oP0 hX) (fun S5 H locs hp w => ?_)
  rw [w3.2.1] at hp
  have w4 := w3.tr (by decide) (by decide) hp
  refine lv_aload_n hx hb dX0_writeBent_35 rfl (lv_at hl 0 rfl) ?_
  refine va_ldcS hx hb hown hk.2.2.2.2.2.2.2.2.1 dX0_writeBent_36 ?_
  refine kvV (n := 1) C hk w hl dX0_writeBent_38 (c_X0_writeWord l G k hX S5 (lkX_of hS w4.1) (0 + (((sTx 3 ++ lsT (sJ S 9 r) 0 (hd - 0)) ++ sTx 4) ++ lsT (sJ S 9 r) hd (sz - hd)).length) w4.n 5 (by decide) (by rw [List.length_append, List.length_append, List.length_append, sL3, sL4, sG5]; omega)) gX0_writeBent_X0_writeWord rfl (by decide +kernel) rfl rfl (Nat.le_of_ble_eq_true rfl) ⟨by decide, by decide⟩ (by decide) rfl (oP0 hX) (fun S6 H locs hp w => ?_)
  have w5 := w4.tr (by decide) (by decide) hp
  exact hret _ _ _ _ _ dX0_writeBent_41 w w5

set_option maxHeartbeats 4000000 in
set_option maxRecDepth 100000 in
/-- writePlain -/
theorem c_X0_writePlain (l : Launch) (G : GT) (k : SK) (hX : okX G) (S : PS) (hS : lkX S) (hL : sI S 0 0 1 = nI 0) (r : Nat) (hr : r < 79)  : CkV l G k yX0_writePlain wsX0_writePlain (rmK 6 128) [.ref (gA G 0 0), .ref (gA G 2 r)] S (fun S2 => wrP 0 1 7 1 S S2 0 (if sI S 2 r 0 = 0 then numT (sJ S 9 r 0) else if sI S 2 r 0 = 2 then ((((numT (sJ S 9 r 0) ++ sTx 0) ++ numT (sJ S 9 r 1)) ++ sTx 1) ++ numT (sJ S 9 r 2)) ++ sTx 2 else ((numT (sJ S 9 r 0) ++ sTx 0) ++ numT (sJ S 9 r 1)) ++ sTx 2)) := by
  refine ofCkV (cc := cX0_writePlain) (nL := 2) RX0 (by decide +kernel) rfl rfl (Nat.le_of_ble_eq_true rfl) ?_
  intro p e s m args below meth c A Q ls C hk w hl hret
  have hx := C.1
  have hb := C.2.1
  have hown := C.2.2.2.1
  have hts := C.2.2.2.2.1
  have hi2 : ∀ w ∈ wsX20, w ∈ wsX0_writePlain := by decide +kernel
  have hl0 := numT_le (sJ S 9 r 0)
  have hl1 := numT_le (sJ S 9 r 1)
  have hl2 := numT_le (sJ S 9 r 2)
  have join_58 : ∀ (S7 : PS) (t : List Int32) (H : Heap) (locs : List Loc) (ls : Array Slot), (t ++ sTx 2 = (if sI S 2 r 0 = 0 then numT (sJ S 9 r 0) else if sI S 2 r 0 = 2 then ((((numT (sJ S 9 r 0) ++ sTx 0) ++ numT (sJ S 9 r 1)) ++ sTx 1) ++ numT (sJ S 9 r 2)) ++ sTx 2 else ((numT (sJ S 9 r 0) ++ sTx 0) ++ numT (sJ S 9 r 1)) ++ sTx 2)) → (t.length ≤ 100) → (wrP 0 1 7 1 S S7 0 t) → Wd G A s.heap S7 H locs → lv_has ls 2 [(0, .ref (gA G 0 0)), (1, .ref (gA G 2 r))] → W p l e (rmK 6 128) s m args below meth c H locs 0 0 Q (F0 m 58 ls []) := by
    intro S7 t H locs ls ht htl hw7 w hl
    refine lv_aload_n hx hb dX0_writePlain_58 rfl (lv_at hl 0 rfl) ?_
    refine va_ldcS hx hb hown hk.2.2.2.2.2.1 dX0_writePlain_59 ?_
    refine kvV (n := 1) C hk w hl dX0_writePlain_61 (c_X0_writeWord l G k hX S7 (lkX_of hS hw7.1) (0 + t.length) hw7.n 2 (by decide) (by rw [sG2]; omega)) gX0_writePlain_X0_writeWord rfl (by decide +kernel) rfl rfl (Nat.le_of_ble_eq_true rfl) ⟨by decide, by decide⟩ (by decide) rfl (oP0 hX) (fun S8 H locs hp w => ?_)
    have w8 := hw7.tr (by decide) (by decide) hp
    rw [ht] at w8
    exact hret _ _ _ _ _ dX0_writePlain_64 w w8
  refine lv_aload_n hx hb dX0_writePlain_0 rfl (lv_at hl 0 rfl) ?_
  refine lv_aload_n hx hb dX0_writePlain_1 rfl (lv_at hl 1 rfl) ?_
  refine pgQ 2 3 9 (by decide) rfl (by decide) rfl rfl C w hi2 (by decide +kernel) dX0_writePlain_2 (oP2 hX (by omega)) (lk2 hS hr) ?_
  refine lv_iconst (v := 0) hx hb dX0_writePlain_5 (by decide) ?_
  refine paJ C w dX0_writePlain_6 (oP9 hX hr) (n := 0) rfl (oN9 hX hr) (by decide) (by decide) (v := sJ S 9 r 0) rfl ?_
  refine cvV (n := 1) C w hl dX0_writePlain_7 (c_X0_writeNumber l G hX S hS 0 hL (by decide) (sJ S 9 r 0)) gX0_writePlain_X0_writeNumber rfl (by decide +kernel) rfl rfl (Nat.le_of_ble_eq_true rfl) ⟨by decide, by decide⟩ (by decide) rfl (oP0 hX) (fun S1 H locs hp w => ?_)
  have w1 := hp
  refine lv_aload_n hx hb dX0_writePlain_10 rfl (lv_at hl 1 rfl) ?_
  refine pgI 2 0 (by decide) rfl (by decide) (Or.inl rfl) rfl C w hi2 (by decide +kernel) dX0_writePlain_11 (oP2 hX (by omega)) (v := sI S 2 r 0) (by rw [w1.2.2.2.2 2 r 0 (by simp) (by simp) (by simp)]) ?_
  refine lv_if_ne (tgt := 18) hx hb dX0_writePlain_14 (by decide) (fun c_14 => ?_) (fun c_14 => ?_)
  · refine lv_aload_n hx hb dX0_writePlain_18 rfl (lv_at hl 0 rfl) ?_
    refine va_ldcS hx hb hown hk.2.2.2.1 dX0_writePlain_19 ?_
    refine kvV (n := 1) C hk w hl dX0_writePlain_21 (c_X0_writeWord l G k hX S1 (lkX_of hS w1.1) (0 + (numT (sJ S 9 r 0)).length) w1.n 0 (by decide) (by rw [sG0]; omega)) gX0_writePlain_X0_writeWord rfl (by decide +kernel) rfl rfl (Nat.le_of_ble_eq_true rfl) ⟨by decide, by decide⟩ (by decide) rfl (oP0 hX) (fun S3 H locs hp w => ?_)
    have w2 := w1.tr (by decide) (by decide) hp
    refine lv_aload_n hx hb dX0_writePlain_24 rfl (lv_at hl 0 rfl) ?_
    refine lv_aload_n hx hb dX0_writePlain_25 rfl (lv_at hl 1 rfl) ?_
    refine pgQ 2 3 9 (by decide) rfl (by decide) rfl rfl C w hi2 (by decide +kernel) dX0_writePlain_26 (oP2 hX (by omega)) (lk2 (lkX_of hS w2.1) hr) ?_
    refine lv_iconst (v := 1) hx hb dX0_writePlain_29 (by decide) ?_
    refine paJ C w dX0_writePlain_30 (oP9 hX hr) (n := 1) rfl (oN9 hX hr) (by decide) (by decide) (v := sJ S 9 r 1) (by rw [w2.2.1]) ?_
    refine cvV (n := 1) C w hl dX0_writePlain_31 (c_X0_writeNumber l G hX S3 (lkX_of hS w2.1) (0 + (numT (sJ S 9 r 0) ++ sTx 0).length) w2.n (by rw [List.length_append, sL0]; omega) (sJ S 9 r 1)) gX0_writePlain_X0_writeNumber rfl (by decide +kernel) rfl rfl (Nat.le_of_ble_eq_true rfl) ⟨by decide, by decide⟩ (by decide) rfl (oP0 hX) (fun S4 H locs hp w => ?_)
    have w3 := w2.tr (by decide) (by decide) hp
    refine lv_aload_n hx hb dX0_writePlain_34 rfl (lv_at hl 1 rfl) ?_
    refine pgI 2 0 (by decide) rfl (by decide) (Or.inl rfl) rfl C w hi2 (by decide +kernel) dX0_writePlain_35 (oP2 hX (by omega)) (v := sI S 2 r 0) (by rw [w3.2.2.2.2 2 r 0 (by simp) (by simp) (by simp)]) ?_
    refine lv_iconst (v := 2) hx hb dX0_writePlain_38 (by decide) ?_
    refine lv_icmp_ne (tgt := 58) hx hb dX0_writePlain_39 (by decide) (fun c_39 => ?_) (fun c_39 => ?_)
    · have hte : ((numT (sJ S 9 r 0) ++ sTx 0) ++ numT (sJ S 9 r 1)) ++ sTx 2 = (if sI S 2 r 0 = 0 then numT (sJ S 9 r 0) else if sI S 2 r 0 = 2 then ((((numT (sJ S 9 r 0) ++ sTx 0) ++ numT (sJ S 9 r 1)) ++ sTx 1) ++ numT (sJ S 9 r 2)) ++ sTx 2 else ((numT (sJ S 9 r 0) ++ sTx 0) ++ numT (sJ S 9 r 1)) ++ sTx 2) := by rw [if_neg c_14, if_neg c_39]
      have htle : ((numT (sJ S 9 r 0) ++ sTx 0) ++ numT (sJ S 9 r 1)).length ≤ 100 := by rw [List.length_append, List.length_append, sL0]; omega
      have hwe := w3
      exact join_58 _ _ _ _ _ hte htle hwe w (lv_sub hl [0, 1] rfl)
    · refine lv_aload_n hx hb dX0_writePlain_42 rfl (lv_at hl 0 rfl) ?_
      refine va_ldcS hx hb hown hk.2.2.2.2.1 dX0_writePlain_43 ?_
      refine kvV (n := 1) C hk w hl dX0_writePlain_45 (c_X0_writeWord l G k hX S4 (lkX_of hS w3.1) (0 + ((numT (sJ S 9 r 0) ++ sTx 0) ++ numT (sJ S 9 r 1)).length) w3.n 1 (by decide) (by rw [List.length_append, List.length_append, sL0, sG1]; omega)) gX0_writePlain_X0_writeWord rfl (by decide +kernel) rfl rfl (Nat.le_of_ble_eq_true rfl) ⟨by decide, by decide⟩ (by decide) rfl (oP0 hX) (fun S5 H locs hp w => ?_)
      have w4 := w3.tr (by decide) (by decide) hp
      refine lv_aload_n hx hb dX0_writePlain_48 rfl (lv_at hl 0 rfl) ?_
      refine lv_aload_n hx hb dX0_writePlain_49 rfl (lv_at hl 1 rfl) ?_
      refine pgQ 2 3 9 (by decide) rfl (by decide) rfl rfl C w hi2 (by decide +kernel) dX0_writePlain_50 (oP2 hX (by omega)) (lk2 (lkX_of hS w4.1) hr) ?_
      refine lv_iconst (v := 2) hx hb dX0_writePlain_53 (by decide) ?_
      refine paJ C w dX0_writePlain_54 (oP9 hX hr) (n := 2) rfl (oN9 hX hr) (by decide) (by decide) (v := sJ S 9 r 2) (by rw [w4.2.1]) ?_
      refine cvV (n := 1) C w hl dX0_writePlain_55 (c_X0_writeNumber l G hX S5 (lkX_of hS w4.1) (0 + (((numT (sJ S 9 r 0) ++ sTx 0) ++ numT (sJ S 9 r 1)) ++ sTx 1).length) w4.n (by rw [List.length_append, List.length_append, List.length_append, sL0, sL1]; omega) (sJ S 9 r 2)) gX0_writePlain_X0_writeNumber rfl (by decide +kernel) rfl rfl (Nat.le_of_ble_eq_true rfl) ⟨by decide, by decide⟩ (by decide) rfl (oP0 hX) (fun S6 H locs hp w => ?_)
      have hwe := w4.tr (by decide) (by decide) hp
      have hte : ((((numT (sJ S 9 r 0) ++ sTx 0) ++ numT (sJ S 9 r 1)) ++ sTx 1) ++ numT (sJ S 9 r 2)) ++ sTx 2 = (if sI S 2 r 0 = 0 then numT (sJ S 9 r 0) else if sI S 2 r 0 = 2 then ((((numT (sJ S 9 r 0) ++ sTx 0) ++ numT (sJ S 9 r 1)) ++ sTx 1) ++ numT (sJ S 9 r 2)) ++ sTx 2 else ((numT (sJ S 9 r 0) ++ sTx 0) ++ numT (sJ S 9 r 1)) ++ sTx 2) := by rw [if_neg c_14, if_pos c_39]
      have htle : ((((numT (sJ S 9 r 0) ++ sTx 0) ++ numT (sJ S 9 r 1)) ++ sTx 1) ++ numT (sJ S 9 r 2)).length ≤ 100 := by rw [List.length_append, List.length_append, List.length_append, List.length_append, sL0, sL1]; omega
      exact join_58 _ _ _ _ _ hte htle hwe w (lv_sub hl [0, 1] rfl)
  · exact hret _ _ _ _ _ dX0_writePlain_17 w (by rw [if_pos c_14]; exact w1)

theorem wrP.from0 {cl kl cb rb : Nat} {S S2 : PS} {t : List Int32} {x : Int32} (h : wrP cl kl cb rb (uI S cl 0 kl x) S2 0 t) : wrP cl kl cb rb S S2 0 t :=
  ⟨h.1, h.2.1, h.2.2.1, h.2.2.2.1, fun c r k q1 q2 q3 => by rw [h.2.2.2.2 c r k q1 q2 q3, sI_uI, if_neg q1]⟩

set_option maxHeartbeats 4000000 in
set_option maxRecDepth 100000 in
/-- write -/
theorem c_X0_write (l : Launch) (G : GT) (k : SK) (hX : okX G) (S : PS) (hS : lkX S) (r : Nat) (hr : r < 79) (hd sz : Nat) (hhd : sI S 2 r 1 = nI hd) (hsz : sI S 2 r 2 = nI sz) (h6 : sI S 2 r 0 = 3 → hd ≤ 6 ∧ hd ≤ sz ∧ sz - hd ≤ 6) : CkV l G k yX0_write wsX0_write (rmK 7 149) [.ref (gA G 0 0), .ref (gA G 2 r)] S (fun S2 => wrP 0 1 7 1 S S2 0 (prT (sI S 2 r 0) hd sz (sJ S 9 r))) := by
  refine ofCkV (cc := cX0_write) (nL := 2) RX0 (by decide +kernel) rfl rfl (Nat.le_of_ble_eq_true rfl) ?_
  intro p e s m args below meth c A Q ls C hk w hl hret
  have hx := C.1
  have hb := C.2.1
  have hown := C.2.2.2.1
  have hts := C.2.2.2.2.1
  have hi0 : ∀ w ∈ wsX00, w ∈ wsX0_write := by decide +kernel
  have hi2 : ∀ w ∈ wsX20, w ∈ wsX0_write := by decide +kernel
  refine lv_aload_n hx hb dX0_write_0 rfl (lv_at hl 0 rfl) ?_
  refine lv_iconst (v := 0) hx hb dX0_write_1 (by decide) ?_
  refine ppI 0 1 (by decide) rfl (by decide) rfl rfl tyX0_ok nmX0 rfl (by decide +kernel) C w hi0 (by decide +kernel) dX0_write_2 (oP0 hX) (fun H locs w => ?_)
  refine lv_aload_n hx hb dX0_write_5 rfl (lv_at hl 1 rfl) ?_
  refine pgI 2 0 (by decide) rfl (by decide) (Or.inl rfl) rfl C w hi2 (by decide +kernel) dX0_write_6 (oP2 hX (by omega)) (v := sI S 2 r 0) (by rw [sI_uI, if_neg (by simp)]) ?_
  refine lv_iconst (v := 3) hx hb dX0_write_9 (by decide) ?_
  refine lv_icmp_ne (tgt := 21) hx hb dX0_write_10 (by decide) (fun c_10 => ?_) (fun c_10 => ?_)
  · refine lv_aload_n hx hb dX0_write_21 rfl (lv_at hl 0 rfl) ?_
    refine lv_aload_n hx hb dX0_write_22 rfl (lv_at hl 1 rfl) ?_
    refine kvV (n := 1) C hk w hl dX0_write_23 (c_X0_writePlain l G k hX (uI S 0 0 1 0) hS (by rw [sI_uI, if_pos ⟨rfl, rfl, rfl⟩]; rfl) r hr) gX0_write_X0_writePlain rfl (by decide +kernel) rfl rfl (Nat.le_of_ble_eq_true rfl) ⟨by decide, by decide⟩ (by decide) rfl (oP0 hX) (fun S1 H locs hp w => ?_)
    have hpr : wrP 0 1 7 1 S S1 0 (prT (sI S 2 r 0) hd sz (sJ S 9 r)) := by
      unfold prT
      rw [if_neg c_10]
      exact wrP.from0 hp
    exact hret _ _ _ _ _ dX0_write_26 w hpr
  · refine lv_aload_n hx hb dX0_write_13 rfl (lv_at hl 0 rfl) ?_
    refine lv_aload_n hx hb dX0_write_14 rfl (lv_at hl 1 rfl) ?_
    refine kvV (n := 1) C hk w hl dX0_write_15 (c_X0_writeBent l G k hX (uI S 0 0 1 0) hS (by rw [sI_uI, if_pos ⟨rfl, rfl, rfl⟩]; rfl) r hr hd sz (by rw [sI_uI, if_neg (by simp)]; exact hhd) (by rw [sI_uI, if_neg (by simp)]; exact hsz) (h6 c_10).1 (h6 c_10).2.1 (h6 c_10).2.2) gX0_write_X0_writeBent rfl (by decide +kernel) rfl rfl (Nat.le_of_ble_eq_true rfl) ⟨by decide, by decide⟩ (by decide) rfl (oP0 hX) (fun S1 H locs hp w => ?_)
    have hpr : wrP 0 1 7 1 S S1 0 (prT (sI S 2 r 0) hd sz (sJ S 9 r)) := by
      unfold prT
      rw [if_pos c_10]
      exact wrP.from0 hp
    refine lv_goto (tgt := 26) hx hb dX0_write_18 (by decide) ?_
    exact hret _ _ _ _ _ dX0_write_26 w hpr

/-- print: its answer -/
def spPrint (n : Nat) (sh : Nat → Int32) (tx : Nat → List Int32) (a v : Int32) (same : Prop) (eff : List Int32 → Prop) : Prop :=
  if inN a n then (if sh (jn a) = -1 then v = -11 ∧ same else v = nI (tx (jn a)).length ∧ eff (tx (jn a))) else v = -2 ∧ same

set_option maxHeartbeats 4000000 in
set_option maxRecDepth 100000 in
/-- print -/
theorem c_X5_print (l : Launch) (G : GT) (k : SK) (hX : okX G) (S : PS) (hS : lkX S) (n : Nat) (hn : sI S 5 0 1 = nI n) (hn60 : n ≤ 60)(hsh : ∀ i, i < n → sI S 2 i 0 = 3 → jn (sI S 2 i 1) ≤ 6 ∧ jn (sI S 2 i 1) ≤ jn (sI S 2 i 2) ∧ jn (sI S 2 i 2) - jn (sI S 2 i 1) ≤ 6) (hh0 : ∀ i, i < n → 0 ≤ (sI S 2 i 1).toInt) (hz0 : ∀ i, i < n → 0 ≤ (sI S 2 i 2).toInt) (a : Int32) : CkI l G k yX5_print wsX5_print (rmK 8 170) [.ref (gA G 5 0), .int a] S (fun v S2 => spPrint n (fun j => sI S 2 j 0) (fun j => prT (sI S 2 j 0) (jn (sI S 2 j 1)) (jn (sI S 2 j 2)) (sJ S 9 j)) a v (S2 = S) (fun t => wrP 0 1 7 1 S S2 0 t)) := by
  refine ofCkN (cc := cX5_print) (nL := 2) .int RX5 (by decide +kernel) rfl rfl (Nat.le_of_ble_eq_true rfl) ?_
  intro p e s m args below meth c A Q ls C hk w hl hret
  have hx := C.1
  have hb := C.2.1
  have hown := C.2.2.2.1
  have hts := C.2.2.2.2.1
  have hi0 : ∀ w ∈ wsX00, w ∈ wsX5_print := by decide +kernel
  have hi5 : ∀ w ∈ wsX50, w ∈ wsX5_print := by decide +kernel
  refine lv_aload_n hx hb dX5_print_0 rfl (lv_at hl 0 rfl) ?_
  refine lv_iload_n hx hb dX5_print_1 rfl (lv_at hl 1 rfl) ?_
  refine cvI (n := 1) C w hl dX5_print_2 (c_X5_isNumber l G hX S n hn hn60 a) gX5_print_X5_isNumber rfl (by decide +kernel) rfl rfl (Nat.le_of_ble_eq_true rfl) ⟨by decide, by decide⟩ (by decide) rfl (oP5 hX) (fun v1 S9 H locs hp w => ?_)
  obtain ⟨q1, e0⟩ := hp
  rw [e0] at w
  refine lv_if_ne (tgt := 11) hx hb dX5_print_5 (by decide) (fun c_5 => ?_) (fun c_5 => ?_)
  · have ha := yes_of q1 c_5
    have hja := jn_lt ha
    refine lv_aload_n hx hb dX5_print_11 rfl (lv_at hl 0 rfl) ?_
    refine pgQ 5 0 10 (by decide) rfl (by decide) rfl rfl C w hi5 (by decide +kernel) dX5_print_12 (oP5 hX) hS.2.2.1 ?_
    refine lv_iload_n hx hb dX5_print_15 rfl (lv_at hl 1 rfl) ?_
    refine paQ C w dX5_print_16 (oP10 hX (by decide)) (n := jn a) (jn_eq ha) (oN100 hX) (by omega) (by decide) (r1 := jn a) (lk10 hS (by omega)) ?_
    refine cvI (n := 0) C w hl dX5_print_17 (c_X2_isNothing l G hX S (jn a) (by omega)) gX5_print_X2_isNothing rfl (by decide +kernel) rfl rfl (Nat.le_of_ble_eq_true rfl) ⟨by decide, by decide⟩ (by decide) rfl (oP2 hX (by omega)) (fun v2 S2 H locs hp w => ?_)
    obtain ⟨q2, e0⟩ := hp
    rw [e0] at w
    replace q2 := of_if q2
    refine lv_if_eq (tgt := 26) hx hb dX5_print_20 (by decide) (fun c_20 => ?_) (fun c_20 => ?_)
    · refine lv_aload_n hx hb dX5_print_26 rfl (lv_at hl 0 rfl) ?_
      refine pgQ 5 3 0 (by decide) rfl (by decide) rfl rfl C w hi5 (by decide +kernel) dX5_print_27 (oP5 hX) hS.2.2.2.2.1 ?_
      refine lv_aload_n hx hb dX5_print_30 rfl (lv_at hl 0 rfl) ?_
      refine pgQ 5 0 10 (by decide) rfl (by decide) rfl rfl C w hi5 (by decide +kernel) dX5_print_31 (oP5 hX) hS.2.2.1 ?_
      refine lv_iload_n hx hb dX5_print_34 rfl (lv_at hl 1 rfl) ?_
      refine paQ C w dX5_print_35 (oP10 hX (by decide)) (n := jn a) (jn_eq ha) (oN100 hX) (by omega) (by decide) (r1 := jn a) (lk10 hS (by omega)) ?_
      refine kvV (n := 1) C hk w hl dX5_print_36 (c_X0_write l G k hX S hS (jn a) (by omega) (jn (sI S 2 (jn a) 1)) (jn (sI S 2 (jn a) 2)) (nI_jn (hh0 _ hja)) (nI_jn (hz0 _ hja)) (hsh _ hja)) gX5_print_X0_write rfl (by decide +kernel) rfl rfl (Nat.le_of_ble_eq_true rfl) ⟨by decide, by decide⟩ (by decide) rfl (oP0 hX) (fun S4 H locs hp w => ?_)
      refine lv_aload_n hx hb dX5_print_39 rfl (lv_at hl 0 rfl) ?_
      refine pgQ 5 3 0 (by decide) rfl (by decide) rfl rfl C w hi5 (by decide +kernel) dX5_print_40 (oP5 hX) (by rw [hp.1]; exact hS.2.2.2.2.1) ?_
      refine pgI 0 1 (by decide) rfl (by decide) (Or.inl rfl) rfl C w hi0 (by decide +kernel) dX5_print_43 (oP0 hX) (v := nI (prT (sI S 2 (jn a) 0) (jn (sI S 2 (jn a) 1)) (jn (sI S 2 (jn a) 2)) (sJ S 9 (jn a))).length) (by rw [hp.n, Nat.zero_add]) ?_
      exact hret _ _ _ _ _ _ dX5_print_46 w rfl (by unfold spPrint; rw [if_pos ha, if_neg (no_of q2 c_20)]; exact ⟨rfl, hp⟩)
    · refine lv_bipush (v := (-11)) hx hb dX5_print_23 (by decide) ?_
      exact hret _ _ _ _ _ _ dX5_print_25 w rfl (by unfold spPrint; rw [if_pos ha, if_pos (yes_of q2 c_20)]; exact ⟨rfl, rfl⟩)
  · refine lv_bipush (v := (-2)) hx hb dX5_print_8 (by decide) ?_
    exact hret _ _ _ _ _ _ dX5_print_10 w rfl (by unfold spPrint; rw [if_neg (no_of q1 c_5)]; exact ⟨rfl, rfl⟩)
