set_option maxHeartbeats 4000000 in
set_option maxRecDepth 100000 in
/-- here -/
theorem c_X6_here (l : Launch) (G : GT) (hM : okM G) (S : PS) (T : Nat → Int32) (tl n : Nat) (s0 : Nat × Bool) (ht : mst S T tl n s0) (h300 : tl ≤ 300) (hq0 : s0.1 ≤ tl)  : CtI l G yX6_here wsX6_here (rmK 0 0) [.ref (gA G 6 0)] S (fun v S2 => v = hr T tl s0.1 ∧ S2 = S) := by
  refine ofCtI (cc := cX6_here) (nL := 1) RX6 (by decide +kernel) rfl rfl (Nat.le_of_ble_eq_true rfl) ?_
  intro p e s m args below meth c A Q ls C w hl hret
  have hx := C.1
  have hb := C.2.1
  have hown := C.2.2.2.1
  have hts := C.2.2.2.2.1
  have hi6 : ∀ w ∈ wsX60, w ∈ wsX6_here := by decide +kernel
  refine lv_aload_n hx hb dX6_here_0 rfl (lv_at hl 0 rfl) ?_
  refine pgI 6 20 (by decide) rfl (by decide) (Or.inl rfl) rfl C w hi6 (by decide +kernel) dX6_here_1 (oM6 hM) (v := nI s0.1) ht.2.2.2.2.1 ?_
  refine lv_aload_n hx hb dX6_here_4 rfl (lv_at hl 0 rfl) ?_
  refine pgI 6 13 (by decide) rfl (by decide) (Or.inl rfl) rfl C w hi6 (by decide +kernel) dX6_here_5 (oM6 hM) (v := nI tl) ht.2.2.1 ?_
  refine lv_icmp_ge (tgt := 23) hx hb dX6_here_8 (by decide) (fun c_8 => ?_) (fun c_8 => ?_)
  · have hge := (nI_leI (a := tl) (b := s0.1) (by omega) (by omega)).mp c_8
    refine lv_iconst (v := (-1)) hx hb dX6_here_23 (by decide) ?_
    exact hret _ _ _ _ _ _ dX6_here_24 w ⟨by first | exact (hr_lt hlt).symm | exact (hr_end hge).symm, rfl⟩
  · have hlt : s0.1 < tl := by have := mt (nI_leI (a := tl) (b := s0.1) (by omega) (by omega)).mpr c_8; omega
    refine lv_aload_n hx hb dX6_here_11 rfl (lv_at hl 0 rfl) ?_
    refine pgQ 6 14 8 (by decide) rfl (by decide) rfl rfl C w hi6 (by decide +kernel) dX6_here_12 (oM6 hM) (ht.1.2.2.2.2.2.2.2.1) ?_
    refine lv_aload_n hx hb dX6_here_15 rfl (lv_at hl 0 rfl) ?_
    refine pgI 6 20 (by decide) rfl (by decide) (Or.inl rfl) rfl C w hi6 (by decide +kernel) dX6_here_16 (oM6 hM) (v := nI s0.1) ht.2.2.2.2.1 ?_
    refine paI C w dX6_here_19 (oM8 hM (by decide)) rfl (nM84 hM) (by omega) (by decide) (v := T s0.1) (by rw [ht.2.1]) ?_
    refine lv_goto (tgt := 24) hx hb dX6_here_20 (by decide) ?_
    exact hret _ _ _ _ _ _ dX6_here_24 w ⟨by first | exact (hr_lt hlt).symm | exact (hr_end hge).symm, rfl⟩

set_option maxHeartbeats 4000000 in
set_option maxRecDepth 100000 in
/-- isFigure -/
theorem c_X6_isFigure (l : Launch) (G : GT) (hM : okM G) (S : PS) (T : Nat → Int32) (tl n : Nat) (s0 : Nat × Bool) (ht : mst S T tl n s0) (h300 : tl ≤ 300) (hq0 : s0.1 ≤ tl)  : CtI l G yX6_isFigure wsX6_isFigure (rmK 1 25) [.ref (gA G 6 0)] S (fun v S2 => ((v = 1 ∧ dig (hr T tl s0.1)) ∨ (v = 0 ∧ ¬ dig (hr T tl s0.1))) ∧ S2 = S) := by
  refine ofCtZ (cc := cX6_isFigure) (nL := 1) RX6 (by decide +kernel) rfl rfl (Nat.le_of_ble_eq_true rfl) ?_
  intro p e s m args below meth c A Q ls C w hl hret
  have hx := C.1
  have hb := C.2.1
  have hown := C.2.2.2.1
  have hts := C.2.2.2.2.1
  refine lv_aload_n hx hb dX6_isFigure_0 rfl (lv_at hl 0 rfl) ?_
  refine cvI (n := 0) C w hl dX6_isFigure_1 (c_X6_here l G hM S T tl n s0 ht h300 hq0) gX6_isFigure_X6_here rfl (by decide +kernel) rfl rfl (Nat.le_of_ble_eq_true rfl) ⟨by decide, by decide⟩ (by decide) rfl (oM6 hM) (fun v5 S9 H locs hp w => ?_)
  obtain ⟨rfl, e0⟩ := hp
  rw [e0] at w
  refine lv_i2l hx hb dX6_isFigure_4 rfl ?_
  refine lv_ldc2 (v := (48)) hx hb hown (hts (.constantLong RX6 133 (48)) (by decide +kernel)) dX6_isFigure_5 ?_
  refine lv_ldc2 (v := (57)) hx hb hown (hts (.constantLong RX6 135 (57)) (by decide +kernel)) dX6_isFigure_8 ?_
  refine csI (n := 3) C w hl dX6_isFigure_11 (c_X6_in l G S _ _ _) gX6_isFigure_X6_in rfl (by decide +kernel) rfl rfl (Nat.le_of_ble_eq_true rfl) ⟨by decide, by decide⟩ (fun v7 S7 H locs hp w => ?_)
  obtain ⟨q7, e0⟩ := hp
  rw [e0] at w
  exact hret _ _ _ _ _ _ dX6_isFigure_14 w (b_of q7) ⟨imp_of dig_64 q7, rfl⟩

set_option maxHeartbeats 4000000 in
set_option maxRecDepth 100000 in
/-- take -/
theorem c_X6_take (l : Launch) (G : GT) (hM : okM G) (S : PS) (T : Nat → Int32) (tl n : Nat) (s0 : Nat × Bool) (ht : mst S T tl n s0) (h300 : tl ≤ 300) (hq0 : s0.1 ≤ tl) (c2 : Int32) : CtV l G yX6_take wsX6_take (rmK 1 20) [.ref (gA G 6 0), .int c2] S (fun S2 => S2 = stS S (wM (hr T tl) [c2] s0)) := by
  refine ofCtV (cc := cX6_take) (nL := 2) RX6 (by decide +kernel) rfl rfl (Nat.le_of_ble_eq_true rfl) ?_
  intro p e s m args below meth c A Q ls C w hl hret
  have hx := C.1
  have hb := C.2.1
  have hown := C.2.2.2.1
  have hts := C.2.2.2.2.1
  have hi6 : ∀ w ∈ wsX60, w ∈ wsX6_take := by decide +kernel
  have join_21 : ∀ (b2 : Bool) (H : Heap) (locs : List Loc) (ls : Array Slot), (b2 = (wM (hr T tl) [c2] s0).2) → Wd G A s.heap S H locs → lv_has ls 2 [(0, .ref (gA G 6 0)), (1, .int c2)] → W p l e (rmK 1 20) s m args below meth c H locs 0 0 Q (F0 m 21 ls [.int (bI b2), .ref (gA G 6 0)]) := by
    intro b2 H locs ls hb2 w hl
    refine ppZ 6 21 (by decide) rfl (by decide) rfl rfl tyX6_ok nmX6 rfl (by decide +kernel) C w hi6 (by decide +kernel) dX6_take_21 (oM6 hM) (bI_01 b2) (fun H locs w => ?_)
    
    refine lv_aload_n hx hb dX6_take_24 rfl (lv_at hl 0 rfl) ?_
    refine lv_dup hx hb dX6_take_25 rfl ?_
    refine pgI 6 20 (by decide) rfl (by decide) (Or.inl rfl) rfl C w hi6 (by decide +kernel) dX6_take_26 (oM6 hM) (v := nI s0.1) (by rw [sI_uI, if_neg (by simp)]; exact ht.2.2.2.2.1) ?_
    refine lv_aload_n hx hb dX6_take_29 rfl (lv_at hl 0 rfl) ?_
    refine pgI 6 21 (by decide) rfl (by decide) (Or.inr rfl) rfl C w hi6 (by decide +kernel) dX6_take_30 (oM6 hM) (v := bI b2) (by rw [sI_uI, if_pos ⟨rfl, rfl, rfl⟩]) ?_
    refine lv_if_eq (tgt := 40) hx hb dX6_take_33 (by decide) (fun c_33 => ?_) (fun c_33 => ?_)
    · have hun : s0.2 = false := by
        cases h : s0.2 with
        | false => rfl
        | true => rw [wM_s h, h] at hb2; rw [hb2] at c_33; exact absurd c_33 (show ¬ bI true = 0 by decide)
      have hpl : nI s0.1 + 1 = nI (wM (hr T tl) [c2] s0).1 := by
        rw [wM_u hun, wrd_c]
        by_cases z : hr T tl s0.1 = c2
        · rw [if_pos z]; exact nI_1 _
        · rw [wM_u hun, wrd_c, if_neg z] at hb2; rw [hb2] at c_33; exact absurd c_33 (show ¬ bI true = 0 by decide)
      refine lv_iconst (v := 1) hx hb dX6_take_40 (by decide) ?_
      refine lv_iadd hx hb dX6_take_41 ?_
      refine ppI 6 20 (by decide) rfl (by decide) rfl rfl tyX6_ok nmX6 rfl (by decide +kernel) C w hi6 (by decide +kernel) dX6_take_42 (oM6 hM) (fun H locs w => ?_)
      rw [hpl] at w
      exact hret _ _ _ _ _ dX6_take_45 w (by rw [hb2]; unfold stS; exact PS_ext (fun c r k => by rw [sI_uI, sI_uI, sI_uI, sI_uI]; by_cases z1 : c = 6 ∧ r = 0 ∧ k = 20; rw [if_pos z1, if_neg (fun x => by omega), if_pos z1]; rw [if_neg z1, if_neg z1]) (fun _ _ _ => rfl) (fun _ _ _ => rfl))
    · have hb2t : (wM (hr T tl) [c2] s0).2 = true := by cases h : (wM (hr T tl) [c2] s0).2 with | true => rfl | false => rw [h] at hb2; rw [hb2] at c_33; exact absurd rfl c_33
      have hpl : nI s0.1 + 0 = nI (wM (hr T tl) [c2] s0).1 := by
        rw [show nI s0.1 + 0 = nI s0.1 from nI_add _ 0]
        by_cases z : s0.2 = true
        · rw [wM_s z]
        · rw [wM_u (Bool.not_eq_true _ ▸ z), wrd_c] at hb2t ⊢
          by_cases y : hr T tl s0.1 = c2
          · rw [if_pos y] at hb2t; exact absurd hb2t (show ¬ false = true from Bool.false_ne_true)
          · rw [if_neg y]
      refine lv_iconst (v := 0) hx hb dX6_take_36 (by decide) ?_
      refine lv_goto (tgt := 41) hx hb dX6_take_37 (by decide) ?_
      refine lv_iadd hx hb dX6_take_41 ?_
      refine ppI 6 20 (by decide) rfl (by decide) rfl rfl tyX6_ok nmX6 rfl (by decide +kernel) C w hi6 (by decide +kernel) dX6_take_42 (oM6 hM) (fun H locs w => ?_)
      rw [hpl] at w
      exact hret _ _ _ _ _ dX6_take_45 w (by rw [hb2]; unfold stS; exact PS_ext (fun c r k => by rw [sI_uI, sI_uI, sI_uI, sI_uI]; by_cases z1 : c = 6 ∧ r = 0 ∧ k = 20; rw [if_pos z1, if_neg (fun x => by omega), if_pos z1]; rw [if_neg z1, if_neg z1]) (fun _ _ _ => rfl) (fun _ _ _ => rfl))
  refine lv_aload_n hx hb dX6_take_0 rfl (lv_at hl 0 rfl) ?_
  refine lv_aload_n hx hb dX6_take_1 rfl (lv_at hl 0 rfl) ?_
  refine pgI 6 21 (by decide) rfl (by decide) (Or.inr rfl) rfl C w hi6 (by decide +kernel) dX6_take_2 (oM6 hM) (v := bI s0.2) ht.2.2.2.2.2 ?_
  refine lv_if_ne (tgt := 16) hx hb dX6_take_5 (by decide) (fun c_5 => ?_) (fun c_5 => ?_)
  · have hst : s0.2 = true := by cases h : s0.2 with | true => rfl | false => rw [h] at c_5; exact absurd rfl c_5
    have hbb : true = (wM (hr T tl) [c2] s0).2 := by rw [wM_s hst]; exact hst.symm
    refine lv_iconst (v := 1) hx hb dX6_take_16 (by decide) ?_
    refine lv_goto (tgt := 21) hx hb dX6_take_17 (by decide) ?_
    exact join_21 _ _ _ _ hbb w (lv_sub hl [0, 1] rfl)
  · have hun : s0.2 = false := bI_0.mp c_5
    refine lv_aload_n hx hb dX6_take_8 rfl (lv_at hl 0 rfl) ?_
    refine cvI (n := 0) C w hl dX6_take_9 (c_X6_here l G hM S T tl n s0 ht h300 hq0) gX6_take_X6_here rfl (by decide +kernel) rfl rfl (Nat.le_of_ble_eq_true rfl) ⟨by decide, by decide⟩ (by decide) rfl (oM6 hM) (fun v5 S9 H locs hp w => ?_)
    obtain ⟨rfl, e0⟩ := hp
    rw [e0] at w
    refine lv_iload_n hx hb dX6_take_12 rfl (lv_at hl 1 rfl) ?_
    refine lv_icmp_eq (tgt := 20) hx hb dX6_take_13 (by decide) (fun c_13 => ?_) (fun c_13 => ?_)
    · have hbb : false = (wM (hr T tl) [c2] s0).2 := by rw [wM_u hun, wrd_c, if_pos c_13]; rfl
      refine lv_iconst (v := 0) hx hb dX6_take_20 (by decide) ?_
      exact join_21 _ _ _ _ hbb w (lv_sub hl [0, 1] rfl)
    · have hbb : true = (wM (hr T tl) [c2] s0).2 := by rw [wM_u hun, wrd_c, if_neg c_13]; rfl
      refine lv_iconst (v := 1) hx hb dX6_take_16 (by decide) ?_
      refine lv_goto (tgt := 21) hx hb dX6_take_17 (by decide) ?_
      exact join_21 _ _ _ _ hbb w (lv_sub hl [0, 1] rfl)
