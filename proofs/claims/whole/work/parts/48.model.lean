theorem sumC_bd {W : Nat → Int64} {C : Nat → Int32} {i : Int32} : ∀ n : Nat, (∀ j, j < n → 0 ≤ (C j).toInt ∧ (C j).toInt ≤ 1000000) → -9223372036854775808000000 * (n : Int) ≤ sumC W C i n ∧ sumC W C i n ≤ 9223372036854775808000000 * (n : Int) := by
  intro n
  induction n with
  | zero => intro _; exact ⟨by simp [sumC], by simp [sumC]⟩
  | succ n ih =>
    intro h
    have h1 := ih (fun i hi => h i (by omega))
    have h2 := prod_bd (W n) (h n (by omega))
    unfold sumC
    split <;> omega

set_option maxHeartbeats 4000000 in
set_option maxRecDepth 100000 in
/-- total -/
theorem c_X6_total (l : Launch) (G : GT) (hM : okM G) (S : PS) (n : Nat) (hn : sI S 6 0 0 = nI n) (hn60 : n ≤ 60) (nr z : Nat) (hpl : plM S nr z)(i : Int32) : CtI l G yX6_total wsX6_total (rmK 1 25) [.ref (gA G 6 0), .int i] S (fun v S2 => spTotal n nr i v (S2 = S) (nwM S S2 n (sI S 6 0 5) (sI S 6 0 6) z (fun k => Int64.ofInt (sumV (fun x => sJ S 9 1 (12 * x + k)) (sI S 8 3) nr))) (fun j => nwM S S2 n (sI S 6 0 5) (sI S 6 0 6) z (fun k => Int64.ofInt ((sJ S 9 1 (12 * j + k)).toInt * (sI S 8 3 j).toInt)))) := by
  refine ofCtI (cc := cX6_total) (nL := 4) RX6 (by decide +kernel) rfl rfl (Nat.le_of_ble_eq_true rfl) ?_
  intro p e s m args below meth c A Q ls C w hl hret
  have hx := C.1
  have hb := C.2.1
  have hown := C.2.2.2.1
  have hts := C.2.2.2.2.1
  have hi6 : ∀ w ∈ wsX60, w ∈ wsX6_total := by decide +kernel
  have h12 := hpl.n12
  have hz12 := hpl.z12
  refine lv_iload_n hx hb dX6_total_0 rfl (lv_at hl 1 rfl) ?_
  refine lv_i2l hx hb dX6_total_1 rfl ?_
  refine lv_ldc2 (v := (-1)) hx hb hown (hts (.constantLong RX6 112 (-1)) (by decide +kernel)) dX6_total_2 ?_
  refine lv_aload_n hx hb dX6_total_5 rfl (lv_at hl 0 rfl) ?_
  refine pgI 6 8 (by decide) rfl (by decide) (Or.inl rfl) rfl C w hi6 (by decide +kernel) dX6_total_6 (oM6 hM) (v := nI nr) hpl.n ?_
  refine lv_iconst (v := 1) hx hb dX6_total_9 (by decide) ?_
  refine lv_isub hx hb dX6_total_10 ?_
  refine lv_i2l hx hb dX6_total_11 rfl ?_
  refine csI (n := 3) C w hl dX6_total_12 (c_X6_in l G S _ _ _) gX6_total_X6_in rfl (by decide +kernel) rfl rfl (Nat.le_of_ble_eq_true rfl) ⟨by decide, by decide⟩ (fun v7 S7 H locs hp w => ?_)
  obtain ⟨q1, e0⟩ := hp
  rw [e0] at w
  replace q1 := imp_of (in_m1 (by omega)) q1
  refine lv_if_ne (tgt := 21) hx hb dX6_total_15 (by decide) (fun c_15 => ?_) (fun c_15 => ?_)
  · have hii := yes_of q1 c_15
    refine lv_aload_n hx hb dX6_total_21 rfl (lv_at hl 0 rfl) ?_
    refine pgI 6 0 (by decide) rfl (by decide) (Or.inl rfl) rfl C w hi6 (by decide +kernel) dX6_total_22 (oM6 hM) (v := nI n) hn ?_
    refine lv_bipush (v := 60) hx hb dX6_total_25 (by decide) ?_
    refine lv_icmp_ne (tgt := 33) hx hb dX6_total_27 (by decide) (fun c_27 => ?_) (fun c_27 => ?_)
    · have hnf : ¬ n = 60 := fun q => c_27 (by rw [q]; rfl)
      refine lv_aload_n hx hb dX6_total_33 rfl (lv_at hl 0 rfl) ?_
      refine lv_aload_n hx hb dX6_total_34 rfl (lv_at hl 0 rfl) ?_
      refine pgI 6 5 (by decide) rfl (by decide) (Or.inl rfl) rfl C w hi6 (by decide +kernel) dX6_total_35 (oM6 hM) rfl ?_
      refine lv_aload_n hx hb dX6_total_38 rfl (lv_at hl 0 rfl) ?_
      refine pgI 6 6 (by decide) rfl (by decide) (Or.inl rfl) rfl C w hi6 (by decide +kernel) dX6_total_39 (oM6 hM) rfl ?_
      refine lv_aload_n hx hb dX6_total_42 rfl (lv_at hl 0 rfl) ?_
      refine pgI 6 7 (by decide) rfl (by decide) (Or.inl rfl) rfl C w hi6 (by decide +kernel) dX6_total_43 (oM6 hM) rfl ?_
      refine cvV (n := 3) C w hl dX6_total_46 (c_X6_lay l G hM S hpl.lk n hn hn60 _ _ _) gX6_total_X6_lay rfl (by decide +kernel) rfl rfl (Nat.le_of_ble_eq_true rfl) ⟨by decide, by decide⟩ (by decide) rfl (oM6 hM) (fun S3 H locs hp w => ?_)
      have hE := eqM_layM S n (sI S 6 0 5) (sI S 6 0 6) (sI S 6 0 7)
      have hl0 : sI (layM S n (sI S 6 0 5) (sI S 6 0 6) (sI S 6 0 7)) 8 0 n = sI S 6 0 5 := sI_lh0 S n (sI S 6 0 5) (sI S 6 0 6) (sI S 6 0 7)
      have hl1 : sI (layM S n (sI S 6 0 5) (sI S 6 0 6) (sI S 6 0 7)) 8 1 n = sI S 6 0 6 := sI_lh1 S n (sI S 6 0 5) (sI S 6 0 6) (sI S 6 0 7)
      have hl2 : sI (layM S n (sI S 6 0 5) (sI S 6 0 6) (sI S 6 0 7)) 8 2 n = sI S 6 0 7 := sI_lh2 S n (sI S 6 0 5) (sI S 6 0 6) (sI S 6 0 7)
      subst hp
      refine lv_iconst (v := 0) hx hb dX6_total_49 (by decide) ?_
      refine lv_istore_n hx hb dX6_total_50 rfl hl (by decide) rfl (fun ls hl => ?_)
      have loop_51 : ∀ (n2 : Nat) (k : Nat) (S1 : PS) (H : Heap) (locs : List Loc) (ls : Array Slot), k + n2 = z → (eqM S S1 n ∧ sI S1 8 0 n = sI S 6 0 5 ∧ sI S1 8 1 n = sI S 6 0 6 ∧ sI S1 8 2 n = sI S 6 0 7 ∧ (∀ j, j < k → sJ S1 9 0 (12 * n + j) = Int64.ofInt (sumC (fun x => sJ S 9 1 (12 * x + j)) (sI S 8 3) i nr))) → Wd G A s.heap S1 H locs → lv_has ls 4 [(0, .ref (gA G 6 0)), (1, .int i), (2, .int (nI k))] → W p l e (rmK 1 25) s m args below meth c H locs 0 0 Q (F0 m 51 ls []) := by
        intro n2
        induction n2 with
        | zero =>
          intro k S1 H locs ls hk hH w hl
          have hE := hH.1
          have hS := hE.lk hpl.lk
          have e9 : ∀ x, sJ S1 9 1 x = sJ S 9 1 x := fun x => hE.2.2 9 1 x (fun q => by rcases q with q | q | q; exact absurd q (by decide); exact absurd q.2 (by decide); exact absurd q.2.1 (by decide))
          have e8 : ∀ x, sI S1 8 3 x = sI S 8 3 x := fun x => hE.2.1 8 3 x (fun q => by rcases q with q | q; exact absurd q.1 (by decide); exact absurd q.2.1 (by decide))
          refine lv_iload_n hx hb dX6_total_51 rfl (lv_at hl 2 rfl) ?_
          refine lv_aload_n hx hb dX6_total_52 rfl (lv_at hl 0 rfl) ?_
          refine pgI 6 7 (by decide) rfl (by decide) (Or.inl rfl) rfl C w hi6 (by decide +kernel) dX6_total_53 (oM6 hM) (v := nI z) (by rw [hE.n 7 (by decide)]; exact hpl.z) ?_
          refine lv_icmp_ge (tgt := 135) hx hb dX6_total_56 (by decide) (fun c_56 => ?_) (fun c_56 => absurd (nI_le (by omega) (by omega)) c_56)
          refine lv_aload_n hx hb dX6_total_135 rfl (lv_at hl 0 rfl) ?_
          refine cvI (n := 0) C w hl dX6_total_136 (c_X6_keepScore l G hM S1 n (by rw [hE.n 0 (by decide)]; exact hn) hn60) gX6_total_X6_keepScore rfl (by decide +kernel) rfl rfl (Nat.le_of_ble_eq_true rfl) ⟨by decide, by decide⟩ (by decide) rfl (oM6 hM) (fun v5 S5 H locs hp w => ?_)
          obtain ⟨e5, e6⟩ := hp
          rw [e6] at w
          have hfin : ∀ g : Nat → Int64, (∀ j, j < z → Int64.ofInt (sumC (fun x => sJ S 9 1 (12 * x + j)) (sI S 8 3) i nr) = g j) → nwM S (uI S1 6 0 0 (nI (n + 1))) n (sI S 6 0 5) (sI S 6 0 6) z g := fun g hg => hsM.nw ⟨hE, hH.2.1, hH.2.2.1, by rw [hH.2.2.2.1]; exact hpl.z, fun j hj => by rw [hH.2.2.2.2 j (by omega)]; exact hg j hj⟩ hn
          exact hret _ _ _ _ _ _ dX6_total_139 w (by unfold spTotal; by_cases q : i = -1; rw [if_pos q, if_neg hnf]; exact ⟨e5, hfin _ (fun j _ => by rw [sumC_m1 q])⟩; have hi := hii.resolve_left q; rw [if_neg q, if_pos hi, if_neg hnf]; refine ⟨e5, hfin _ (fun j _ => ?_)⟩; have hj := jn_lt hi; have e := sumC_j (W := fun x => sJ S 9 1 (12 * x + j)) (C := sI S 8 3) (j := jn i) (by omega) nr h12; rw [if_pos hj, ← jn_eq hi] at e; rw [e])
        | succ n2 ih =>
          intro k S1 H locs ls hk hH w hl
          have hE := hH.1
          have hS := hE.lk hpl.lk
          have e9 : ∀ x, sJ S1 9 1 x = sJ S 9 1 x := fun x => hE.2.2 9 1 x (fun q => by rcases q with q | q | q; exact absurd q (by decide); exact absurd q.2 (by decide); exact absurd q.2.1 (by decide))
          have e8 : ∀ x, sI S1 8 3 x = sI S 8 3 x := fun x => hE.2.1 8 3 x (fun q => by rcases q with q | q; exact absurd q.1 (by decide); exact absurd q.2.1 (by decide))
          refine lv_iload_n hx hb dX6_total_51 rfl (lv_at hl 2 rfl) ?_
          refine lv_aload_n hx hb dX6_total_52 rfl (lv_at hl 0 rfl) ?_
          refine pgI 6 7 (by decide) rfl (by decide) (Or.inl rfl) rfl C w hi6 (by decide +kernel) dX6_total_53 (oM6 hM) (v := nI z) (by rw [hE.n 7 (by decide)]; exact hpl.z) ?_
          refine lv_icmp_ge (tgt := 135) hx hb dX6_total_56 (by decide) (fun c_56 => absurd c_56 (nI_ge (by omega) (by omega))) (fun c_56 => ?_)
          refine lv_aload_n hx hb dX6_total_59 rfl (lv_at hl 0 rfl) ?_
          refine cvV (n := 0) C w hl dX6_total_60 (c_X6_zero l G hM S1) gX6_total_X6_zero rfl (by decide +kernel) rfl rfl (Nat.le_of_ble_eq_true rfl) ⟨by decide, by decide⟩ (by decide) rfl (oM6 hM) (fun S4 H locs hp w => ?_)
          subst hp
          refine lv_iconst (v := 0) hx hb dX6_total_63 (by decide) ?_
          refine lv_istore_n hx hb dX6_total_64 rfl hl (by decide) rfl (fun ls hl => ?_)
          have loop_65 : ∀ (n3 : Nat) (r : Nat) (H : Heap) (locs : List Loc) (ls : Array Slot), r + n3 = nr → Wd G A s.heap (wm S1 (sumC (fun x => sJ S 9 1 (12 * x + k)) (sI S 8 3) i r)) H locs → lv_has ls 4 [(0, .ref (gA G 6 0)), (1, .int i), (2, .int (nI k)), (3, .int (nI r))] → W p l e (rmK 1 25) s m args below meth c H locs 0 0 Q (F0 m 65 ls []) := by
            intro n3
            induction n3 with
            | zero =>
              intro r H locs ls hr w hl
              refine lv_iload_n hx hb dX6_total_65 rfl (lv_at hl 3 rfl) ?_
              refine lv_aload_n hx hb dX6_total_66 rfl (lv_at hl 0 rfl) ?_
              refine pgI 6 8 (by decide) rfl (by decide) (Or.inl rfl) rfl C w hi6 (by decide +kernel) dX6_total_67 (oM6 hM) (v := nI nr) (by rw [sI_wm, hE.n 8 (by decide)]; exact hpl.n) ?_
              refine lv_icmp_ge (tgt := 111) hx hb dX6_total_70 (by decide) (fun c_70 => ?_) (fun c_70 => absurd (nI_le (by omega) (by omega)) c_70)
              have er : r = nr := by omega
              rw [er] at w
              refine lv_aload_n hx hb dX6_total_111 rfl (lv_at hl 0 rfl) ?_
              refine pgQ 6 4 9 (by decide) rfl (by decide) rfl rfl C w hi6 (by decide +kernel) dX6_total_112 (oM6 hM) (hS.2.2.2.1) ?_
              refine lv_bipush (v := 12) hx hb dX6_total_115 (by decide) ?_
              refine lv_aload_n hx hb dX6_total_117 rfl (lv_at hl 0 rfl) ?_
              refine pgI 6 0 (by decide) rfl (by decide) (Or.inl rfl) rfl C w hi6 (by decide +kernel) dX6_total_118 (oM6 hM) (v := nI n) (by rw [sI_wm, hE.n 0 (by decide)]; exact hn) ?_
              refine lv_imul hx hb dX6_total_121 ?_
              refine lv_iload_n hx hb dX6_total_122 rfl (lv_at hl 2 rfl) ?_
              refine lv_iadd hx hb dX6_total_123 ?_
              refine lv_aload_n hx hb dX6_total_124 rfl (lv_at hl 0 rfl) ?_
              refine cvL (n := 0) C w hl dX6_total_125 (c_X6_number l G hM (wm S1 (sumC (fun x => sJ S 9 1 (12 * x + k)) (sI S 8 3) i nr)) _ (sJ_wm_0 S1 _) (sJ_wm_1 S1 _)) gX6_total_X6_number rfl (by decide +kernel) rfl rfl (Nat.le_of_ble_eq_true rfl) ⟨by decide, by decide⟩ (by decide) rfl (oM6 hM) (fun v6 S6 H locs hp w => ?_)
              obtain ⟨e6, e0⟩ := hp
              rw [e0] at w
              refine psJ C w dX6_total_128 (oM9 hM (by decide)) (n := 12 * n + k) (ix12 _ _) (nM90 hM) (by omega) (by decide) (fun H locs w => ?_)
              refine lv_iinc (v := nI (k + 1)) hx hb dX6_total_129 hl (k := 2) rfl (nI_1 k) (by decide) rfl (fun ls hl => ?_)
              refine lv_goto (tgt := 51) hx hb dX6_total_132 (by decide) ?_
              exact ih (k + 1) _ _ _ _ (by omega) ⟨(hE.tr (eqM_wm _ _ _)).tr (eqM_uJ (Or.inr (Or.inr ⟨rfl, rfl, by omega, by omega⟩))), hH.2.1, hH.2.2.1, hH.2.2.2.1, fun j hj => by rw [sJ_uJ]; by_cases q : j = k; rw [if_pos ⟨rfl, rfl, by rw [q]⟩, q]; exact e6; rw [if_neg (fun x => q (by omega)), sJ_wm_n (by decide)]; exact hH.2.2.2.2 j (by omega)⟩ w (lv_sub hl [1, 2, 0] rfl)
            | succ n3 ih3 =>
              intro r H locs ls hr w hl
              refine lv_iload_n hx hb dX6_total_65 rfl (lv_at hl 3 rfl) ?_
              refine lv_aload_n hx hb dX6_total_66 rfl (lv_at hl 0 rfl) ?_
              refine pgI 6 8 (by decide) rfl (by decide) (Or.inl rfl) rfl C w hi6 (by decide +kernel) dX6_total_67 (oM6 hM) (v := nI nr) (by rw [sI_wm, hE.n 8 (by decide)]; exact hpl.n) ?_
              refine lv_icmp_ge (tgt := 111) hx hb dX6_total_70 (by decide) (fun c_70 => absurd c_70 (nI_ge (by omega) (by omega))) (fun c_70 => ?_)
              refine lv_iload_n hx hb dX6_total_73 rfl (lv_at hl 1 rfl) ?_
              refine lv_iconst (v := (-1)) hx hb dX6_total_74 (by decide) ?_
              refine lv_icmp_eq (tgt := 83) hx hb dX6_total_75 (by decide) (fun c_75 => ?_) (fun c_75 => ?_)
              · refine lv_aload_n hx hb dX6_total_83 rfl (lv_at hl 0 rfl) ?_
                refine lv_aload_n hx hb dX6_total_84 rfl (lv_at hl 0 rfl) ?_
                refine pgQ 6 9 9 (by decide) rfl (by decide) rfl rfl C w hi6 (by decide +kernel) dX6_total_85 (oM6 hM) (hS.2.2.2.2.1) ?_
                refine lv_bipush (v := 12) hx hb dX6_total_88 (by decide) ?_
                refine lv_iload_n hx hb dX6_total_90 rfl (lv_at hl 3 rfl) ?_
                refine lv_imul hx hb dX6_total_91 ?_
                refine lv_iload_n hx hb dX6_total_92 rfl (lv_at hl 2 rfl) ?_
                refine lv_iadd hx hb dX6_total_93 ?_
                refine paJ C w dX6_total_94 (oM9 hM (by decide)) (n := 12 * r + k) (ix12 _ _) (nM91 hM) (by omega) (by decide) (v := sJ S 9 1 (12 * r + k)) (by rw [sJ_wm_n (by decide)]; exact e9 _) ?_
                refine lv_aload_n hx hb dX6_total_95 rfl (lv_at hl 0 rfl) ?_
                refine pgQ 6 10 8 (by decide) rfl (by decide) rfl rfl C w hi6 (by decide +kernel) dX6_total_96 (oM6 hM) (hS.2.2.2.2.2.1) ?_
                refine lv_iload_n hx hb dX6_total_99 rfl (lv_at hl 3 rfl) ?_
                refine paI C w dX6_total_100 (oM8 hM (by decide)) rfl (nM83 hM) (by omega) (by decide) (v := sI S 8 3 r) (by rw [sI_wm]; exact e8 _) ?_
                refine lv_i2l hx hb dX6_total_101 rfl ?_
                refine cvV (n := 2) C w hl dX6_total_102 (c_X6_add l G hM (wm S1 (sumC (fun x => sJ S 9 1 (12 * x + k)) (sI S 8 3) i r)) _ (sJ_wm_0 S1 _) (sJ_wm_1 S1 _) _ _ (add_bd _ _ (hpl.c (i := r) (by omega))) (c_bd (hpl.c (i := r) (by omega)))) gX6_total_X6_add rfl (by decide +kernel) rfl rfl (Nat.le_of_ble_eq_true rfl) ⟨by decide, by decide⟩ (by decide) rfl (oM6 hM) (fun S3 H locs hp w => ?_)
                rw [wm_wm, Int32.toInt_toInt64] at hp
                subst hp
                refine lv_iinc (v := nI (r + 1)) hx hb dX6_total_105 hl (k := 3) rfl (nI_1 r) (by decide) rfl (fun ls hl => ?_)
                refine lv_goto (tgt := 65) hx hb dX6_total_108 (by decide) ?_
                refine ih3 (r + 1) _ _ _ (by omega) ?_ (lv_sub hl [1, 2, 3, 0] rfl)
                first
                  | (rw [sumC, if_pos (Or.inl c_75)]; exact w)
                  | (rw [sumC, if_pos (Or.inr c_80)]; exact w)
                  | (rw [sumC, if_neg (fun q => q.elim c_75 c_80), Int.add_zero]; exact w)
              · refine lv_iload_n hx hb dX6_total_78 rfl (lv_at hl 1 rfl) ?_
                refine lv_iload_n hx hb dX6_total_79 rfl (lv_at hl 3 rfl) ?_
                refine lv_icmp_ne (tgt := 105) hx hb dX6_total_80 (by decide) (fun c_80 => ?_) (fun c_80 => ?_)
                · refine lv_iinc (v := nI (r + 1)) hx hb dX6_total_105 hl (k := 3) rfl (nI_1 r) (by decide) rfl (fun ls hl => ?_)
                  refine lv_goto (tgt := 65) hx hb dX6_total_108 (by decide) ?_
                  refine ih3 (r + 1) _ _ _ (by omega) ?_ (lv_sub hl [1, 2, 3, 0] rfl)
                  first
                    | (rw [sumC, if_pos (Or.inl c_75)]; exact w)
                    | (rw [sumC, if_pos (Or.inr c_80)]; exact w)
                    | (rw [sumC, if_neg (fun q => q.elim c_75 c_80), Int.add_zero]; exact w)
                · refine lv_aload_n hx hb dX6_total_83 rfl (lv_at hl 0 rfl) ?_
                  refine lv_aload_n hx hb dX6_total_84 rfl (lv_at hl 0 rfl) ?_
                  refine pgQ 6 9 9 (by decide) rfl (by decide) rfl rfl C w hi6 (by decide +kernel) dX6_total_85 (oM6 hM) (hS.2.2.2.2.1) ?_
                  refine lv_bipush (v := 12) hx hb dX6_total_88 (by decide) ?_
                  refine lv_iload_n hx hb dX6_total_90 rfl (lv_at hl 3 rfl) ?_
                  refine lv_imul hx hb dX6_total_91 ?_
                  refine lv_iload_n hx hb dX6_total_92 rfl (lv_at hl 2 rfl) ?_
                  refine lv_iadd hx hb dX6_total_93 ?_
                  refine paJ C w dX6_total_94 (oM9 hM (by decide)) (n := 12 * r + k) (ix12 _ _) (nM91 hM) (by omega) (by decide) (v := sJ S 9 1 (12 * r + k)) (by rw [sJ_wm_n (by decide)]; exact e9 _) ?_
                  refine lv_aload_n hx hb dX6_total_95 rfl (lv_at hl 0 rfl) ?_
                  refine pgQ 6 10 8 (by decide) rfl (by decide) rfl rfl C w hi6 (by decide +kernel) dX6_total_96 (oM6 hM) (hS.2.2.2.2.2.1) ?_
                  refine lv_iload_n hx hb dX6_total_99 rfl (lv_at hl 3 rfl) ?_
                  refine paI C w dX6_total_100 (oM8 hM (by decide)) rfl (nM83 hM) (by omega) (by decide) (v := sI S 8 3 r) (by rw [sI_wm]; exact e8 _) ?_
                  refine lv_i2l hx hb dX6_total_101 rfl ?_
                  refine cvV (n := 2) C w hl dX6_total_102 (c_X6_add l G hM (wm S1 (sumC (fun x => sJ S 9 1 (12 * x + k)) (sI S 8 3) i r)) _ (sJ_wm_0 S1 _) (sJ_wm_1 S1 _) _ _ (add_bd _ _ (hpl.c (i := r) (by omega))) (c_bd (hpl.c (i := r) (by omega)))) gX6_total_X6_add rfl (by decide +kernel) rfl rfl (Nat.le_of_ble_eq_true rfl) ⟨by decide, by decide⟩ (by decide) rfl (oM6 hM) (fun S3 H locs hp w => ?_)
                  rw [wm_wm, Int32.toInt_toInt64] at hp
                  subst hp
                  refine lv_iinc (v := nI (r + 1)) hx hb dX6_total_105 hl (k := 3) rfl (nI_1 r) (by decide) rfl (fun ls hl => ?_)
                  refine lv_goto (tgt := 65) hx hb dX6_total_108 (by decide) ?_
                  refine ih3 (r + 1) _ _ _ (by omega) ?_ (lv_sub hl [1, 2, 3, 0] rfl)
                  first
                    | (rw [sumC, if_pos (Or.inl c_75)]; exact w)
                    | (rw [sumC, if_pos (Or.inr c_80)]; exact w)
                    | (rw [sumC, if_neg (fun q => q.elim c_75 c_80), Int.add_zero]; exact w)
          exact loop_65 nr 0 _ _ _ (by omega) w (lv_sub hl [1, 2, 3, 0] rfl)
      exact loop_51 z 0 _ _ _ _ (by omega) ⟨hE, hl0, hl1, hl2, fun _ h => absurd h (Nat.not_lt_zero _)⟩ w (lv_sub hl [1, 2, 0] rfl)
    · have hnf : n = 60 := (nI_eq (b := 60) (by omega) (by decide)).mp c_27
      refine lv_bipush (v := (-4)) hx hb dX6_total_30 (by decide) ?_
      exact hret _ _ _ _ _ _ dX6_total_32 w (by unfold spTotal; by_cases q : i = -1; rw [if_pos q, if_pos hnf]; exact ⟨rfl, rfl⟩; rw [if_neg q, if_pos (hii.resolve_left q), if_pos hnf]; exact ⟨rfl, rfl⟩)
  · refine lv_bipush (v := (-2)) hx hb dX6_total_18 (by decide) ?_
    exact hret _ _ _ _ _ _ dX6_total_20 w (by have h := no_of q1 c_15; unfold spTotal; rw [if_neg (fun q => h (Or.inl q)), if_neg (fun q => h (Or.inr q))]; exact ⟨rfl, rfl⟩)
