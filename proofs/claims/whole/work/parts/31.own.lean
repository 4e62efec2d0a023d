set_option maxHeartbeats 4000000 in
set_option maxRecDepth 100000 in
/-- make -/
theorem c_X5_make (l : Launch) (G : GT) (hX : okX G) (S : PS) (hS : lkX S) (n : Nat) (hn : sI S 5 0 1 = nI n) (hn60 : n ≤ 60) (sh h s2 : Int32) : CtI l G yX5_make wsX5_make (rmK 1 23) [.ref (gA G 5 0), .int sh, .int h, .int s2] S (fun v S2 => spMake n sh h s2 v (S2 = S) (nw S S2 n sh (mkH sh h) (jn (mkZ sh h s2)) (fun _ => 0))) := by
  refine ofCtI (cc := cX5_make) (nL := 5) RX5 (by decide +kernel) rfl rfl (Nat.le_of_ble_eq_true rfl) ?_
  intro p e s m args below meth c A Q ls C w hl hret
  have hx := C.1
  have hb := C.2.1
  have hown := C.2.2.2.1
  have hts := C.2.2.2.2.1
  have hi5 : ∀ w ∈ wsX50, w ∈ wsX5_make := by decide +kernel
  refine lv_iload_n hx hb dX5_make_0 rfl (lv_at hl 1 rfl) ?_
  refine lv_if_lt (tgt := 9) hx hb dX5_make_1 (by decide) (fun c_1 => ?_) (fun c_1 => ?_)
  · have hin : ¬ inN sh 4 := inN_n1 c_1
    refine lv_bipush (v := (-3)) hx hb dX5_make_9 (by decide) ?_
    exact hret _ _ _ _ _ _ dX5_make_11 w (by unfold spMake; rw [if_neg hin]; exact ⟨rfl, rfl⟩)
  · refine lv_iload_n hx hb dX5_make_4 rfl (lv_at hl 1 rfl) ?_
    refine lv_iconst (v := 3) hx hb dX5_make_5 (by decide) ?_
    refine lv_icmp_le (tgt := 12) hx hb dX5_make_6 (by decide) (fun c_6 => ?_) (fun c_6 => ?_)
    · have hin : inN sh 4 := by rw [Int32.lt_iff_toInt_lt, i32_0] at c_1; rw [Int32.le_iff_toInt_le, i32_3] at c_6; exact ⟨by omega, by omega⟩
      have join_40 : ∀  (H : Heap) (locs : List Loc) (ls : Array Slot), ¬ (sh = 3 ∧ (6 < h.toInt ∨ 6 < s2.toInt ∨ (h = 0 ∧ s2 = 0))) → Wd G A s.heap S H locs → lv_has ls 5 [(0, .ref (gA G 5 0)), (1, .int sh), (2, .int h), (3, .int s2)] → W p l e (rmK 1 23) s m args below meth c H locs 0 0 Q (F0 m 40 ls []) := by
        intro  H locs ls hb2 w hl
        refine lv_aload_n hx hb dX5_make_40 rfl (lv_at hl 0 rfl) ?_
        refine cvI (n := 0) C w hl dX5_make_41 (c_X5_isFull l G hX S n hn hn60) gX5_make_X5_isFull rfl (by decide +kernel) rfl rfl (Nat.le_of_ble_eq_true rfl) ⟨by decide, by decide⟩ (by decide) rfl (oP5 hX) (fun v8 S8 H locs hp w => ?_)
        obtain ⟨qF, e0⟩ := hp
        rw [e0] at w
        refine lv_if_eq (tgt := 50) hx hb dX5_make_44 (by decide) (fun c_44 => ?_) (fun c_44 => ?_)
        · have join_66 : ∀  (H : Heap) (locs : List Loc) (ls : Array Slot), ¬ (sh = 3 ∧ (h.toInt < 0 ∨ s2.toInt < 0)) → Wd G A s.heap S H locs → lv_has ls 5 [(0, .ref (gA G 5 0)), (1, .int sh), (2, .int h), (3, .int s2)] → W p l e (rmK 1 23) s m args below meth c H locs 0 0 Q (F0 m 66 ls []) := by
            intro  H locs ls hg w hl
            have hnf := no_of qF c_44
            refine lv_aload_n hx hb dX5_make_66 rfl (lv_at hl 0 rfl) ?_
            refine pgQ 5 0 10 (by decide) rfl (by decide) rfl rfl C w hi5 (by decide +kernel) dX5_make_67 (oP5 hX) hS.2.2.1 ?_
            refine lv_aload_n hx hb dX5_make_70 rfl (lv_at hl 0 rfl) ?_
            refine pgI 5 1 (by decide) rfl (by decide) (Or.inl rfl) rfl C w hi5 (by decide +kernel) dX5_make_71 (oP5 hX) (v := nI n) hn ?_
            refine paQ C w dX5_make_74 (oP10 hX (by decide)) rfl (oN100 hX) (by omega) (by decide) (r1 := n) (lk10 hS (by omega)) ?_
            refine lv_astore hx hb dX5_make_75 hl (by decide) rfl (fun ls hl => ?_)
            have join_113 : ∀  (H : Heap) (locs : List Loc) (ls : Array Slot), Wd G A s.heap (fm S n sh (mkH sh h) (mkZ sh h s2)) H locs → lv_has ls 5 [(0, .ref (gA G 5 0)), (1, .int sh), (2, .int h), (3, .int s2), (4, .ref (gA G 2 n))] → W p l e (rmK 1 23) s m args below meth c H locs 0 0 Q (F0 m 113 ls []) := by
              intro  H locs ls  w hl
              have hz : 0 ≤ (mkZ sh h s2).toInt ∧ (mkZ sh h s2).toInt ≤ 12 := by
                unfold mkZ
                by_cases q : sh = 3
                · have q1 : ¬ 6 < h.toInt := fun y => hb2 ⟨q, Or.inl y⟩
                  have q2 : ¬ 6 < s2.toInt := fun y => hb2 ⟨q, Or.inr (Or.inl y)⟩
                  have q3 : ¬ h.toInt < 0 := fun y => hg ⟨q, Or.inl y⟩
                  have q4 : ¬ s2.toInt < 0 := fun y => hg ⟨q, Or.inr y⟩
                  rw [if_pos q, i32_add (by omega) (by omega)]; omega
                · have q3 : sh.toInt ≠ 3 := fun y => q (Int32.toInt_inj.mp y)
                  have q4 := hin.1
                  have q5 := hin.2
                  rw [if_neg q, i32_add (by rw [i32_1]; omega) (by rw [i32_1]; omega), i32_1]; omega
              have hz2 : jn (mkZ sh h s2) ≤ 12 := by unfold jn; omega
              refine lv_aload hx hb dX5_make_113 (lv_at hl 4 rfl) ?_
              refine cvV (n := 0) C w hl dX5_make_115 (c_X2_clear l G hX (fm S n sh (mkH sh h) (mkZ sh h s2)) (lkX_of hS rfl) n (jn (mkZ sh h s2)) (by omega) (by rw [sI_fm2]; exact nI_jn hz.1) hz2) gX5_make_X2_clear rfl (by decide +kernel) rfl rfl (Nat.le_of_ble_eq_true rfl) ⟨by decide, by decide⟩ (by decide) rfl (oP2 hX (by omega)) (fun S4 H locs hp w => ?_)
              subst hp
              refine lv_aload_n hx hb dX5_make_118 rfl (lv_at hl 0 rfl) ?_
              refine cvI (n := 0) C w hl dX5_make_119 (c_X5_takeNumber l G hX _ n (by rw [sI_rwk, sI_fm_r (by simp)]; exact hn) hn60) gX5_make_X5_takeNumber rfl (by decide +kernel) rfl rfl (Nat.le_of_ble_eq_true rfl) ⟨by decide, by decide⟩ (by decide) rfl (oP5 hX) (fun v5 S5 H locs hp w => ?_)
              obtain ⟨e5, e6⟩ := hp
              rw [e6] at w
              exact hret _ _ _ _ _ _ dX5_make_122 w (by unfold spMake; rw [if_pos hin, if_neg hb2, if_neg hnf, if_neg hg]; refine ⟨e5, ?_⟩; exact nw_of ((eqN_fm S n _ _ _).tr (eqN_rwk _ n _ _ _)) hn (sI_fm0 _ _ _ _ _) (sI_fm1 _ _ _ _ _) (by rw [sI_rwk, sI_fm2]; exact nI_jn hz.1) (fun k hk => by rw [sJ_rwk_s, if_pos hk]))
            refine lv_iload_n hx hb dX5_make_77 rfl (lv_at hl 2 rfl) ?_
            refine lv_iconst (v := 3) hx hb dX5_make_78 (by decide) ?_
            refine lv_icmp_ne (tgt := 95) hx hb dX5_make_79 (by decide) (fun c_79 => ?_) (fun c_79 => ?_)
            · refine lv_aload hx hb dX5_make_95 (lv_at hl 0 rfl) ?_
              refine lv_iload_n hx hb dX5_make_97 rfl (lv_at hl 2 rfl) ?_
              refine lv_iload_n hx hb dX5_make_98 rfl (lv_at hl 2 rfl) ?_
              refine lv_if_ne (tgt := 106) hx hb dX5_make_99 (by decide) (fun c_99 => ?_) (fun c_99 => ?_)
              · refine lv_iconst (v := 1) hx hb dX5_make_106 (by decide) ?_
                refine lv_iload_n hx hb dX5_make_107 rfl (lv_at hl 2 rfl) ?_
                refine lv_iconst (v := 1) hx hb dX5_make_108 (by decide) ?_
                refine lv_iadd hx hb dX5_make_109 ?_
                refine cvV (n := 3) C w hl dX5_make_110 (c_X2_form l G hX S n _ _ _ (by omega)) gX5_make_X2_form rfl (by decide +kernel) rfl rfl (Nat.le_of_ble_eq_true rfl) ⟨by decide, by decide⟩ (by decide) rfl (oP2 hX (by omega)) (fun S3 H locs hp w => ?_)
                subst hp
                exact join_113 _ _ _ (by first | exact w | (unfold mkH mkZ; first | rw [if_pos c_79, if_pos c_79] | rw [if_neg c_79, if_neg c_79, if_pos c_99] | rw [if_neg c_79, if_neg c_79, if_neg c_99]); (first | exact w | (rw [c_79] at *; exact w))) (lv_sub hl [1, 2, 3, 4, 0] rfl)
              · refine lv_iconst (v := 0) hx hb dX5_make_102 (by decide) ?_
                refine lv_goto (tgt := 107) hx hb dX5_make_103 (by decide) ?_
                refine lv_iload_n hx hb dX5_make_107 rfl (lv_at hl 2 rfl) ?_
                refine lv_iconst (v := 1) hx hb dX5_make_108 (by decide) ?_
                refine lv_iadd hx hb dX5_make_109 ?_
                refine cvV (n := 3) C w hl dX5_make_110 (c_X2_form l G hX S n _ _ _ (by omega)) gX5_make_X2_form rfl (by decide +kernel) rfl rfl (Nat.le_of_ble_eq_true rfl) ⟨by decide, by decide⟩ (by decide) rfl (oP2 hX (by omega)) (fun S3 H locs hp w => ?_)
                subst hp
                exact join_113 _ _ _ (by first | exact w | (unfold mkH mkZ; first | rw [if_pos c_79, if_pos c_79] | rw [if_neg c_79, if_neg c_79, if_pos c_99] | rw [if_neg c_79, if_neg c_79, if_neg c_99]); (first | exact w | (rw [c_79] at *; exact w))) (lv_sub hl [1, 2, 3, 4, 0] rfl)
            · refine lv_aload hx hb dX5_make_82 (lv_at hl 0 rfl) ?_
              refine lv_iconst (v := 3) hx hb dX5_make_84 (by decide) ?_
              refine lv_iload_n hx hb dX5_make_85 rfl (lv_at hl 3 rfl) ?_
              refine lv_iload_n hx hb dX5_make_86 rfl (lv_at hl 3 rfl) ?_
              refine lv_iload_n hx hb dX5_make_87 rfl (lv_at hl 4 rfl) ?_
              refine lv_iadd hx hb dX5_make_88 ?_
              refine cvV (n := 3) C w hl dX5_make_89 (c_X2_form l G hX S n _ _ _ (by omega)) gX5_make_X2_form rfl (by decide +kernel) rfl rfl (Nat.le_of_ble_eq_true rfl) ⟨by decide, by decide⟩ (by decide) rfl (oP2 hX (by omega)) (fun S3 H locs hp w => ?_)
              subst hp
              refine lv_goto (tgt := 113) hx hb dX5_make_92 (by decide) ?_
              exact join_113 _ _ _ (by first | exact w | (unfold mkH mkZ; first | rw [if_pos c_79, if_pos c_79] | rw [if_neg c_79, if_neg c_79, if_pos c_99] | rw [if_neg c_79, if_neg c_79, if_neg c_99]); (first | exact w | (rw [c_79] at *; exact w))) (lv_sub hl [1, 2, 3, 4, 0] rfl)
          refine lv_iload_n hx hb dX5_make_50 rfl (lv_at hl 1 rfl) ?_
          refine lv_iconst (v := 3) hx hb dX5_make_51 (by decide) ?_
          refine lv_icmp_ne (tgt := 66) hx hb dX5_make_52 (by decide) (fun c_52 => ?_) (fun c_52 => ?_)
          · exact join_66 _ _ _ (by first | exact fun q => c_52 q.1 | exact fun q => (by rw [Int32.lt_iff_toInt_lt, i32_0] at c_56; rw [Int32.le_iff_toInt_le, i32_0] at c_60; have := q.2; omega)) w (lv_sub hl [0, 1, 2, 3] rfl)
          · refine lv_iload_n hx hb dX5_make_55 rfl (lv_at hl 2 rfl) ?_
            refine lv_if_lt (tgt := 63) hx hb dX5_make_56 (by decide) (fun c_56 => ?_) (fun c_56 => ?_)
            · refine lv_bipush (v := (-14)) hx hb dX5_make_63 (by decide) ?_
              exact hret _ _ _ _ _ _ dX5_make_65 w (by unfold spMake; rw [if_pos hin, if_neg hb2, if_neg (no_of qF c_44), if_pos]; exact ⟨rfl, rfl⟩; refine ⟨c_52, ?_⟩; first | exact Or.inl (by rw [Int32.lt_iff_toInt_lt, i32_0] at c_56; omega) | exact Or.inr (by rw [Int32.le_iff_toInt_le, i32_0] at c_60; omega))
            · refine lv_iload_n hx hb dX5_make_59 rfl (lv_at hl 3 rfl) ?_
              refine lv_if_ge (tgt := 66) hx hb dX5_make_60 (by decide) (fun c_60 => ?_) (fun c_60 => ?_)
              · exact join_66 _ _ _ (by first | exact fun q => c_52 q.1 | exact fun q => (by rw [Int32.lt_iff_toInt_lt, i32_0] at c_56; rw [Int32.le_iff_toInt_le, i32_0] at c_60; have := q.2; omega)) w (lv_sub hl [0, 1, 2, 3] rfl)
              · refine lv_bipush (v := (-14)) hx hb dX5_make_63 (by decide) ?_
                exact hret _ _ _ _ _ _ dX5_make_65 w (by unfold spMake; rw [if_pos hin, if_neg hb2, if_neg (no_of qF c_44), if_pos]; exact ⟨rfl, rfl⟩; refine ⟨c_52, ?_⟩; first | exact Or.inl (by rw [Int32.lt_iff_toInt_lt, i32_0] at c_56; omega) | exact Or.inr (by rw [Int32.le_iff_toInt_le, i32_0] at c_60; omega))
        · refine lv_bipush (v := (-4)) hx hb dX5_make_47 (by decide) ?_
          exact hret _ _ _ _ _ _ dX5_make_49 w (by unfold spMake; rw [if_pos hin, if_neg hb2, if_pos (yes_of qF c_44)]; exact ⟨rfl, rfl⟩)
      refine lv_iload_n hx hb dX5_make_12 rfl (lv_at hl 1 rfl) ?_
      refine lv_iconst (v := 3) hx hb dX5_make_13 (by decide) ?_
      refine lv_icmp_ne (tgt := 40) hx hb dX5_make_14 (by decide) (fun c_14 => ?_) (fun c_14 => ?_)
      · exact join_40 _ _ _ (by first | exact fun q => c_14 q.1 | exact fun q => (by rw [Int32.lt_iff_toInt_lt, i32_6] at c_20 c_26; have := q.2; omega) | exact fun q => (by rw [Int32.lt_iff_toInt_lt, i32_6] at c_20 c_26; rcases q.2 with h1 | h1 | h1; omega; omega; first | exact c_30 h1.1 | exact c_34 h1.2)) w (lv_sub hl [0, 1, 2, 3] rfl)
      · refine lv_iload_n hx hb dX5_make_17 rfl (lv_at hl 2 rfl) ?_
        refine lv_bipush (v := 6) hx hb dX5_make_18 (by decide) ?_
        refine lv_icmp_gt (tgt := 37) hx hb dX5_make_20 (by decide) (fun c_20 => ?_) (fun c_20 => ?_)
        · refine lv_bipush (v := (-3)) hx hb dX5_make_37 (by decide) ?_
          exact hret _ _ _ _ _ _ dX5_make_39 w (by unfold spMake; rw [if_pos hin, if_pos]; exact ⟨rfl, rfl⟩; refine ⟨c_14, ?_⟩; first | exact Or.inl (by rw [Int32.lt_iff_toInt_lt, i32_6] at c_20; omega) | exact Or.inr (Or.inl (by rw [Int32.lt_iff_toInt_lt, i32_6] at c_26; omega)) | exact Or.inr (Or.inr ⟨c_30, c_34⟩))
        · refine lv_iload_n hx hb dX5_make_23 rfl (lv_at hl 3 rfl) ?_
          refine lv_bipush (v := 6) hx hb dX5_make_24 (by decide) ?_
          refine lv_icmp_gt (tgt := 37) hx hb dX5_make_26 (by decide) (fun c_26 => ?_) (fun c_26 => ?_)
          · refine lv_bipush (v := (-3)) hx hb dX5_make_37 (by decide) ?_
            exact hret _ _ _ _ _ _ dX5_make_39 w (by unfold spMake; rw [if_pos hin, if_pos]; exact ⟨rfl, rfl⟩; refine ⟨c_14, ?_⟩; first | exact Or.inl (by rw [Int32.lt_iff_toInt_lt, i32_6] at c_20; omega) | exact Or.inr (Or.inl (by rw [Int32.lt_iff_toInt_lt, i32_6] at c_26; omega)) | exact Or.inr (Or.inr ⟨c_30, c_34⟩))
          · refine lv_iload_n hx hb dX5_make_29 rfl (lv_at hl 2 rfl) ?_
            refine lv_if_ne (tgt := 40) hx hb dX5_make_30 (by decide) (fun c_30 => ?_) (fun c_30 => ?_)
            · exact join_40 _ _ _ (by first | exact fun q => c_14 q.1 | exact fun q => (by rw [Int32.lt_iff_toInt_lt, i32_6] at c_20 c_26; have := q.2; omega) | exact fun q => (by rw [Int32.lt_iff_toInt_lt, i32_6] at c_20 c_26; rcases q.2 with h1 | h1 | h1; omega; omega; first | exact c_30 h1.1 | exact c_34 h1.2)) w (lv_sub hl [0, 1, 2, 3] rfl)
            · refine lv_iload_n hx hb dX5_make_33 rfl (lv_at hl 3 rfl) ?_
              refine lv_if_ne (tgt := 40) hx hb dX5_make_34 (by decide) (fun c_34 => ?_) (fun c_34 => ?_)
              · exact join_40 _ _ _ (by first | exact fun q => c_14 q.1 | exact fun q => (by rw [Int32.lt_iff_toInt_lt, i32_6] at c_20 c_26; have := q.2; omega) | exact fun q => (by rw [Int32.lt_iff_toInt_lt, i32_6] at c_20 c_26; rcases q.2 with h1 | h1 | h1; omega; omega; first | exact c_30 h1.1 | exact c_34 h1.2)) w (lv_sub hl [0, 1, 2, 3] rfl)
              · refine lv_bipush (v := (-3)) hx hb dX5_make_37 (by decide) ?_
                exact hret _ _ _ _ _ _ dX5_make_39 w (by unfold spMake; rw [if_pos hin, if_pos]; exact ⟨rfl, rfl⟩; refine ⟨c_14, ?_⟩; first | exact Or.inl (by rw [Int32.lt_iff_toInt_lt, i32_6] at c_20; omega) | exact Or.inr (Or.inl (by rw [Int32.lt_iff_toInt_lt, i32_6] at c_26; omega)) | exact Or.inr (Or.inr ⟨c_30, c_34⟩))
    · have hin : ¬ inN sh 4 := fun q => by rw [Int32.le_iff_toInt_le, i32_3] at c_6; have := q.2; omega
      refine lv_bipush (v := (-3)) hx hb dX5_make_9 (by decide) ?_
      exact hret _ _ _ _ _ _ dX5_make_11 w (by unfold spMake; rw [if_neg hin]; exact ⟨rfl, rfl⟩)

set_option maxHeartbeats 4000000 in
set_option maxRecDepth 100000 in
/-- nothing -/
theorem c_X5_nothing (l : Launch) (G : GT) (hX : okX G) (S : PS) (hS : lkX S) (n : Nat) (hn : sI S 5 0 1 = nI n) (hn60 : n ≤ 60) : CtI l G yX5_nothing wsX5_nothing (rmK 1 23) [.ref (gA G 5 0)] S (fun v S2 => spNothing n v (S2 = S) (nw S S2 n (-1) 0 0 (fun _ => 0))) := by
  refine ofCtI (cc := cX5_nothing) (nL := 1) RX5 (by decide +kernel) rfl rfl (Nat.le_of_ble_eq_true rfl) ?_
  intro p e s m args below meth c A Q ls C w hl hret
  have hx := C.1
  have hb := C.2.1
  have hown := C.2.2.2.1
  have hts := C.2.2.2.2.1
  have hi5 : ∀ w ∈ wsX50, w ∈ wsX5_nothing := by decide +kernel
  refine lv_aload_n hx hb dX5_nothing_0 rfl (lv_at hl 0 rfl) ?_
  refine cvI (n := 0) C w hl dX5_nothing_1 (c_X5_isFull l G hX S n hn hn60) gX5_nothing_X5_isFull rfl (by decide +kernel) rfl rfl (Nat.le_of_ble_eq_true rfl) ⟨by decide, by decide⟩ (by decide) rfl (oP5 hX) (fun v8 S8 H locs hp w => ?_)
  obtain ⟨qF, e0⟩ := hp
  rw [e0] at w
  refine lv_if_eq (tgt := 10) hx hb dX5_nothing_4 (by decide) (fun c_4 => ?_) (fun c_4 => ?_)
  · have hnf := no_of qF c_4
    refine lv_aload_n hx hb dX5_nothing_10 rfl (lv_at hl 0 rfl) ?_
    refine pgQ 5 0 10 (by decide) rfl (by decide) rfl rfl C w hi5 (by decide +kernel) dX5_nothing_11 (oP5 hX) hS.2.2.1 ?_
    refine lv_aload_n hx hb dX5_nothing_14 rfl (lv_at hl 0 rfl) ?_
    refine pgI 5 1 (by decide) rfl (by decide) (Or.inl rfl) rfl C w hi5 (by decide +kernel) dX5_nothing_15 (oP5 hX) (v := nI n) hn ?_
    refine paQ C w dX5_nothing_18 (oP10 hX (by decide)) rfl (oN100 hX) (by omega) (by decide) (r1 := n) (lk10 hS (by omega)) ?_
    refine lv_iconst (v := (-1)) hx hb dX5_nothing_19 (by decide) ?_
    refine lv_iconst (v := 0) hx hb dX5_nothing_20 (by decide) ?_
    refine lv_iconst (v := 0) hx hb dX5_nothing_21 (by decide) ?_
    refine cvV (n := 3) C w hl dX5_nothing_22 (c_X2_form l G hX S n _ _ _ (by omega)) gX5_nothing_X2_form rfl (by decide +kernel) rfl rfl (Nat.le_of_ble_eq_true rfl) ⟨by decide, by decide⟩ (by decide) rfl (oP2 hX (by omega)) (fun S3 H locs hp w => ?_)
    subst hp
    refine lv_aload_n hx hb dX5_nothing_25 rfl (lv_at hl 0 rfl) ?_
    refine cvI (n := 0) C w hl dX5_nothing_26 (c_X5_takeNumber l G hX _ n (by rw [sI_fm_r (by simp)]; exact hn) hn60) gX5_nothing_X5_takeNumber rfl (by decide +kernel) rfl rfl (Nat.le_of_ble_eq_true rfl) ⟨by decide, by decide⟩ (by decide) rfl (oP5 hX) (fun v5 S5 H locs hp w => ?_)
    obtain ⟨e5, e6⟩ := hp
    rw [e6] at w
    exact hret _ _ _ _ _ _ dX5_nothing_29 w (by unfold spNothing; rw [if_neg hnf]; exact ⟨e5, nw_of (eqN_fm S n _ _ _) hn (sI_fm0 _ _ _ _ _) (sI_fm1 _ _ _ _ _) (by rw [sI_fm2]; rfl) (fun k hk => absurd hk (Nat.not_lt_zero _))⟩)
  · refine lv_bipush (v := (-4)) hx hb dX5_nothing_7 (by decide) ?_
    exact hret _ _ _ _ _ _ dX5_nothing_9 w (by unfold spNothing; rw [if_pos (yes_of qF c_4)]; exact ⟨rfl, rfl⟩)

set_option maxHeartbeats 4000000 in
set_option maxRecDepth 100000 in
/-- set -/
theorem c_X5_set (l : Launch) (G : GT) (hX : okX G) (S : PS) (hS : lkX S) (n : Nat) (hn : sI S 5 0 1 = nI n) (hn60 : n ≤ 60)(hsz : ∀ i, i < n → 0 ≤ (sI S 2 i 2).toInt ∧ (sI S 2 i 2).toInt ≤ 12) (i k : Int32) (x : Int64) : CtI l G yX5_set wsX5_set (rmK 1 21) [.ref (gA G 5 0), .int i, .int k, .long x] S (fun v S2 => spSet n (fun j => sI S 2 j 0) (fun j => sI S 2 j 2) i k v (S2 = S) (S2 = uJ S 9 (jn i) (jn k) x)) := by
  refine ofCtI (cc := cX5_set) (nL := 5) RX5 (by decide +kernel) rfl rfl (Nat.le_of_ble_eq_true rfl) ?_
  intro p e s m args below meth c A Q ls C w hl hret
  have hx := C.1
  have hb := C.2.1
  have hown := C.2.2.2.1
  have hts := C.2.2.2.2.1
  have hi2 : ∀ w ∈ wsX20, w ∈ wsX5_set := by decide +kernel
  have hi5 : ∀ w ∈ wsX50, w ∈ wsX5_set := by decide +kernel
  refine lv_aload_n hx hb dX5_set_0 rfl (lv_at hl 0 rfl) ?_
  refine lv_iload_n hx hb dX5_set_1 rfl (lv_at hl 1 rfl) ?_
  refine cvI (n := 1) C w hl dX5_set_2 (c_X5_isNumber l G hX S n hn hn60 i) gX5_set_X5_isNumber rfl (by decide +kernel) rfl rfl (Nat.le_of_ble_eq_true rfl) ⟨by decide, by decide⟩ (by decide) rfl (oP5 hX) (fun v1 S9 H locs hp w => ?_)
  obtain ⟨q1, e0⟩ := hp
  rw [e0] at w
  refine lv_if_ne (tgt := 11) hx hb dX5_set_5 (by decide) (fun c_5 => ?_) (fun c_5 => ?_)
  · have hin := yes_of q1 c_5
    have hj := jn_lt hin
    refine lv_aload_n hx hb dX5_set_11 rfl (lv_at hl 0 rfl) ?_
    refine pgQ 5 0 10 (by decide) rfl (by decide) rfl rfl C w hi5 (by decide +kernel) dX5_set_12 (oP5 hX) hS.2.2.1 ?_
    refine lv_iload_n hx hb dX5_set_15 rfl (lv_at hl 1 rfl) ?_
    refine paQ C w dX5_set_16 (oP10 hX (by decide)) (n := jn i) (jn_eq hin) (oN100 hX) (by omega) (by decide) (r1 := jn i) (lk10 hS (by omega)) ?_
    refine cvI (n := 0) C w hl dX5_set_17 (c_X2_isNothing l G hX S (jn i) (by omega)) gX5_set_X2_isNothing rfl (by decide +kernel) rfl rfl (Nat.le_of_ble_eq_true rfl) ⟨by decide, by decide⟩ (by decide) rfl (oP2 hX (by omega)) (fun v2 S2 H locs hp w => ?_)
    obtain ⟨q2, e0⟩ := hp
    rw [e0] at w
    replace q2 := of_if q2
    refine lv_if_eq (tgt := 26) hx hb dX5_set_20 (by decide) (fun c_20 => ?_) (fun c_20 => ?_)
    · refine lv_aload_n hx hb dX5_set_26 rfl (lv_at hl 0 rfl) ?_
      refine pgQ 5 0 10 (by decide) rfl (by decide) rfl rfl C w hi5 (by decide +kernel) dX5_set_27 (oP5 hX) hS.2.2.1 ?_
      refine lv_iload_n hx hb dX5_set_30 rfl (lv_at hl 1 rfl) ?_
      refine paQ C w dX5_set_31 (oP10 hX (by decide)) (n := jn i) (jn_eq hin) (oN100 hX) (by omega) (by decide) (r1 := jn i) (lk10 hS (by omega)) ?_
      refine lv_iload_n hx hb dX5_set_32 rfl (lv_at hl 2 rfl) ?_
      refine cvI (n := 1) C w hl dX5_set_33 (c_X2_hasLevel l G hX S (jn i) k (by omega)) gX5_set_X2_hasLevel rfl (by decide +kernel) rfl rfl (Nat.le_of_ble_eq_true rfl) ⟨by decide, by decide⟩ (by decide) rfl (oP2 hX (by omega)) (fun v3 S3 H locs hp w => ?_)
      obtain ⟨q3, e0⟩ := hp
      rw [e0] at w
      replace q3 := hl_of q3
      refine lv_if_ne (tgt := 42) hx hb dX5_set_36 (by decide) (fun c_36 => ?_) (fun c_36 => ?_)
      · have hk := yes_of q3 c_36
        have hk12 : jn k < 12 := by have h1 := hk.1; have h2 := hk.2; have h3 := hsz (jn i) hj; unfold jn at *; omega
        refine lv_aload_n hx hb dX5_set_42 rfl (lv_at hl 0 rfl) ?_
        refine pgQ 5 0 10 (by decide) rfl (by decide) rfl rfl C w hi5 (by decide +kernel) dX5_set_43 (oP5 hX) hS.2.2.1 ?_
        refine lv_iload_n hx hb dX5_set_46 rfl (lv_at hl 1 rfl) ?_
        refine paQ C w dX5_set_47 (oP10 hX (by decide)) (n := jn i) (jn_eq hin) (oN100 hX) (by omega) (by decide) (r1 := jn i) (lk10 hS (by omega)) ?_
        refine pgQ 2 3 9 (by decide) rfl (by decide) rfl rfl C w hi2 (by decide +kernel) dX5_set_48 (oP2 hX (by omega)) (lk2 hS (by omega)) ?_
        refine lv_iload_n hx hb dX5_set_51 rfl (lv_at hl 2 rfl) ?_
        refine lv_lload_n hx hb dX5_set_52 rfl (lv_at hl 3 rfl) ?_
        refine psJ C w dX5_set_53 (oP9 hX (by omega)) (n := jn k) (jn_eq hk) (oN9 hX (by omega)) hk12 (by decide) (fun H locs w => ?_)
        refine lv_iconst (v := 1) hx hb dX5_set_54 (by decide) ?_
        exact hret _ _ _ _ _ _ dX5_set_55 w (by unfold spSet; rw [if_pos hin, if_neg (no_of q2 c_20), if_pos hk]; exact ⟨rfl, rfl⟩)
      · refine lv_bipush (v := (-13)) hx hb dX5_set_39 (by decide) ?_
        exact hret _ _ _ _ _ _ dX5_set_41 w (by unfold spSet; rw [if_pos hin, if_neg (no_of q2 c_20), if_neg (no_of q3 c_36)]; exact ⟨rfl, rfl⟩)
    · refine lv_bipush (v := (-11)) hx hb dX5_set_23 (by decide) ?_
      exact hret _ _ _ _ _ _ dX5_set_25 w (by unfold spSet; rw [if_pos hin, if_pos (yes_of q2 c_20)]; exact ⟨rfl, rfl⟩)
  · refine lv_bipush (v := (-2)) hx hb dX5_set_8 (by decide) ?_
    exact hret _ _ _ _ _ _ dX5_set_10 w (by unfold spSet; rw [if_neg (no_of q1 c_5)]; exact ⟨rfl, rfl⟩)
