set_option maxHeartbeats 4000000 in
set_option maxRecDepth 100000 in
/-- make -/
theorem c_X6_make (l : Launch) (G : GT) (hM : okM G) (S : PS) (hS : lkM S) (n : Nat) (hn : sI S 6 0 0 = nI n) (hn60 : n ≤ 60) (sh h s2 : Int32) : CtI l G yX6_make wsX6_make (rmK 1 25) [.ref (gA G 6 0), .int sh, .int h, .int s2] S (fun v S2 => spMake n sh h s2 v (S2 = S) (nwM S S2 n sh (mkH sh h) (jn (mkZ sh h s2)) (fun _ => 0))) := by
  refine ofCtI (cc := cX6_make) (nL := 4) RX6 (by decide +kernel) rfl rfl (Nat.le_of_ble_eq_true rfl) ?_
  intro p e s m args below meth c A Q ls C w hl hret
  have hx := C.1
  have hb := C.2.1
  have hown := C.2.2.2.1
  have hts := C.2.2.2.2.1
  have hi6 : ∀ w ∈ wsX60, w ∈ wsX6_make := by decide +kernel
  refine lv_iload_n hx hb dX6_make_0 rfl (lv_at hl 1 rfl) ?_
  refine lv_i2l hx hb dX6_make_1 rfl ?_
  refine lv_lconst (v := 0) hx hb dX6_make_2 (by decide) ?_
  refine lv_ldc2 (v := (3)) hx hb hown (hts (.constantLong RX6 58 (3)) (by decide +kernel)) dX6_make_3 ?_
  refine csI (n := 3) C w hl dX6_make_6 (c_X6_in l G S _ _ _) gX6_make_X6_in rfl (by decide +kernel) rfl rfl (Nat.le_of_ble_eq_true rfl) ⟨by decide, by decide⟩ (fun v7 S7 H locs hp w => ?_)
  obtain ⟨q7, e0⟩ := hp
  rw [e0] at w
  replace q7 := imp_of (in_c (m := 4) rfl) q7
  refine lv_if_eq (tgt := 37) hx hb dX6_make_9 (by decide) (fun c_9 => ?_) (fun c_9 => ?_)
  · have hin := no_of q7 c_9
    refine lv_bipush (v := (-3)) hx hb dX6_make_37 (by decide) ?_
    exact hret _ _ _ _ _ _ dX6_make_39 w (by unfold spMake; first | (rw [if_neg hin]; exact ⟨rfl, rfl⟩) | (rw [if_pos hin, if_pos]; exact ⟨rfl, rfl⟩; refine ⟨c_14, ?_⟩; first | exact Or.inl (by rw [Int32.lt_iff_toInt_lt, i32_6] at c_20; omega) | exact Or.inr (Or.inl (by rw [Int32.lt_iff_toInt_lt, i32_6] at c_26; omega)) | exact Or.inr (Or.inr ⟨c_30, c_34⟩)))
  · have hin := yes_of q7 c_9
    have join_40 : ∀  (H : Heap) (locs : List Loc) (ls : Array Slot), ¬ (sh = 3 ∧ (6 < h.toInt ∨ 6 < s2.toInt ∨ (h = 0 ∧ s2 = 0))) → Wd G A s.heap S H locs → lv_has ls 4 [(0, .ref (gA G 6 0)), (1, .int sh), (2, .int h), (3, .int s2)] → W p l e (rmK 1 25) s m args below meth c H locs 0 0 Q (F0 m 40 ls []) := by
      intro  H locs ls hb2 w hl
      refine lv_aload_n hx hb dX6_make_40 rfl (lv_at hl 0 rfl) ?_
      refine pgI 6 0 (by decide) rfl (by decide) (Or.inl rfl) rfl C w hi6 (by decide +kernel) dX6_make_41 (oM6 hM) (v := nI n) hn ?_
      refine lv_bipush (v := 60) hx hb dX6_make_44 (by decide) ?_
      refine lv_icmp_ne (tgt := 52) hx hb dX6_make_46 (by decide) (fun c_46 => ?_) (fun c_46 => ?_)
      · have hnf : ¬ n = 60 := fun q => c_46 (by rw [q]; rfl)
        have join_68 : ∀  (H : Heap) (locs : List Loc) (ls : Array Slot), ¬ (sh = 3 ∧ (h.toInt < 0 ∨ s2.toInt < 0)) → Wd G A s.heap S H locs → lv_has ls 4 [(0, .ref (gA G 6 0)), (1, .int sh), (2, .int h), (3, .int s2)] → W p l e (rmK 1 25) s m args below meth c H locs 0 0 Q (F0 m 68 ls []) := by
          intro  H locs ls hg w hl
          have hz : 0 ≤ (mkZ sh h s2).toInt ∧ (mkZ sh h s2).toInt ≤ 12 := by
            unfold mkZ
            by_cases q : sh = 3
            · have q1 : ¬ 6 < h.toInt := fun y => hb2 ⟨q, Or.inl y⟩
              have q2 : ¬ 6 < s2.toInt := fun y => hb2 ⟨q, Or.inr (Or.inl y)⟩
              have q3 : ¬ h.toInt < 0 := fun y => hg ⟨q, Or.inl y⟩
              have q4 : ¬ s2.toInt < 0 := fun y => hg ⟨q, Or.inr y⟩
              rw [if_pos q, i32_add (by omega) (by omega)]; omega
            · have q3 : sh.toInt ≠ 3 := fun y => q (Int32.toInt_inj.mp y)
              have q4 := hin.1
              have q5 := hin.2
              rw [if_neg q, i32_add (by rw [i32_1]; omega) (by rw [i32_1]; omega), i32_1]; omega
          have hz2 : jn (mkZ sh h s2) ≤ 12 := by unfold jn; omega
          have h3 : 3 ≤ sh ↔ sh = 3 := by
            rw [Int32.le_iff_toInt_le, i32_3, ← Int32.toInt_inj, i32_3]
            have q5 := hin.2
            omega
          have join_88 : ∀ (b : Int32) (H : Heap) (locs : List Loc) (ls : Array Slot), b = mkH sh h → Wd G A s.heap S H locs → lv_has ls 4 [(0, .ref (gA G 6 0)), (1, .int sh), (2, .int h), (3, .int s2)] → W p l e (rmK 1 25) s m args below meth c H locs 0 0 Q (F0 m 88 ls [.int b, .int sh, .ref (gA G 6 0)]) := by
            intro b H locs ls hbb w hl
            have join_102 : ∀ (z : Int32) (H : Heap) (locs : List Loc) (ls : Array Slot), z = mkZ sh h s2 → Wd G A s.heap S H locs → lv_has ls 4 [(0, .ref (gA G 6 0)), (1, .int sh), (2, .int h), (3, .int s2)] → W p l e (rmK 1 25) s m args below meth c H locs 0 0 Q (F0 m 102 ls [.int z, .int b, .int sh, .ref (gA G 6 0)]) := by
              intro z H locs ls hzz w hl
              subst hzz
              subst hbb
              refine cvV (n := 3) C w hl dX6_make_102 (c_X6_lay l G hM S hS n hn hn60 _ _ _) gX6_make_X6_lay rfl (by decide +kernel) rfl rfl (Nat.le_of_ble_eq_true rfl) ⟨by decide, by decide⟩ (by decide) rfl (oM6 hM) (fun S3 H locs hp w => ?_)
              have hh := hsM_lay S n sh (mkH sh h) (mkZ sh h s2) _ (nI_jn hz.1) hz2
              subst hp
              refine lv_aload_n hx hb dX6_make_105 rfl (lv_at hl 0 rfl) ?_
              refine cvI (n := 0) C w hl dX6_make_106 (c_X6_keepScore l G hM _ n (by rw [hh.n]; exact hn) hn60) gX6_make_X6_keepScore rfl (by decide +kernel) rfl rfl (Nat.le_of_ble_eq_true rfl) ⟨by decide, by decide⟩ (by decide) rfl (oM6 hM) (fun v5 S5 H locs hp w => ?_)
              obtain ⟨e5, e6⟩ := hp
              rw [e6] at w
              exact hret _ _ _ _ _ _ dX6_make_109 w (by unfold spMake; rw [if_pos hin, if_neg hb2, if_neg hnf, if_neg hg]; exact ⟨e5, hh.nw hn⟩)
            refine lv_iload_n hx hb dX6_make_88 rfl (lv_at hl 1 rfl) ?_
            refine lv_iconst (v := 3) hx hb dX6_make_89 (by decide) ?_
            refine lv_icmp_ge (tgt := 99) hx hb dX6_make_90 (by decide) (fun c_90 => ?_) (fun c_90 => ?_)
            · refine lv_iload_n hx hb dX6_make_99 rfl (lv_at hl 2 rfl) ?_
              refine lv_iload_n hx hb dX6_make_100 rfl (lv_at hl 3 rfl) ?_
              refine lv_iadd hx hb dX6_make_101 ?_
              exact join_102 _ _ _ _ (by unfold mkZ; first | rw [if_pos (h3.mp c_90)] | rw [if_neg (fun q => c_90 (h3.mpr q))]) w (lv_sub hl [0, 1, 2, 3] rfl)
            · refine lv_iload_n hx hb dX6_make_93 rfl (lv_at hl 1 rfl) ?_
              refine lv_iconst (v := 1) hx hb dX6_make_94 (by decide) ?_
              refine lv_iadd hx hb dX6_make_95 ?_
              refine lv_goto (tgt := 102) hx hb dX6_make_96 (by decide) ?_
              exact join_102 _ _ _ _ (by unfold mkZ; first | rw [if_pos (h3.mp c_90)] | rw [if_neg (fun q => c_90 (h3.mpr q))]) w (lv_sub hl [0, 1, 2, 3] rfl)
          refine lv_aload_n hx hb dX6_make_68 rfl (lv_at hl 0 rfl) ?_
          refine lv_iload_n hx hb dX6_make_69 rfl (lv_at hl 1 rfl) ?_
          refine lv_iload_n hx hb dX6_make_70 rfl (lv_at hl 1 rfl) ?_
          refine lv_if_ne (tgt := 78) hx hb dX6_make_71 (by decide) (fun c_71 => ?_) (fun c_71 => ?_)
          · refine lv_iload_n hx hb dX6_make_78 rfl (lv_at hl 1 rfl) ?_
            refine lv_iconst (v := 3) hx hb dX6_make_79 (by decide) ?_
            refine lv_icmp_ge (tgt := 87) hx hb dX6_make_80 (by decide) (fun c_80 => ?_) (fun c_80 => ?_)
            · refine lv_iload_n hx hb dX6_make_87 rfl (lv_at hl 2 rfl) ?_
              exact join_88 _ _ _ _ (by unfold mkH; first | (rw [c_71]; rfl) | rw [if_neg (fun q => c_80 (h3.mpr q)), if_neg c_71] | rw [if_pos (h3.mp c_80)]) w (lv_sub hl [0, 1, 2, 3] rfl)
            · refine lv_iconst (v := 1) hx hb dX6_make_83 (by decide) ?_
              refine lv_goto (tgt := 88) hx hb dX6_make_84 (by decide) ?_
              exact join_88 _ _ _ _ (by unfold mkH; first | (rw [c_71]; rfl) | rw [if_neg (fun q => c_80 (h3.mpr q)), if_neg c_71] | rw [if_pos (h3.mp c_80)]) w (lv_sub hl [0, 1, 2, 3] rfl)
          · refine lv_iconst (v := 0) hx hb dX6_make_74 (by decide) ?_
            refine lv_goto (tgt := 88) hx hb dX6_make_75 (by decide) ?_
            exact join_88 _ _ _ _ (by unfold mkH; first | (rw [c_71]; rfl) | rw [if_neg (fun q => c_80 (h3.mpr q)), if_neg c_71] | rw [if_pos (h3.mp c_80)]) w (lv_sub hl [0, 1, 2, 3] rfl)
        refine lv_iload_n hx hb dX6_make_52 rfl (lv_at hl 1 rfl) ?_
        refine lv_iconst (v := 3) hx hb dX6_make_53 (by decide) ?_
        refine lv_icmp_ne (tgt := 68) hx hb dX6_make_54 (by decide) (fun c_54 => ?_) (fun c_54 => ?_)
        · exact join_68 _ _ _ (by first | exact fun q => c_54 q.1 | exact fun q => (by rw [Int32.lt_iff_toInt_lt, i32_0] at c_58; rw [Int32.le_iff_toInt_le, i32_0] at c_62; have := q.2; omega)) w (lv_sub hl [0, 1, 2, 3] rfl)
        · refine lv_iload_n hx hb dX6_make_57 rfl (lv_at hl 2 rfl) ?_
          refine lv_if_lt (tgt := 65) hx hb dX6_make_58 (by decide) (fun c_58 => ?_) (fun c_58 => ?_)
          · refine lv_bipush (v := (-14)) hx hb dX6_make_65 (by decide) ?_
            exact hret _ _ _ _ _ _ dX6_make_67 w (by unfold spMake; rw [if_pos hin, if_neg hb2, if_neg hnf, if_pos]; exact ⟨rfl, rfl⟩; refine ⟨c_54, ?_⟩; first | exact Or.inl (by rw [Int32.lt_iff_toInt_lt, i32_0] at c_58; omega) | exact Or.inr (by rw [Int32.le_iff_toInt_le, i32_0] at c_62; omega))
          · refine lv_iload_n hx hb dX6_make_61 rfl (lv_at hl 3 rfl) ?_
            refine lv_if_ge (tgt := 68) hx hb dX6_make_62 (by decide) (fun c_62 => ?_) (fun c_62 => ?_)
            · exact join_68 _ _ _ (by first | exact fun q => c_54 q.1 | exact fun q => (by rw [Int32.lt_iff_toInt_lt, i32_0] at c_58; rw [Int32.le_iff_toInt_le, i32_0] at c_62; have := q.2; omega)) w (lv_sub hl [0, 1, 2, 3] rfl)
            · refine lv_bipush (v := (-14)) hx hb dX6_make_65 (by decide) ?_
              exact hret _ _ _ _ _ _ dX6_make_67 w (by unfold spMake; rw [if_pos hin, if_neg hb2, if_neg hnf, if_pos]; exact ⟨rfl, rfl⟩; refine ⟨c_54, ?_⟩; first | exact Or.inl (by rw [Int32.lt_iff_toInt_lt, i32_0] at c_58; omega) | exact Or.inr (by rw [Int32.le_iff_toInt_le, i32_0] at c_62; omega))
      · have hnf : n = 60 := (nI_eq (b := 60) (by omega) (by decide)).mp c_46
        refine lv_bipush (v := (-4)) hx hb dX6_make_49 (by decide) ?_
        exact hret _ _ _ _ _ _ dX6_make_51 w (by unfold spMake; rw [if_pos hin, if_neg hb2, if_pos hnf]; exact ⟨rfl, rfl⟩)
    refine lv_iload_n hx hb dX6_make_12 rfl (lv_at hl 1 rfl) ?_
    refine lv_iconst (v := 3) hx hb dX6_make_13 (by decide) ?_
    refine lv_icmp_ne (tgt := 40) hx hb dX6_make_14 (by decide) (fun c_14 => ?_) (fun c_14 => ?_)
    · exact join_40 _ _ _ (by first | exact fun q => c_14 q.1 | exact fun q => (by rw [Int32.lt_iff_toInt_lt, i32_6] at c_20 c_26; rcases q.2 with h1 | h1 | h1; omega; omega; first | exact c_30 h1.1 | exact c_34 h1.2)) w (lv_sub hl [0, 1, 2, 3] rfl)
    · refine lv_iload_n hx hb dX6_make_17 rfl (lv_at hl 2 rfl) ?_
      refine lv_bipush (v := 6) hx hb dX6_make_18 (by decide) ?_
      refine lv_icmp_gt (tgt := 37) hx hb dX6_make_20 (by decide) (fun c_20 => ?_) (fun c_20 => ?_)
      · refine lv_bipush (v := (-3)) hx hb dX6_make_37 (by decide) ?_
        exact hret _ _ _ _ _ _ dX6_make_39 w (by unfold spMake; first | (rw [if_neg hin]; exact ⟨rfl, rfl⟩) | (rw [if_pos hin, if_pos]; exact ⟨rfl, rfl⟩; refine ⟨c_14, ?_⟩; first | exact Or.inl (by rw [Int32.lt_iff_toInt_lt, i32_6] at c_20; omega) | exact Or.inr (Or.inl (by rw [Int32.lt_iff_toInt_lt, i32_6] at c_26; omega)) | exact Or.inr (Or.inr ⟨c_30, c_34⟩)))
      · refine lv_iload_n hx hb dX6_make_23 rfl (lv_at hl 3 rfl) ?_
        refine lv_bipush (v := 6) hx hb dX6_make_24 (by decide) ?_
        refine lv_icmp_gt (tgt := 37) hx hb dX6_make_26 (by decide) (fun c_26 => ?_) (fun c_26 => ?_)
        · refine lv_bipush (v := (-3)) hx hb dX6_make_37 (by decide) ?_
          exact hret _ _ _ _ _ _ dX6_make_39 w (by unfold spMake; first | (rw [if_neg hin]; exact ⟨rfl, rfl⟩) | (rw [if_pos hin, if_pos]; exact ⟨rfl, rfl⟩; refine ⟨c_14, ?_⟩; first | exact Or.inl (by rw [Int32.lt_iff_toInt_lt, i32_6] at c_20; omega) | exact Or.inr (Or.inl (by rw [Int32.lt_iff_toInt_lt, i32_6] at c_26; omega)) | exact Or.inr (Or.inr ⟨c_30, c_34⟩)))
        · refine lv_iload_n hx hb dX6_make_29 rfl (lv_at hl 2 rfl) ?_
          refine lv_if_ne (tgt := 40) hx hb dX6_make_30 (by decide) (fun c_30 => ?_) (fun c_30 => ?_)
          · exact join_40 _ _ _ (by first | exact fun q => c_14 q.1 | exact fun q => (by rw [Int32.lt_iff_toInt_lt, i32_6] at c_20 c_26; rcases q.2 with h1 | h1 | h1; omega; omega; first | exact c_30 h1.1 | exact c_34 h1.2)) w (lv_sub hl [0, 1, 2, 3] rfl)
          · refine lv_iload_n hx hb dX6_make_33 rfl (lv_at hl 3 rfl) ?_
            refine lv_if_ne (tgt := 40) hx hb dX6_make_34 (by decide) (fun c_34 => ?_) (fun c_34 => ?_)
            · exact join_40 _ _ _ (by first | exact fun q => c_14 q.1 | exact fun q => (by rw [Int32.lt_iff_toInt_lt, i32_6] at c_20 c_26; rcases q.2 with h1 | h1 | h1; omega; omega; first | exact c_30 h1.1 | exact c_34 h1.2)) w (lv_sub hl [0, 1, 2, 3] rfl)
            · refine lv_bipush (v := (-3)) hx hb dX6_make_37 (by decide) ?_
              exact hret _ _ _ _ _ _ dX6_make_39 w (by unfold spMake; first | (rw [if_neg hin]; exact ⟨rfl, rfl⟩) | (rw [if_pos hin, if_pos]; exact ⟨rfl, rfl⟩; refine ⟨c_14, ?_⟩; first | exact Or.inl (by rw [Int32.lt_iff_toInt_lt, i32_6] at c_20; omega) | exact Or.inr (Or.inl (by rw [Int32.lt_iff_toInt_lt, i32_6] at c_26; omega)) | exact Or.inr (Or.inr ⟨c_30, c_34⟩)))

set_option maxHeartbeats 4000000 in
set_option maxRecDepth 100000 in
/-- nothing -/
theorem c_X6_nothing (l : Launch) (G : GT) (hM : okM G) (S : PS) (hS : lkM S) (n : Nat) (hn : sI S 6 0 0 = nI n) (hn60 : n ≤ 60) : CtI l G yX6_nothing wsX6_nothing (rmK 1 24) [.ref (gA G 6 0)] S (fun v S2 => spNothing n v (S2 = S) (nwM S S2 n (-1) 0 0 (fun _ => 0))) := by
  refine ofCtI (cc := cX6_nothing) (nL := 1) RX6 (by decide +kernel) rfl rfl (Nat.le_of_ble_eq_true rfl) ?_
  intro p e s m args below meth c A Q ls C w hl hret
  have hx := C.1
  have hb := C.2.1
  have hown := C.2.2.2.1
  have hts := C.2.2.2.2.1
  have hi6 : ∀ w ∈ wsX60, w ∈ wsX6_nothing := by decide +kernel
  refine lv_aload_n hx hb dX6_nothing_0 rfl (lv_at hl 0 rfl) ?_
  refine pgI 6 0 (by decide) rfl (by decide) (Or.inl rfl) rfl C w hi6 (by decide +kernel) dX6_nothing_1 (oM6 hM) (v := nI n) hn ?_
  refine lv_bipush (v := 60) hx hb dX6_nothing_4 (by decide) ?_
  refine lv_icmp_ne (tgt := 12) hx hb dX6_nothing_6 (by decide) (fun c_6 => ?_) (fun c_6 => ?_)
  · have hnf : ¬ n = 60 := fun q => c_6 (by rw [q]; rfl)
    refine lv_aload_n hx hb dX6_nothing_12 rfl (lv_at hl 0 rfl) ?_
    refine lv_iconst (v := (-1)) hx hb dX6_nothing_13 (by decide) ?_
    refine lv_iconst (v := 0) hx hb dX6_nothing_14 (by decide) ?_
    refine lv_iconst (v := 0) hx hb dX6_nothing_15 (by decide) ?_
    refine cvV (n := 3) C w hl dX6_nothing_16 (c_X6_lay l G hM S hS n hn hn60 _ _ _) gX6_nothing_X6_lay rfl (by decide +kernel) rfl rfl (Nat.le_of_ble_eq_true rfl) ⟨by decide, by decide⟩ (by decide) rfl (oM6 hM) (fun S3 H locs hp w => ?_)
    have hh := hsM_lay S n (-1) 0 0 0 rfl (by decide)
    subst hp
    refine lv_aload_n hx hb dX6_nothing_19 rfl (lv_at hl 0 rfl) ?_
    refine cvI (n := 0) C w hl dX6_nothing_20 (c_X6_keepScore l G hM _ n (by rw [hh.n]; exact hn) hn60) gX6_nothing_X6_keepScore rfl (by decide +kernel) rfl rfl (Nat.le_of_ble_eq_true rfl) ⟨by decide, by decide⟩ (by decide) rfl (oM6 hM) (fun v5 S5 H locs hp w => ?_)
    obtain ⟨e5, e6⟩ := hp
    rw [e6] at w
    exact hret _ _ _ _ _ _ dX6_nothing_23 w (by unfold spNothing; rw [if_neg hnf]; exact ⟨e5, hh.nw hn⟩)
  · have hnf : n = 60 := (nI_eq (b := 60) (by omega) (by decide)).mp c_6
    refine lv_bipush (v := (-4)) hx hb dX6_nothing_9 (by decide) ?_
    exact hret _ _ _ _ _ _ dX6_nothing_11 w (by unfold spNothing; rw [if_pos hnf]; exact ⟨rfl, rfl⟩)

set_option maxHeartbeats 4000000 in
set_option maxRecDepth 100000 in
/-- set -/
theorem c_X6_set (l : Launch) (G : GT) (hM : okM G) (S : PS) (hS : lkM S) (n : Nat) (hn : sI S 6 0 0 = nI n) (hn60 : n ≤ 60)(hsz : ∀ i, i < n → 0 ≤ (sI S 8 2 i).toInt ∧ (sI S 8 2 i).toInt ≤ 12) (i k : Int32) (x : Int64) : CtI l G yX6_set wsX6_set (rmK 2 46) [.ref (gA G 6 0), .int i, .int k, .long x] S (fun v S2 => spSet n (sI S 8 0) (sI S 8 2) i k v (S2 = S) (S2 = uJ S 9 0 (12 * jn i + jn k) x)) := by
  refine ofCtI (cc := cX6_set) (nL := 5) RX6 (by decide +kernel) rfl rfl (Nat.le_of_ble_eq_true rfl) ?_
  intro p e s m args below meth c A Q ls C w hl hret
  have hx := C.1
  have hb := C.2.1
  have hown := C.2.2.2.1
  have hts := C.2.2.2.2.1
  have hi6 : ∀ w ∈ wsX60, w ∈ wsX6_set := by decide +kernel
  refine lv_aload_n hx hb dX6_set_0 rfl (lv_at hl 0 rfl) ?_
  refine lv_iload_n hx hb dX6_set_1 rfl (lv_at hl 1 rfl) ?_
  refine cvI (n := 1) C w hl dX6_set_2 (c_X6_isNumber l G hM S n hn hn60 i) gX6_set_X6_isNumber rfl (by decide +kernel) rfl rfl (Nat.le_of_ble_eq_true rfl) ⟨by decide, by decide⟩ (by decide) rfl (oM6 hM) (fun v1 S9 H locs hp w => ?_)
  obtain ⟨q1, e0⟩ := hp
  rw [e0] at w
  refine lv_if_ne (tgt := 11) hx hb dX6_set_5 (by decide) (fun c_5 => ?_) (fun c_5 => ?_)
  · have hi := yes_of q1 c_5
    have hji := jn_lt hi
    have hqi : i = nI (jn i) := jn_eq hi
    refine lv_aload_n hx hb dX6_set_11 rfl (lv_at hl 0 rfl) ?_
    refine lv_iload_n hx hb dX6_set_12 rfl (lv_at hl 1 rfl) ?_
    refine lv_rep hqi ?_
    refine cvI (n := 1) C w hl dX6_set_13 (c_X6_isNothing l G hM S hS (jn i) (by omega)) gX6_set_X6_isNothing rfl (by decide +kernel) rfl rfl (Nat.le_of_ble_eq_true rfl) ⟨by decide, by decide⟩ (by decide) rfl (oM6 hM) (fun v2 S2 H locs hp w => ?_)
    obtain ⟨q2, e0⟩ := hp
    rw [e0] at w
    refine lv_if_eq (tgt := 22) hx hb dX6_set_16 (by decide) (fun c_16 => ?_) (fun c_16 => ?_)
    · refine lv_iload_n hx hb dX6_set_22 rfl (lv_at hl 2 rfl) ?_
      refine lv_i2l hx hb dX6_set_23 rfl ?_
      refine lv_lconst (v := 0) hx hb dX6_set_24 (by decide) ?_
      refine lv_aload_n hx hb dX6_set_25 rfl (lv_at hl 0 rfl) ?_
      refine pgQ 6 3 8 (by decide) rfl (by decide) rfl rfl C w hi6 (by decide +kernel) dX6_set_26 (oM6 hM) (hS.2.2.1) ?_
      refine lv_iload_n hx hb dX6_set_29 rfl (lv_at hl 1 rfl) ?_
      refine lv_rep hqi ?_
      refine paI C w dX6_set_30 (oM8 hM (by decide)) rfl (nM82 hM) (by omega) (by decide) rfl ?_
      refine lv_iconst (v := 1) hx hb dX6_set_31 (by decide) ?_
      refine lv_isub hx hb dX6_set_32 ?_
      refine lv_i2l hx hb dX6_set_33 rfl ?_
      refine csI (n := 3) C w hl dX6_set_34 (c_X6_in l G S _ _ _) gX6_set_X6_in rfl (by decide +kernel) rfl rfl (Nat.le_of_ble_eq_true rfl) ⟨by decide, by decide⟩ (fun v7 S7 H locs hp w => ?_)
      obtain ⟨q3, e0⟩ := hp
      rw [e0] at w
      replace q3 := imp_of (in_z (by have := hsz (jn i) hji; omega)) q3
      refine lv_if_ne (tgt := 43) hx hb dX6_set_37 (by decide) (fun c_37 => ?_) (fun c_37 => ?_)
      · have hk := yes_of q3 c_37
        have hqk : k = nI (jn k) := jn_eq hk
        have hk12 : jn k < 12 := by have h1 := hk.1; have h2 := hk.2; have h3 := hsz (jn i) hji; unfold jn at *; omega
        refine lv_aload_n hx hb dX6_set_43 rfl (lv_at hl 0 rfl) ?_
        refine pgQ 6 4 9 (by decide) rfl (by decide) rfl rfl C w hi6 (by decide +kernel) dX6_set_44 (oM6 hM) (hS.2.2.2.1) ?_
        refine lv_bipush (v := 12) hx hb dX6_set_47 (by decide) ?_
        refine lv_iload_n hx hb dX6_set_49 rfl (lv_at hl 1 rfl) ?_
        refine lv_rep hqi ?_
        refine lv_imul hx hb dX6_set_50 ?_
        refine lv_iload_n hx hb dX6_set_51 rfl (lv_at hl 2 rfl) ?_
        refine lv_rep hqk ?_
        refine lv_iadd hx hb dX6_set_52 ?_
        refine lv_lload_n hx hb dX6_set_53 rfl (lv_at hl 3 rfl) ?_
        refine psJ C w dX6_set_54 (oM9 hM (by decide)) (n := 12 * jn i + jn k) (ix12 _ _) (nM90 hM) (by omega) (by decide) (fun H locs w => ?_)
        refine lv_iconst (v := 1) hx hb dX6_set_55 (by decide) ?_
        exact hret _ _ _ _ _ _ dX6_set_56 w (by unfold spSet; rw [if_pos hi, if_neg (no_of q2 c_16), if_pos hk]; exact ⟨rfl, rfl⟩)
      · refine lv_bipush (v := (-13)) hx hb dX6_set_40 (by decide) ?_
        exact hret _ _ _ _ _ _ dX6_set_42 w (by unfold spSet; rw [if_pos hi, if_neg (no_of q2 c_16), if_neg (no_of q3 c_37)]; exact ⟨rfl, rfl⟩)
    · refine lv_bipush (v := (-11)) hx hb dX6_set_19 (by decide) ?_
      exact hret _ _ _ _ _ _ dX6_set_21 w (by unfold spSet; rw [if_pos hi, if_pos (yes_of q2 c_16)]; exact ⟨rfl, rfl⟩)
  · refine lv_bipush (v := (-2)) hx hb dX6_set_8 (by decide) ?_
    exact hret _ _ _ _ _ _ dX6_set_10 w (by unfold spSet; rw [if_neg (no_of q1 c_5)]; exact ⟨rfl, rfl⟩)

set_option maxHeartbeats 4000000 in
set_option maxRecDepth 100000 in
/-- thrown -/
theorem c_X6_thrown (l : Launch) (G : GT) (hM : okM G) (S : PS) : CtI l G yX6_thrown wsX6_thrown (rmK 0 0) [.ref (gA G 6 0)] S (fun v S2 => v = sI S 6 0 17 ∧ S2 = S) := by
  refine ofCtI (cc := cX6_thrown) (nL := 1) RX6 (by decide +kernel) rfl rfl (Nat.le_of_ble_eq_true rfl) ?_
  intro p e s m args below meth c A Q ls C w hl hret
  have hx := C.1
  have hb := C.2.1
  have hown := C.2.2.2.1
  have hts := C.2.2.2.2.1
  have hi6 : ∀ w ∈ wsX60, w ∈ wsX6_thrown := by decide +kernel
  refine lv_aload_n hx hb dX6_thrown_0 rfl (lv_at hl 0 rfl) ?_
  refine pgI 6 17 (by decide) rfl (by decide) (Or.inl rfl) rfl C w hi6 (by decide +kernel) dX6_thrown_1 (oM6 hM) rfl ?_
  exact hret _ _ _ _ _ _ dX6_thrown_4 w ⟨rfl, rfl⟩

set_option maxHeartbeats 4000000 in
set_option maxRecDepth 100000 in
/-- at -/
theorem c_X6_at (l : Launch) (G : GT) (hM : okM G) (S : PS) (hS : lkM S) (n : Nat) (hn : sI S 6 0 0 = nI n) (hn60 : n ≤ 60)(hsz : ∀ i, i < n → 0 ≤ (sI S 8 2 i).toInt ∧ (sI S 8 2 i).toInt ≤ 12) (i k : Int32) : CtL l G yX6_at wsX6_at (rmK 2 46) [.ref (gA G 6 0), .int i, .int k] S (fun v S2 => S2 = uI S 6 0 17 (atT n (sI S 8 0) (sI S 8 2) i k) ∧ (atT n (sI S 8 0) (sI S 8 2) i k = 0 → v = sJ S 9 0 (12 * jn i + jn k))) := by
  refine ofCtL (cc := cX6_at) (nL := 3) RX6 (by decide +kernel) rfl rfl (Nat.le_of_ble_eq_true rfl) ?_
  intro p e s m args below meth c A Q ls C w hl hret
  have hx := C.1
  have hb := C.2.1
  have hown := C.2.2.2.1
  have hts := C.2.2.2.2.1
  have hi6 : ∀ w ∈ wsX60, w ∈ wsX6_at := by decide +kernel
  have join_48 : ∀ (t : Int32) (H : Heap) (locs : List Loc) (ls : Array Slot), t = atT n (sI S 8 0) (sI S 8 2) i k → Wd G A s.heap S H locs → lv_has ls 3 [(0, .ref (gA G 6 0)), (1, .int i), (2, .int k)] → W p l e (rmK 2 46) s m args below meth c H locs 0 0 Q (F0 m 48 ls [.int t, .ref (gA G 6 0)]) := by
    intro t H locs ls ht w hl
    subst ht
    refine ppI 6 17 (by decide) rfl (by decide) rfl rfl tyX6_ok nmX6 rfl (by decide +kernel) C w hi6 (by decide +kernel) dX6_at_48 (oM6 hM) (fun H locs w => ?_)
    refine lv_aload_n hx hb dX6_at_51 rfl (lv_at hl 0 rfl) ?_
    refine pgI 6 17 (by decide) rfl (by decide) (Or.inl rfl) rfl C w hi6 (by decide +kernel) dX6_at_52 (oM6 hM) (v := atT n (sI S 8 0) (sI S 8 2) i k) (by rw [sI_uI, if_pos ⟨rfl, rfl, rfl⟩]) ?_
    refine lv_if_le (tgt := 62) hx hb dX6_at_55 (by decide) (fun c_55 => ?_) (fun c_55 => ?_)
    · have h0 : atT n (sI S 8 0) (sI S 8 2) i k = 0 := by
        unfold atT at c_55 ⊢
        split at c_55
        · split at c_55
          · exact absurd c_55 (by decide)
          · split at c_55
            · rename_i a1 a2 a3; rw [if_pos a1, if_neg a2, if_pos a3]
            · exact absurd c_55 (by decide)
        · exact absurd c_55 (by decide)
      have hh : inN i n ∧ inN k (sI S 8 2 (jn i)).toInt := by
        unfold atT at h0
        split at h0
        · split at h0
          · exact absurd h0 (by decide)
          · split at h0
            · rename_i a1 a2 a3; exact ⟨a1, a3⟩
            · exact absurd h0 (by decide)
        · exact absurd h0 (by decide)
      have hi := hh.1
      have hk := hh.2
      have hji := jn_lt hi
      have hqi : i = nI (jn i) := jn_eq hi
      have hqk : k = nI (jn k) := jn_eq hk
      have hk12 : jn k < 12 := by have h1 := hk.1; have h2 := hk.2; have h3 := hsz (jn i) hji; unfold jn at *; omega
      refine lv_aload_n hx hb dX6_at_62 rfl (lv_at hl 0 rfl) ?_
      refine pgQ 6 4 9 (by decide) rfl (by decide) rfl rfl C w hi6 (by decide +kernel) dX6_at_63 (oM6 hM) (hS.2.2.2.1) ?_
      refine lv_bipush (v := 12) hx hb dX6_at_66 (by decide) ?_
      refine lv_iload_n hx hb dX6_at_68 rfl (lv_at hl 1 rfl) ?_
      refine lv_rep hqi ?_
      refine lv_imul hx hb dX6_at_69 ?_
      refine lv_iload_n hx hb dX6_at_70 rfl (lv_at hl 2 rfl) ?_
      refine lv_rep hqk ?_
      refine lv_iadd hx hb dX6_at_71 ?_
      refine paJ C w dX6_at_72 (oM9 hM (by decide)) (n := 12 * jn i + jn k) (ix12 _ _) (nM90 hM) (by omega) (by decide) rfl ?_
      exact hret _ _ _ _ _ _ dX6_at_73 w ⟨rfl, fun q => by first | rfl | (rw [q] at c_55; exact absurd (by decide) c_55)⟩
    · refine lv_lconst (v := 0) hx hb dX6_at_58 (by decide) ?_
      refine lv_goto (tgt := 73) hx hb dX6_at_59 (by decide) ?_
      exact hret _ _ _ _ _ _ dX6_at_73 w ⟨rfl, fun q => by first | rfl | (rw [q] at c_55; exact absurd (by decide) c_55)⟩
  refine lv_aload_n hx hb dX6_at_0 rfl (lv_at hl 0 rfl) ?_
  refine lv_aload_n hx hb dX6_at_1 rfl (lv_at hl 0 rfl) ?_
  refine lv_iload_n hx hb dX6_at_2 rfl (lv_at hl 1 rfl) ?_
  refine cvI (n := 1) C w hl dX6_at_3 (c_X6_isNumber l G hM S n hn hn60 i) gX6_at_X6_isNumber rfl (by decide +kernel) rfl rfl (Nat.le_of_ble_eq_true rfl) ⟨by decide, by decide⟩ (by decide) rfl (oM6 hM) (fun v1 S9 H locs hp w => ?_)
  obtain ⟨q1, e0⟩ := hp
  rw [e0] at w
  refine lv_if_ne (tgt := 13) hx hb dX6_at_6 (by decide) (fun c_6 => ?_) (fun c_6 => ?_)
  · have hi := yes_of q1 c_6
    have hji := jn_lt hi
    have hqi : i = nI (jn i) := jn_eq hi
    refine lv_aload_n hx hb dX6_at_13 rfl (lv_at hl 0 rfl) ?_
    refine lv_iload_n hx hb dX6_at_14 rfl (lv_at hl 1 rfl) ?_
    refine lv_rep hqi ?_
    refine cvI (n := 1) C w hl dX6_at_15 (c_X6_isNothing l G hM S hS (jn i) (by omega)) gX6_at_X6_isNothing rfl (by decide +kernel) rfl rfl (Nat.le_of_ble_eq_true rfl) ⟨by decide, by decide⟩ (by decide) rfl (oM6 hM) (fun v2 S2 H locs hp w => ?_)
    obtain ⟨q2, e0⟩ := hp
    rw [e0] at w
    refine lv_if_eq (tgt := 25) hx hb dX6_at_18 (by decide) (fun c_18 => ?_) (fun c_18 => ?_)
    · refine lv_iload_n hx hb dX6_at_25 rfl (lv_at hl 2 rfl) ?_
      refine lv_i2l hx hb dX6_at_26 rfl ?_
      refine lv_lconst (v := 0) hx hb dX6_at_27 (by decide) ?_
      refine lv_aload_n hx hb dX6_at_28 rfl (lv_at hl 0 rfl) ?_
      refine pgQ 6 3 8 (by decide) rfl (by decide) rfl rfl C w hi6 (by decide +kernel) dX6_at_29 (oM6 hM) (hS.2.2.1) ?_
      refine lv_iload_n hx hb dX6_at_32 rfl (lv_at hl 1 rfl) ?_
      refine lv_rep hqi ?_
      refine paI C w dX6_at_33 (oM8 hM (by decide)) rfl (nM82 hM) (by omega) (by decide) rfl ?_
      refine lv_iconst (v := 1) hx hb dX6_at_34 (by decide) ?_
      refine lv_isub hx hb dX6_at_35 ?_
      refine lv_i2l hx hb dX6_at_36 rfl ?_
      refine csI (n := 3) C w hl dX6_at_37 (c_X6_in l G S _ _ _) gX6_at_X6_in rfl (by decide +kernel) rfl rfl (Nat.le_of_ble_eq_true rfl) ⟨by decide, by decide⟩ (fun v7 S7 H locs hp w => ?_)
      obtain ⟨q3, e0⟩ := hp
      rw [e0] at w
      replace q3 := imp_of (in_z (by have := hsz (jn i) hji; omega)) q3
      refine lv_if_ne (tgt := 47) hx hb dX6_at_40 (by decide) (fun c_40 => ?_) (fun c_40 => ?_)
      · refine lv_iconst (v := 0) hx hb dX6_at_47 (by decide) ?_
        exact join_48 _ _ _ _ (by unfold atT; first | rw [if_neg (no_of q1 c_6)] | rw [if_pos hi, if_pos (yes_of q2 c_18)] | rw [if_pos hi, if_neg (no_of q2 c_18), if_neg (no_of q3 c_40)] | rw [if_pos hi, if_neg (no_of q2 c_18), if_pos (yes_of q3 c_40)]) w (lv_sub hl [0, 1, 2] rfl)
      · refine lv_iconst (v := 1) hx hb dX6_at_43 (by decide) ?_
        refine lv_goto (tgt := 48) hx hb dX6_at_44 (by decide) ?_
        exact join_48 _ _ _ _ (by unfold atT; first | rw [if_neg (no_of q1 c_6)] | rw [if_pos hi, if_pos (yes_of q2 c_18)] | rw [if_pos hi, if_neg (no_of q2 c_18), if_neg (no_of q3 c_40)] | rw [if_pos hi, if_neg (no_of q2 c_18), if_pos (yes_of q3 c_40)]) w (lv_sub hl [0, 1, 2] rfl)
    · refine lv_iconst (v := 2) hx hb dX6_at_21 (by decide) ?_
      refine lv_goto (tgt := 48) hx hb dX6_at_22 (by decide) ?_
      exact join_48 _ _ _ _ (by unfold atT; first | rw [if_neg (no_of q1 c_6)] | rw [if_pos hi, if_pos (yes_of q2 c_18)] | rw [if_pos hi, if_neg (no_of q2 c_18), if_neg (no_of q3 c_40)] | rw [if_pos hi, if_neg (no_of q2 c_18), if_pos (yes_of q3 c_40)]) w (lv_sub hl [0, 1, 2] rfl)
  · refine lv_iconst (v := 1) hx hb dX6_at_9 (by decide) ?_
    refine lv_goto (tgt := 48) hx hb dX6_at_10 (by decide) ?_
    exact join_48 _ _ _ _ (by unfold atT; first | rw [if_neg (no_of q1 c_6)] | rw [if_pos hi, if_pos (yes_of q2 c_18)] | rw [if_pos hi, if_neg (no_of q2 c_18), if_neg (no_of q3 c_40)] | rw [if_pos hi, if_neg (no_of q2 c_18), if_pos (yes_of q3 c_40)]) w (lv_sub hl [0, 1, 2] rfl)
