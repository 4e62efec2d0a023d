set_option maxHeartbeats 4000000 in
set_option maxRecDepth 100000 in
/-- told -/
theorem c_X6_told (l : Launch) (G : GT) (hM : okM G) (S : PS) (hS : lkM S) (n : Nat) (hn : sI S 6 0 0 = nI n) (hn60 : n ≤ 60)(hhd : ∀ i, i < n → 0 ≤ (sI S 8 1 i).toInt ∧ (sI S 8 1 i).toInt ≤ 12) (i w2 : Int32) : CtI l G yX6_told wsX6_told (rmK 2 46) [.ref (gA G 6 0), .int i, .int w2] S (fun v S2 => spTold n (sI S 8 0) (sI S 8 1) (sI S 8 2) (∀ j, j < jn (sI S 8 1 (jn i)) → ¬ sJ S 9 0 (12 * jn i + j) < 0) i w2 v (S2 = S)) := by
  refine ofCtI (cc := cX6_told) (nL := 5) RX6 (by decide +kernel) rfl rfl (Nat.le_of_ble_eq_true rfl) ?_
  intro p e s m args below meth c A Q ls C w hl hret
  have hx := C.1
  have hb := C.2.1
  have hown := C.2.2.2.1
  have hts := C.2.2.2.2.1
  have hi6 : ∀ w ∈ wsX60, w ∈ wsX6_told := by decide +kernel
  refine lv_aload_n hx hb dX6_told_0 rfl (lv_at hl 0 rfl) ?_
  refine lv_iload_n hx hb dX6_told_1 rfl (lv_at hl 1 rfl) ?_
  refine cvI (n := 1) C w hl dX6_told_2 (c_X6_isNumber l G hM S n hn hn60 i) gX6_told_X6_isNumber rfl (by decide +kernel) rfl rfl (Nat.le_of_ble_eq_true rfl) ⟨by decide, by decide⟩ (by decide) rfl (oM6 hM) (fun v1 S9 H locs hp w => ?_)
  obtain ⟨q1, e0⟩ := hp
  rw [e0] at w
  refine lv_if_ne (tgt := 11) hx hb dX6_told_5 (by decide) (fun c_5 => ?_) (fun c_5 => ?_)
  · have hi := yes_of q1 c_5
    have hji := jn_lt hi
    have hqi : i = nI (jn i) := jn_eq hi
    refine lv_iload_n hx hb dX6_told_11 rfl (lv_at hl 2 rfl) ?_
    refine lv_i2l hx hb dX6_told_12 rfl ?_
    refine lv_lconst (v := 0) hx hb dX6_told_13 (by decide) ?_
    refine lv_ldc2 (v := (3)) hx hb hown (hts (.constantLong RX6 58 (3)) (by decide +kernel)) dX6_told_14 ?_
    refine csI (n := 3) C w hl dX6_told_17 (c_X6_in l G S _ _ _) gX6_told_X6_in rfl (by decide +kernel) rfl rfl (Nat.le_of_ble_eq_true rfl) ⟨by decide, by decide⟩ (fun v7 S7 H locs hp w => ?_)
    obtain ⟨q7, e0⟩ := hp
    rw [e0] at w
    replace q7 := imp_of (in_c (m := 4) rfl) q7
    refine lv_if_ne (tgt := 26) hx hb dX6_told_20 (by decide) (fun c_20 => ?_) (fun c_20 => ?_)
    · have hw := yes_of q7 c_20
      refine lv_aload_n hx hb dX6_told_26 rfl (lv_at hl 0 rfl) ?_
      refine lv_iload_n hx hb dX6_told_27 rfl (lv_at hl 1 rfl) ?_
      refine lv_rep hqi ?_
      refine cvI (n := 1) C w hl dX6_told_28 (c_X6_isNothing l G hM S hS (jn i) (by omega)) gX6_told_X6_isNothing rfl (by decide +kernel) rfl rfl (Nat.le_of_ble_eq_true rfl) ⟨by decide, by decide⟩ (by decide) rfl (oM6 hM) (fun v2 S2 H locs hp w => ?_)
      obtain ⟨q2, e0⟩ := hp
      rw [e0] at w
      refine lv_if_eq (tgt := 37) hx hb dX6_told_31 (by decide) (fun c_31 => ?_) (fun c_31 => ?_)
      · have hhj := hhd (jn i) hji
        have hh12 : jn (sI S 8 1 (jn i)) ≤ 12 := by unfold jn at *; omega
        refine lv_iconst (v := 1) hx hb dX6_told_37 (by decide) ?_
        refine lv_istore_n hx hb dX6_told_38 rfl hl (by decide) rfl (fun ls hl => ?_)
        refine lv_iconst (v := 0) hx hb dX6_told_39 (by decide) ?_
        refine lv_istore hx hb dX6_told_40 hl (by decide) rfl (fun ls hl => ?_)
        have loop_42 : ∀ (n2 : Nat) (k : Nat) (f : Int32) (H : Heap) (locs : List Loc) (ls : Array Slot), k + n2 = jn (sI S 8 1 (jn i)) → ((f = 1 ∧ (∀ j, j < k → ¬ sJ S 9 0 (12 * jn i + j) < 0)) ∨ (f = 0 ∧ ¬ (∀ j, j < k → ¬ sJ S 9 0 (12 * jn i + j) < 0))) → Wd G A s.heap S H locs → lv_has ls 5 [(0, .ref (gA G 6 0)), (1, .int i), (2, .int w2), (3, .int f), (4, .int (nI k))] → W p l e (rmK 2 46) s m args below meth c H locs 0 0 Q (F0 m 42 ls []) := by
          intro n2
          induction n2 with
          | zero =>
            intro k f H locs ls hk hf w hl
            refine lv_iload hx hb dX6_told_42 (lv_at hl 4 rfl) ?_
            refine lv_aload_n hx hb dX6_told_44 rfl (lv_at hl 0 rfl) ?_
            refine pgQ 6 2 8 (by decide) rfl (by decide) rfl rfl C w hi6 (by decide +kernel) dX6_told_45 (oM6 hM) (hS.2.1) ?_
            refine lv_iload_n hx hb dX6_told_48 rfl (lv_at hl 1 rfl) ?_
            refine lv_rep hqi ?_
            refine paI C w dX6_told_49 (oM8 hM (by decide)) rfl (nM81 hM) (by omega) (by decide) (v := nI (jn (sI S 8 1 (jn i)))) (nI_jn hhj.1) ?_
            refine lv_icmp_ge (tgt := 86) hx hb dX6_told_50 (by decide) (fun c_50 => ?_) (fun c_50 => absurd (nI_le (by omega) (by omega)) c_50)
            have e : k = jn (sI S 8 1 (jn i)) := by omega
            rw [e] at hf
            refine lv_iload_n hx hb dX6_told_86 rfl (lv_at hl 2 rfl) ?_
            refine lv_if_ne (tgt := 99) hx hb dX6_told_87 (by decide) (fun c_87 => ?_) (fun c_87 => ?_)
            · refine lv_iload_n hx hb dX6_told_99 rfl (lv_at hl 2 rfl) ?_
              refine lv_iconst (v := 1) hx hb dX6_told_100 (by decide) ?_
              refine lv_icmp_ne (tgt := 113) hx hb dX6_told_101 (by decide) (fun c_101 => ?_) (fun c_101 => ?_)
              · refine lv_iload_n hx hb dX6_told_113 rfl (lv_at hl 2 rfl) ?_
                refine lv_iconst (v := 2) hx hb dX6_told_114 (by decide) ?_
                refine lv_icmp_ne (tgt := 127) hx hb dX6_told_115 (by decide) (fun c_115 => ?_) (fun c_115 => ?_)
                · refine lv_iload_n hx hb dX6_told_127 rfl (lv_at hl 3 rfl) ?_
                  refine lv_if_eq (tgt := 135) hx hb dX6_told_128 (by decide) (fun c_128 => ?_) (fun c_128 => ?_)
                  · refine lv_iconst (v := 0) hx hb dX6_told_135 (by decide) ?_
                    exact hret _ _ _ _ _ _ dX6_told_136 w (by unfold spTold; rw [if_pos hi, if_pos hw, if_neg (no_of q2 c_31)]; first | (rw [if_pos c_87]; exact ⟨rfl, rfl⟩) | (rw [if_neg c_87, if_pos c_101]; exact ⟨rfl, rfl⟩) | (rw [if_neg c_87, if_neg c_101, if_pos c_115]; exact ⟨rfl, rfl⟩) | (rw [if_neg c_87, if_neg c_101, if_neg c_115]; exact ⟨by first | exact Or.inl ⟨rfl, yes_of hf c_128⟩ | exact Or.inr ⟨rfl, no_of hf c_128⟩, rfl⟩))
                  · refine lv_iconst (v := 1) hx hb dX6_told_131 (by decide) ?_
                    refine lv_goto (tgt := 136) hx hb dX6_told_132 (by decide) ?_
                    exact hret _ _ _ _ _ _ dX6_told_136 w (by unfold spTold; rw [if_pos hi, if_pos hw, if_neg (no_of q2 c_31)]; first | (rw [if_pos c_87]; exact ⟨rfl, rfl⟩) | (rw [if_neg c_87, if_pos c_101]; exact ⟨rfl, rfl⟩) | (rw [if_neg c_87, if_neg c_101, if_pos c_115]; exact ⟨rfl, rfl⟩) | (rw [if_neg c_87, if_neg c_101, if_neg c_115]; exact ⟨by first | exact Or.inl ⟨rfl, yes_of hf c_128⟩ | exact Or.inr ⟨rfl, no_of hf c_128⟩, rfl⟩))
                · refine lv_aload_n hx hb dX6_told_118 rfl (lv_at hl 0 rfl) ?_
                  refine pgQ 6 3 8 (by decide) rfl (by decide) rfl rfl C w hi6 (by decide +kernel) dX6_told_119 (oM6 hM) (hS.2.2.1) ?_
                  refine lv_iload_n hx hb dX6_told_122 rfl (lv_at hl 1 rfl) ?_
                  refine lv_rep hqi ?_
                  refine paI C w dX6_told_123 (oM8 hM (by decide)) rfl (nM82 hM) (by omega) (by decide) rfl ?_
                  refine lv_goto (tgt := 136) hx hb dX6_told_124 (by decide) ?_
                  exact hret _ _ _ _ _ _ dX6_told_136 w (by unfold spTold; rw [if_pos hi, if_pos hw, if_neg (no_of q2 c_31)]; first | (rw [if_pos c_87]; exact ⟨rfl, rfl⟩) | (rw [if_neg c_87, if_pos c_101]; exact ⟨rfl, rfl⟩) | (rw [if_neg c_87, if_neg c_101, if_pos c_115]; exact ⟨rfl, rfl⟩) | (rw [if_neg c_87, if_neg c_101, if_neg c_115]; exact ⟨by first | exact Or.inl ⟨rfl, yes_of hf c_128⟩ | exact Or.inr ⟨rfl, no_of hf c_128⟩, rfl⟩))
              · refine lv_aload_n hx hb dX6_told_104 rfl (lv_at hl 0 rfl) ?_
                refine pgQ 6 2 8 (by decide) rfl (by decide) rfl rfl C w hi6 (by decide +kernel) dX6_told_105 (oM6 hM) (hS.2.1) ?_
                refine lv_iload_n hx hb dX6_told_108 rfl (lv_at hl 1 rfl) ?_
                refine lv_rep hqi ?_
                refine paI C w dX6_told_109 (oM8 hM (by decide)) rfl (nM81 hM) (by omega) (by decide) rfl ?_
                refine lv_goto (tgt := 136) hx hb dX6_told_110 (by decide) ?_
                exact hret _ _ _ _ _ _ dX6_told_136 w (by unfold spTold; rw [if_pos hi, if_pos hw, if_neg (no_of q2 c_31)]; first | (rw [if_pos c_87]; exact ⟨rfl, rfl⟩) | (rw [if_neg c_87, if_pos c_101]; exact ⟨rfl, rfl⟩) | (rw [if_neg c_87, if_neg c_101, if_pos c_115]; exact ⟨rfl, rfl⟩) | (rw [if_neg c_87, if_neg c_101, if_neg c_115]; exact ⟨by first | exact Or.inl ⟨rfl, yes_of hf c_128⟩ | exact Or.inr ⟨rfl, no_of hf c_128⟩, rfl⟩))
            · refine lv_aload_n hx hb dX6_told_90 rfl (lv_at hl 0 rfl) ?_
              refine pgQ 6 1 8 (by decide) rfl (by decide) rfl rfl C w hi6 (by decide +kernel) dX6_told_91 (oM6 hM) (hS.1) ?_
              refine lv_iload_n hx hb dX6_told_94 rfl (lv_at hl 1 rfl) ?_
              refine lv_rep hqi ?_
              refine paI C w dX6_told_95 (oM8 hM (by decide)) rfl (nM80 hM) (by omega) (by decide) rfl ?_
              refine lv_goto (tgt := 136) hx hb dX6_told_96 (by decide) ?_
              exact hret _ _ _ _ _ _ dX6_told_136 w (by unfold spTold; rw [if_pos hi, if_pos hw, if_neg (no_of q2 c_31)]; first | (rw [if_pos c_87]; exact ⟨rfl, rfl⟩) | (rw [if_neg c_87, if_pos c_101]; exact ⟨rfl, rfl⟩) | (rw [if_neg c_87, if_neg c_101, if_pos c_115]; exact ⟨rfl, rfl⟩) | (rw [if_neg c_87, if_neg c_101, if_neg c_115]; exact ⟨by first | exact Or.inl ⟨rfl, yes_of hf c_128⟩ | exact Or.inr ⟨rfl, no_of hf c_128⟩, rfl⟩))
          | succ n2 ih =>
            intro k f H locs ls hk hf w hl
            refine lv_iload hx hb dX6_told_42 (lv_at hl 4 rfl) ?_
            refine lv_aload_n hx hb dX6_told_44 rfl (lv_at hl 0 rfl) ?_
            refine pgQ 6 2 8 (by decide) rfl (by decide) rfl rfl C w hi6 (by decide +kernel) dX6_told_45 (oM6 hM) (hS.2.1) ?_
            refine lv_iload_n hx hb dX6_told_48 rfl (lv_at hl 1 rfl) ?_
            refine lv_rep hqi ?_
            refine paI C w dX6_told_49 (oM8 hM (by decide)) rfl (nM81 hM) (by omega) (by decide) (v := nI (jn (sI S 8 1 (jn i)))) (nI_jn hhj.1) ?_
            refine lv_icmp_ge (tgt := 86) hx hb dX6_told_50 (by decide) (fun c_50 => absurd c_50 (nI_ge (by omega) (by omega))) (fun c_50 => ?_)
            refine lv_iload_n hx hb dX6_told_53 rfl (lv_at hl 3 rfl) ?_
            refine lv_if_eq (tgt := 78) hx hb dX6_told_54 (by decide) (fun c_54 => ?_) (fun c_54 => ?_)
            · refine lv_iconst (v := 0) hx hb dX6_told_78 (by decide) ?_
              refine lv_istore_n hx hb dX6_told_79 rfl hl (by decide) rfl (fun ls hl => ?_)
              refine lv_iinc (v := nI (k + 1)) hx hb dX6_told_80 hl (k := 4) rfl (nI_1 k) (by decide) rfl (fun ls hl => ?_)
              refine lv_goto (tgt := 42) hx hb dX6_told_83 (by decide) ?_
              exact ih (k + 1) _ _ _ _ (by omega) (by first | exact Or.inr ⟨rfl, fun q => no_of hf c_54 (fun j hj => q j (by omega))⟩ | exact Or.inr ⟨rfl, fun q => q k (by omega) c_71⟩ | exact Or.inl ⟨rfl, lt_s (yes_of hf c_54) c_71⟩) w (lv_sub hl [2, 3, 4, 1, 0] rfl)
            · refine lv_aload_n hx hb dX6_told_57 rfl (lv_at hl 0 rfl) ?_
              refine pgQ 6 4 9 (by decide) rfl (by decide) rfl rfl C w hi6 (by decide +kernel) dX6_told_58 (oM6 hM) (hS.2.2.2.1) ?_
              refine lv_bipush (v := 12) hx hb dX6_told_61 (by decide) ?_
              refine lv_iload_n hx hb dX6_told_63 rfl (lv_at hl 1 rfl) ?_
              refine lv_rep hqi ?_
              refine lv_imul hx hb dX6_told_64 ?_
              refine lv_iload hx hb dX6_told_65 (lv_at hl 4 rfl) ?_
              refine lv_iadd hx hb dX6_told_67 ?_
              refine paJ C w dX6_told_68 (oM9 hM (by decide)) (n := 12 * jn i + k) (ix12 _ _) (nM90 hM) (by omega) (by decide) rfl ?_
              refine lv_lconst (v := 0) hx hb dX6_told_69 (by decide) ?_
              refine W.lcmp hx hb dX6_told_70 ?_
              refine lv_if_lt (tgt := 78) hx hb dX6_told_71 (by decide) (fun c_71 => ?_) (fun c_71 => ?_)
              · rw [lg_cmp_lt] at c_71
                refine lv_iconst (v := 0) hx hb dX6_told_78 (by decide) ?_
                refine lv_istore_n hx hb dX6_told_79 rfl hl (by decide) rfl (fun ls hl => ?_)
                refine lv_iinc (v := nI (k + 1)) hx hb dX6_told_80 hl (k := 4) rfl (nI_1 k) (by decide) rfl (fun ls hl => ?_)
                refine lv_goto (tgt := 42) hx hb dX6_told_83 (by decide) ?_
                exact ih (k + 1) _ _ _ _ (by omega) (by first | exact Or.inr ⟨rfl, fun q => no_of hf c_54 (fun j hj => q j (by omega))⟩ | exact Or.inr ⟨rfl, fun q => q k (by omega) c_71⟩ | exact Or.inl ⟨rfl, lt_s (yes_of hf c_54) c_71⟩) w (lv_sub hl [2, 3, 4, 1, 0] rfl)
              · rw [lg_cmp_lt] at c_71
                refine lv_iconst (v := 1) hx hb dX6_told_74 (by decide) ?_
                refine lv_goto (tgt := 79) hx hb dX6_told_75 (by decide) ?_
                refine lv_istore_n hx hb dX6_told_79 rfl hl (by decide) rfl (fun ls hl => ?_)
                refine lv_iinc (v := nI (k + 1)) hx hb dX6_told_80 hl (k := 4) rfl (nI_1 k) (by decide) rfl (fun ls hl => ?_)
                refine lv_goto (tgt := 42) hx hb dX6_told_83 (by decide) ?_
                exact ih (k + 1) _ _ _ _ (by omega) (by first | exact Or.inr ⟨rfl, fun q => no_of hf c_54 (fun j hj => q j (by omega))⟩ | exact Or.inr ⟨rfl, fun q => q k (by omega) c_71⟩ | exact Or.inl ⟨rfl, lt_s (yes_of hf c_54) c_71⟩) w (lv_sub hl [2, 3, 4, 1, 0] rfl)
        exact loop_42 (jn (sI S 8 1 (jn i))) 0 1 _ _ _ (by omega) (Or.inl ⟨rfl, lt_0⟩) w (lv_sub hl [2, 3, 4, 1, 0] rfl)
      · refine lv_bipush (v := (-11)) hx hb dX6_told_34 (by decide) ?_
        exact hret _ _ _ _ _ _ dX6_told_36 w (by unfold spTold; rw [if_pos hi, if_pos hw, if_pos (yes_of q2 c_31)]; exact ⟨rfl, rfl⟩)
    · refine lv_bipush (v := (-3)) hx hb dX6_told_23 (by decide) ?_
      exact hret _ _ _ _ _ _ dX6_told_25 w (by unfold spTold; rw [if_pos hi, if_neg (no_of q7 c_20)]; exact ⟨rfl, rfl⟩)
  · refine lv_bipush (v := (-2)) hx hb dX6_told_8 (by decide) ?_
    exact hret _ _ _ _ _ _ dX6_told_10 w (by unfold spTold; rw [if_neg (no_of q1 c_5)]; exact ⟨rfl, rfl⟩)

set_option maxHeartbeats 4000000 in
set_option maxRecDepth 100000 in
/-- order -/
theorem c_X6_order (l : Launch) (G : GT) (hM : okM G) (S : PS) (hS : lkM S) (n : Nat) (hn : sI S 6 0 0 = nI n) (hn60 : n ≤ 60)(hsz : ∀ i, i < n → 0 ≤ (sI S 8 2 i).toInt ∧ (sI S 8 2 i).toInt ≤ 12) (a b : Int32) : CtI l G yX6_order wsX6_order (rmK 2 46) [.ref (gA G 6 0), .int a, .int b] S (fun v S2 => spOrder n (sI S 8 0) (sI S 8 1) (sI S 8 2) (fun j k => sJ S 9 0 (12 * j + k)) a b v (S2 = S)) := by
  refine ofCtI (cc := cX6_order) (nL := 4) RX6 (by decide +kernel) rfl rfl (Nat.le_of_ble_eq_true rfl) ?_
  intro p e s m args below meth c A Q ls C w hl hret
  have hx := C.1
  have hb := C.2.1
  have hown := C.2.2.2.1
  have hts := C.2.2.2.2.1
  have hi6 : ∀ w ∈ wsX60, w ∈ wsX6_order := by decide +kernel
  refine lv_aload_n hx hb dX6_order_0 rfl (lv_at hl 0 rfl) ?_
  refine lv_iload_n hx hb dX6_order_1 rfl (lv_at hl 1 rfl) ?_
  refine cvI (n := 1) C w hl dX6_order_2 (c_X6_isNumber l G hM S n hn hn60 a) gX6_order_X6_isNumber rfl (by decide +kernel) rfl rfl (Nat.le_of_ble_eq_true rfl) ⟨by decide, by decide⟩ (by decide) rfl (oM6 hM) (fun v1 S9 H locs hp w => ?_)
  obtain ⟨q1, e0⟩ := hp
  rw [e0] at w
  refine lv_if_eq (tgt := 16) hx hb dX6_order_5 (by decide) (fun c_5 => ?_) (fun c_5 => ?_)
  · refine lv_bipush (v := (-2)) hx hb dX6_order_16 (by decide) ?_
    exact hret _ _ _ _ _ _ dX6_order_18 w (by unfold spOrder; rw [if_neg (fun q => by first | exact no_of q1 c_5 q.1 | exact no_of q2 c_13 q.2)]; exact ⟨rfl, rfl⟩)
  · refine lv_aload_n hx hb dX6_order_8 rfl (lv_at hl 0 rfl) ?_
    refine lv_iload_n hx hb dX6_order_9 rfl (lv_at hl 2 rfl) ?_
    refine cvI (n := 1) C w hl dX6_order_10 (c_X6_isNumber l G hM S n hn hn60 b) gX6_order_X6_isNumber rfl (by decide +kernel) rfl rfl (Nat.le_of_ble_eq_true rfl) ⟨by decide, by decide⟩ (by decide) rfl (oM6 hM) (fun v2 S9 H locs hp w => ?_)
    obtain ⟨q2, e0⟩ := hp
    rw [e0] at w
    refine lv_if_ne (tgt := 19) hx hb dX6_order_13 (by decide) (fun c_13 => ?_) (fun c_13 => ?_)
    · have ha := yes_of q1 c_5
      have hja := jn_lt ha
      have hqa : a = nI (jn a) := jn_eq ha
      have hb2 := yes_of q2 c_13
      have hjb := jn_lt hb2
      have hqb : b = nI (jn b) := jn_eq hb2
      have hzj := hsz (jn a) hja
      have hz12 : jn (sI S 8 2 (jn a)) ≤ 12 := by unfold jn at *; omega
      refine lv_aload_n hx hb dX6_order_19 rfl (lv_at hl 0 rfl) ?_
      refine lv_iload_n hx hb dX6_order_20 rfl (lv_at hl 1 rfl) ?_
      refine lv_rep hqa ?_
      refine lv_iload_n hx hb dX6_order_21 rfl (lv_at hl 2 rfl) ?_
      refine lv_rep hqb ?_
      refine cvI (n := 2) C w hl dX6_order_22 (c_X6_refusal l G hM S hS (jn a) (jn b) (by omega) (by omega)) gX6_order_X6_refusal rfl (by decide +kernel) rfl rfl (Nat.le_of_ble_eq_true rfl) ⟨by decide, by decide⟩ (by decide) rfl (oM6 hM) (fun v3 S3 H locs hp w => ?_)
      obtain ⟨q3, e0⟩ := hp
      rw [e0] at w
      refine lv_istore_n hx hb dX6_order_25 rfl hl (by decide) rfl (fun ls hl => ?_)
      refine lv_iload_n hx hb dX6_order_26 rfl (lv_at hl 0 rfl) ?_
      refine lv_if_ge (tgt := 34) hx hb dX6_order_27 (by decide) (fun c_27 => ?_) (fun c_27 => ?_)
      · refine lv_iconst (v := 2) hx hb dX6_order_34 (by decide) ?_
        refine lv_aload_n hx hb dX6_order_35 rfl (lv_at hl 1 rfl) ?_
        refine lv_aload_n hx hb dX6_order_36 rfl (lv_at hl 1 rfl) ?_
        refine pgQ 6 4 9 (by decide) rfl (by decide) rfl rfl C w hi6 (by decide +kernel) dX6_order_37 (oM6 hM) (hS.2.2.2.1) ?_
        refine lv_bipush (v := 12) hx hb dX6_order_40 (by decide) ?_
        refine lv_iload_n hx hb dX6_order_42 rfl (lv_at hl 2 rfl) ?_
        refine lv_rep hqa ?_
        refine lv_imul hx hb dX6_order_43 ?_
        refine lv_rep (ix12' (jn a)) ?_
        refine lv_aload_n hx hb dX6_order_44 rfl (lv_at hl 1 rfl) ?_
        refine pgQ 6 4 9 (by decide) rfl (by decide) rfl rfl C w hi6 (by decide +kernel) dX6_order_45 (oM6 hM) (hS.2.2.2.1) ?_
        refine lv_bipush (v := 12) hx hb dX6_order_48 (by decide) ?_
        refine lv_iload_n hx hb dX6_order_50 rfl (lv_at hl 3 rfl) ?_
        refine lv_rep hqb ?_
        refine lv_imul hx hb dX6_order_51 ?_
        refine lv_rep (ix12' (jn b)) ?_
        refine lv_aload_n hx hb dX6_order_52 rfl (lv_at hl 1 rfl) ?_
        refine pgQ 6 3 8 (by decide) rfl (by decide) rfl rfl C w hi6 (by decide +kernel) dX6_order_53 (oM6 hM) (hS.2.2.1) ?_
        refine lv_iload_n hx hb dX6_order_56 rfl (lv_at hl 2 rfl) ?_
        refine lv_rep hqa ?_
        refine paI C w dX6_order_57 (oM8 hM (by decide)) rfl (nM82 hM) (by omega) (by decide) (v := nI (jn (sI S 8 2 (jn a)))) (nI_jn hzj.1) ?_
        refine cvI (n := 5) C w hl dX6_order_58 (c_X6_compare l G hM S 0 0 (12 * jn a) (12 * jn b) (jn (sI S 8 2 (jn a))) 732 732 (by decide) (by decide) (nM90 hM) (nM90 hM) (by omega) (by omega) (by decide) (by decide)) gX6_order_X6_compare rfl (by decide +kernel) rfl rfl (Nat.le_of_ble_eq_true rfl) ⟨by decide, by decide⟩ (by decide) rfl (oM6 hM) (fun v4 S4 H locs hp w => ?_)
        obtain ⟨q4, e0⟩ := hp
        rw [e0] at w
        refine lv_iadd hx hb dX6_order_61 ?_
        exact hret _ _ _ _ _ _ dX6_order_62 w (by unfold spOrder; rw [if_pos ⟨ha, hb2⟩]; first | (rw [if_pos (by rw [q3] at c_27; exact pairF_ge c_27)]; exact ⟨by rw [q4, Int32.add_comm], rfl⟩) | (rw [if_neg (by rw [q3] at c_27; exact pairF_lt c_27)]; exact ⟨q3, rfl⟩))
      · refine lv_iload_n hx hb dX6_order_30 rfl (lv_at hl 0 rfl) ?_
        refine lv_goto (tgt := 62) hx hb dX6_order_31 (by decide) ?_
        exact hret _ _ _ _ _ _ dX6_order_62 w (by unfold spOrder; rw [if_pos ⟨ha, hb2⟩]; first | (rw [if_pos (by rw [q3] at c_27; exact pairF_ge c_27)]; exact ⟨by rw [q4, Int32.add_comm], rfl⟩) | (rw [if_neg (by rw [q3] at c_27; exact pairF_lt c_27)]; exact ⟨q3, rfl⟩))
    · refine lv_bipush (v := (-2)) hx hb dX6_order_16 (by decide) ?_
      exact hret _ _ _ _ _ _ dX6_order_18 w (by unfold spOrder; rw [if_neg (fun q => by first | exact no_of q1 c_5 q.1 | exact no_of q2 c_13 q.2)]; exact ⟨rfl, rfl⟩)

set_option maxHeartbeats 4000000 in
set_option maxRecDepth 100000 in
/-- put -/
theorem c_X6_put (l : Launch) (G : GT) (hM : okM G) (S : PS) (hS : lkM S) (tl : Nat) (htl : sI S 6 0 13 = nI tl) (ht3 : tl ≤ 300) (c2 : Int32) : CtI l G yX6_put wsX6_put (rmK 1 25) [.ref (gA G 6 0), .int c2] S (fun v S2 => spPut tl c2 v (S2 = S) (S2 = uI (uI S 8 4 tl c2) 6 0 13 (nI (tl + 1)))) := by
  refine ofCtI (cc := cX6_put) (nL := 2) RX6 (by decide +kernel) rfl rfl (Nat.le_of_ble_eq_true rfl) ?_
  intro p e s m args below meth c A Q ls C w hl hret
  have hx := C.1
  have hb := C.2.1
  have hown := C.2.2.2.1
  have hts := C.2.2.2.2.1
  have hi6 : ∀ w ∈ wsX60, w ∈ wsX6_put := by decide +kernel
  refine lv_iload_n hx hb dX6_put_0 rfl (lv_at hl 1 rfl) ?_
  refine lv_i2l hx hb dX6_put_1 rfl ?_
  refine lv_lconst (v := 0) hx hb dX6_put_2 (by decide) ?_
  refine lv_ldc2 (v := (127)) hx hb hown (hts (.constantLong RX6 122 (127)) (by decide +kernel)) dX6_put_3 ?_
  refine csI (n := 3) C w hl dX6_put_6 (c_X6_in l G S _ _ _) gX6_put_X6_in rfl (by decide +kernel) rfl rfl (Nat.le_of_ble_eq_true rfl) ⟨by decide, by decide⟩ (fun v7 S7 H locs hp w => ?_)
  obtain ⟨q7, e0⟩ := hp
  rw [e0] at w
  replace q7 := imp_of (in_c (m := 128) rfl) q7
  refine lv_if_ne (tgt := 15) hx hb dX6_put_9 (by decide) (fun c_9 => ?_) (fun c_9 => ?_)
  · refine lv_aload_n hx hb dX6_put_15 rfl (lv_at hl 0 rfl) ?_
    refine pgI 6 13 (by decide) rfl (by decide) (Or.inl rfl) rfl C w hi6 (by decide +kernel) dX6_put_16 (oM6 hM) (v := nI tl) htl ?_
    refine lv_sipush (v := 300) hx hb dX6_put_19 (by decide) ?_
    refine lv_icmp_ne (tgt := 28) hx hb dX6_put_22 (by decide) (fun c_22 => ?_) (fun c_22 => ?_)
    · have hf : ¬ tl = 300 := fun q => c_22 (by rw [q]; rfl)
      refine lv_aload_n hx hb dX6_put_28 rfl (lv_at hl 0 rfl) ?_
      refine pgQ 6 14 8 (by decide) rfl (by decide) rfl rfl C w hi6 (by decide +kernel) dX6_put_29 (oM6 hM) (hS.2.2.2.2.2.2.2.1) ?_
      refine lv_aload_n hx hb dX6_put_32 rfl (lv_at hl 0 rfl) ?_
      refine pgI 6 13 (by decide) rfl (by decide) (Or.inl rfl) rfl C w hi6 (by decide +kernel) dX6_put_33 (oM6 hM) (v := nI tl) htl ?_
      refine lv_iload_n hx hb dX6_put_36 rfl (lv_at hl 1 rfl) ?_
      refine psI C w dX6_put_37 (oM8 hM (by decide)) rfl (nM84 hM) (by omega) (by decide) (fun H locs w => ?_)
      refine lv_aload_n hx hb dX6_put_38 rfl (lv_at hl 0 rfl) ?_
      refine lv_dup hx hb dX6_put_39 rfl ?_
      refine pgI 6 13 (by decide) rfl (by decide) (Or.inl rfl) rfl C w hi6 (by decide +kernel) dX6_put_40 (oM6 hM) (v := nI tl) (by rw [sI_uI, if_neg (by simp)]; exact htl) ?_
      refine lv_iconst (v := 1) hx hb dX6_put_43 (by decide) ?_
      refine lv_iadd hx hb dX6_put_44 ?_
      refine ppI 6 13 (by decide) rfl (by decide) rfl rfl tyX6_ok nmX6 rfl (by decide +kernel) C w hi6 (by decide +kernel) dX6_put_45 (oM6 hM) (fun H locs w => ?_)
      rw [nI_1] at w
      refine lv_aload_n hx hb dX6_put_48 rfl (lv_at hl 0 rfl) ?_
      refine pgI 6 13 (by decide) rfl (by decide) (Or.inl rfl) rfl C w hi6 (by decide +kernel) dX6_put_49 (oM6 hM) (v := nI (tl + 1)) (by rw [sI_uI, if_pos ⟨rfl, rfl, rfl⟩]) ?_
      exact hret _ _ _ _ _ _ dX6_put_52 w (by unfold spPut; rw [if_pos (yes_of q7 c_9), if_neg hf]; exact ⟨rfl, rfl⟩)
    · have hf : tl = 300 := (nI_eq (b := 300) (by omega) (by decide)).mp c_22
      refine lv_bipush (v := (-4)) hx hb dX6_put_25 (by decide) ?_
      exact hret _ _ _ _ _ _ dX6_put_27 w (by unfold spPut; rw [if_pos (yes_of q7 c_9), if_pos hf]; exact ⟨rfl, rfl⟩)
  · refine lv_bipush (v := (-3)) hx hb dX6_put_12 (by decide) ?_
    exact hret _ _ _ _ _ _ dX6_put_14 w (by unfold spPut; rw [if_neg (no_of q7 c_9)]; exact ⟨rfl, rfl⟩)

set_option maxHeartbeats 4000000 in
set_option maxRecDepth 100000 in
/-- out -/
theorem c_X6_out (l : Launch) (G : GT) (hM : okM G) (S : PS) (hS : lkM S) (pl : Nat) (hpl : sI S 6 0 15 = nI pl) (hp3 : pl ≤ 400) (i : Int32) : CtI l G yX6_out wsX6_out (rmK 1 25) [.ref (gA G 6 0), .int i] S (fun v S2 => spOut pl (sI S 8 5) i v (S2 = S)) := by
  refine ofCtI (cc := cX6_out) (nL := 2) RX6 (by decide +kernel) rfl rfl (Nat.le_of_ble_eq_true rfl) ?_
  intro p e s m args below meth c A Q ls C w hl hret
  have hx := C.1
  have hb := C.2.1
  have hown := C.2.2.2.1
  have hts := C.2.2.2.2.1
  have hi6 : ∀ w ∈ wsX60, w ∈ wsX6_out := by decide +kernel
  refine lv_iload_n hx hb dX6_out_0 rfl (lv_at hl 1 rfl) ?_
  refine lv_i2l hx hb dX6_out_1 rfl ?_
  refine lv_lconst (v := 0) hx hb dX6_out_2 (by decide) ?_
  refine lv_aload_n hx hb dX6_out_3 rfl (lv_at hl 0 rfl) ?_
  refine pgI 6 15 (by decide) rfl (by decide) (Or.inl rfl) rfl C w hi6 (by decide +kernel) dX6_out_4 (oM6 hM) (v := nI pl) hpl ?_
  refine lv_iconst (v := 1) hx hb dX6_out_7 (by decide) ?_
  refine lv_isub hx hb dX6_out_8 ?_
  refine lv_i2l hx hb dX6_out_9 rfl ?_
  refine csI (n := 3) C w hl dX6_out_10 (c_X6_in l G S _ _ _) gX6_out_X6_in rfl (by decide +kernel) rfl rfl (Nat.le_of_ble_eq_true rfl) ⟨by decide, by decide⟩ (fun v7 S7 H locs hp w => ?_)
  obtain ⟨q7, e0⟩ := hp
  rw [e0] at w
  replace q7 := imp_of (in_n (by omega)) q7
  refine lv_if_eq (tgt := 25) hx hb dX6_out_13 (by decide) (fun c_13 => ?_) (fun c_13 => ?_)
  · refine lv_iconst (v := (-1)) hx hb dX6_out_25 (by decide) ?_
    exact hret _ _ _ _ _ _ dX6_out_26 w (by unfold spOut; first | (rw [if_pos (yes_of q7 c_13)]; exact ⟨rfl, rfl⟩) | (rw [if_neg (no_of q7 c_13)]; exact ⟨rfl, rfl⟩))
  · have hin := yes_of q7 c_13
    have hj := jn_lt hin
    refine lv_aload_n hx hb dX6_out_16 rfl (lv_at hl 0 rfl) ?_
    refine pgQ 6 16 8 (by decide) rfl (by decide) rfl rfl C w hi6 (by decide +kernel) dX6_out_17 (oM6 hM) (hS.2.2.2.2.2.2.2.2.1) ?_
    refine lv_iload_n hx hb dX6_out_20 rfl (lv_at hl 1 rfl) ?_
    refine paI C w dX6_out_21 (oM8 hM (by decide)) (n := jn i) (jn_eq hin) (nM85 hM) (by omega) (by decide) rfl ?_
    refine lv_goto (tgt := 26) hx hb dX6_out_22 (by decide) ?_
    exact hret _ _ _ _ _ _ dX6_out_26 w (by unfold spOut; first | (rw [if_pos (yes_of q7 c_13)]; exact ⟨rfl, rfl⟩) | (rw [if_neg (no_of q7 c_13)]; exact ⟨rfl, rfl⟩))

set_option maxHeartbeats 4000000 in
set_option maxRecDepth 100000 in
/-- plan -/
theorem c_X6_plan (l : Launch) (G : GT) (hM : okM G) (S : PS) (hS : lkM S) (n : Nat) (hn : sI S 6 0 0 = nI n) (hn60 : n ≤ 60) (nr : Nat) (hnr : sI S 6 0 8 = nI nr) (a : Int32) : CtI l G yX6_plan wsX6_plan (rmK 2 46) [.ref (gA G 6 0), .int a] S (fun v S2 => spPlan n nr (sI S 8 0) a v (S2 = S) (S2 = uI (uI (uI (uI (uI S 6 0 5 (sI S 8 0 (jn a))) 6 0 6 (sI S 8 1 (jn a))) 6 0 7 (sI S 8 2 (jn a))) 6 0 8 0) 6 0 11 0)) := by
  refine ofCtI (cc := cX6_plan) (nL := 3) RX6 (by decide +kernel) rfl rfl (Nat.le_of_ble_eq_true rfl) ?_
  intro p e s m args below meth c A Q ls C w hl hret
  have hx := C.1
  have hb := C.2.1
  have hown := C.2.2.2.1
  have hts := C.2.2.2.2.1
  have hi6 : ∀ w ∈ wsX60, w ∈ wsX6_plan := by decide +kernel
  refine lv_aload_n hx hb dX6_plan_0 rfl (lv_at hl 0 rfl) ?_
  refine lv_iload_n hx hb dX6_plan_1 rfl (lv_at hl 1 rfl) ?_
  refine cvI (n := 1) C w hl dX6_plan_2 (c_X6_isNumber l G hM S n hn hn60 a) gX6_plan_X6_isNumber rfl (by decide +kernel) rfl rfl (Nat.le_of_ble_eq_true rfl) ⟨by decide, by decide⟩ (by decide) rfl (oM6 hM) (fun v1 S9 H locs hp w => ?_)
  obtain ⟨q1, e0⟩ := hp
  rw [e0] at w
  refine lv_if_ne (tgt := 11) hx hb dX6_plan_5 (by decide) (fun c_5 => ?_) (fun c_5 => ?_)
  · have ha := yes_of q1 c_5
    have hja := jn_lt ha
    have hqa : a = nI (jn a) := jn_eq ha
    refine lv_aload_n hx hb dX6_plan_11 rfl (lv_at hl 0 rfl) ?_
    refine lv_iload_n hx hb dX6_plan_12 rfl (lv_at hl 1 rfl) ?_
    refine lv_rep hqa ?_
    refine cvI (n := 1) C w hl dX6_plan_13 (c_X6_isNothing l G hM S hS (jn a) (by omega)) gX6_plan_X6_isNothing rfl (by decide +kernel) rfl rfl (Nat.le_of_ble_eq_true rfl) ⟨by decide, by decide⟩ (by decide) rfl (oM6 hM) (fun v2 S2 H locs hp w => ?_)
    obtain ⟨q2, e0⟩ := hp
    rw [e0] at w
    refine lv_if_eq (tgt := 22) hx hb dX6_plan_16 (by decide) (fun c_16 => ?_) (fun c_16 => ?_)
    · refine lv_aload_n hx hb dX6_plan_22 rfl (lv_at hl 0 rfl) ?_
      refine pgI 6 8 (by decide) rfl (by decide) (Or.inl rfl) rfl C w hi6 (by decide +kernel) dX6_plan_23 (oM6 hM) (v := nI nr) hnr ?_
      refine lv_istore_n hx hb dX6_plan_26 rfl hl (by decide) rfl (fun ls hl => ?_)
      refine lv_aload_n hx hb dX6_plan_27 rfl (lv_at hl 1 rfl) ?_
      refine lv_aload_n hx hb dX6_plan_28 rfl (lv_at hl 1 rfl) ?_
      refine pgQ 6 1 8 (by decide) rfl (by decide) rfl rfl C w hi6 (by decide +kernel) dX6_plan_29 (oM6 hM) (hS.1) ?_
      refine lv_iload_n hx hb dX6_plan_32 rfl (lv_at hl 2 rfl) ?_
      refine lv_rep hqa ?_
      refine paI C w dX6_plan_33 (oM8 hM (by decide)) rfl (nM80 hM) (by omega) (by decide) rfl ?_
      refine ppI 6 5 (by decide) rfl (by decide) rfl rfl tyX6_ok nmX6 rfl (by decide +kernel) C w hi6 (by decide +kernel) dX6_plan_34 (oM6 hM) (fun H locs w => ?_)
      refine lv_aload_n hx hb dX6_plan_37 rfl (lv_at hl 1 rfl) ?_
      refine lv_aload_n hx hb dX6_plan_38 rfl (lv_at hl 1 rfl) ?_
      refine pgQ 6 2 8 (by decide) rfl (by decide) rfl rfl C w hi6 (by decide +kernel) dX6_plan_39 (oM6 hM) (hS.2.1) ?_
      refine lv_iload_n hx hb dX6_plan_42 rfl (lv_at hl 2 rfl) ?_
      refine lv_rep hqa ?_
      refine paI C w dX6_plan_43 (oM8 hM (by decide)) rfl (nM81 hM) (by omega) (by decide) (v := sI S 8 1 (jn a)) (by rw [sI_uI, if_neg (by simp)]) ?_
      refine ppI 6 6 (by decide) rfl (by decide) rfl rfl tyX6_ok nmX6 rfl (by decide +kernel) C w hi6 (by decide +kernel) dX6_plan_44 (oM6 hM) (fun H locs w => ?_)
      refine lv_aload_n hx hb dX6_plan_47 rfl (lv_at hl 1 rfl) ?_
      refine lv_aload_n hx hb dX6_plan_48 rfl (lv_at hl 1 rfl) ?_
      refine pgQ 6 3 8 (by decide) rfl (by decide) rfl rfl C w hi6 (by decide +kernel) dX6_plan_49 (oM6 hM) (hS.2.2.1) ?_
      refine lv_iload_n hx hb dX6_plan_52 rfl (lv_at hl 2 rfl) ?_
      refine lv_rep hqa ?_
      refine paI C w dX6_plan_53 (oM8 hM (by decide)) rfl (nM82 hM) (by omega) (by decide) (v := sI S 8 2 (jn a)) (by rw [sI_uI, if_neg (by simp), sI_uI, if_neg (by simp)]) ?_
      refine ppI 6 7 (by decide) rfl (by decide) rfl rfl tyX6_ok nmX6 rfl (by decide +kernel) C w hi6 (by decide +kernel) dX6_plan_54 (oM6 hM) (fun H locs w => ?_)
      refine lv_aload_n hx hb dX6_plan_57 rfl (lv_at hl 1 rfl) ?_
      refine lv_iconst (v := 0) hx hb dX6_plan_58 (by decide) ?_
      refine ppI 6 8 (by decide) rfl (by decide) rfl rfl tyX6_ok nmX6 rfl (by decide +kernel) C w hi6 (by decide +kernel) dX6_plan_59 (oM6 hM) (fun H locs w => ?_)
      refine lv_aload_n hx hb dX6_plan_62 rfl (lv_at hl 1 rfl) ?_
      refine lv_iconst (v := 0) hx hb dX6_plan_63 (by decide) ?_
      refine ppI 6 11 (by decide) rfl (by decide) rfl rfl tyX6_ok nmX6 rfl (by decide +kernel) C w hi6 (by decide +kernel) dX6_plan_64 (oM6 hM) (fun H locs w => ?_)
      refine lv_iload_n hx hb dX6_plan_67 rfl (lv_at hl 0 rfl) ?_
      exact hret _ _ _ _ _ _ dX6_plan_68 w (by unfold spPlan; rw [if_pos ha, if_neg (no_of q2 c_16)]; exact ⟨rfl, rfl⟩)
    · refine lv_bipush (v := (-11)) hx hb dX6_plan_19 (by decide) ?_
      exact hret _ _ _ _ _ _ dX6_plan_21 w (by unfold spPlan; rw [if_pos ha, if_pos (yes_of q2 c_16)]; exact ⟨rfl, rfl⟩)
  · refine lv_bipush (v := (-2)) hx hb dX6_plan_8 (by decide) ?_
    exact hret _ _ _ _ _ _ dX6_plan_10 w (by unfold spPlan; rw [if_neg (no_of q1 c_5)]; exact ⟨rfl, rfl⟩)

set_option maxHeartbeats 4000000 in
set_option maxRecDepth 100000 in
/-- drop -/
theorem c_X6_drop (l : Launch) (G : GT) (hM : okM G) (S : PS) (n : Nat) (hn : sI S 6 0 0 = nI n) (hn60 : n ≤ 60) : CtI l G yX6_drop wsX6_drop (rmK 0 0) [.ref (gA G 6 0)] S (fun v S2 => spDrop n v (S2 = S) (S2 = uI S 6 0 0 (nI (n - 1)))) := by
  refine ofCtI (cc := cX6_drop) (nL := 1) RX6 (by decide +kernel) rfl rfl (Nat.le_of_ble_eq_true rfl) ?_
  intro p e s m args below meth c A Q ls C w hl hret
  have hx := C.1
  have hb := C.2.1
  have hown := C.2.2.2.1
  have hts := C.2.2.2.2.1
  have hi6 : ∀ w ∈ wsX60, w ∈ wsX6_drop := by decide +kernel
  refine lv_aload_n hx hb dX6_drop_0 rfl (lv_at hl 0 rfl) ?_
  refine pgI 6 0 (by decide) rfl (by decide) (Or.inl rfl) rfl C w hi6 (by decide +kernel) dX6_drop_1 (oM6 hM) (v := nI n) hn ?_
  refine lv_if_ne (tgt := 10) hx hb dX6_drop_4 (by decide) (fun c_4 => ?_) (fun c_4 => ?_)
  · have h0 : ¬ n = 0 := fun q => c_4 (by rw [q]; rfl)
    refine lv_aload_n hx hb dX6_drop_10 rfl (lv_at hl 0 rfl) ?_
    refine lv_dup hx hb dX6_drop_11 rfl ?_
    refine pgI 6 0 (by decide) rfl (by decide) (Or.inl rfl) rfl C w hi6 (by decide +kernel) dX6_drop_12 (oM6 hM) (v := nI n) hn ?_
    refine lv_iconst (v := 1) hx hb dX6_drop_15 (by decide) ?_
    refine lv_isub hx hb dX6_drop_16 ?_
    refine ppI 6 0 (by decide) rfl (by decide) rfl rfl tyX6_ok nmX6 rfl (by decide +kernel) C w hi6 (by decide +kernel) dX6_drop_17 (oM6 hM) (fun H locs w => ?_)
    rw [nI_sub1 (by omega)] at w
    refine lv_aload_n hx hb dX6_drop_20 rfl (lv_at hl 0 rfl) ?_
    refine pgI 6 0 (by decide) rfl (by decide) (Or.inl rfl) rfl C w hi6 (by decide +kernel) dX6_drop_21 (oM6 hM) (v := nI (n - 1)) (by rw [sI_uI, if_pos ⟨rfl, rfl, rfl⟩]) ?_
    exact hret _ _ _ _ _ _ dX6_drop_24 w (by unfold spDrop; rw [if_neg h0]; exact ⟨rfl, rfl⟩)
  · have h0 : n = 0 := by have := (nI_eq (a := n) (b := 0) (by omega) (by decide)).mp c_4; omega
    refine lv_bipush (v := (-2)) hx hb dX6_drop_7 (by decide) ?_
    exact hret _ _ _ _ _ _ dX6_drop_9 w (by unfold spDrop; rw [if_pos h0]; exact ⟨rfl, rfl⟩)

set_option maxHeartbeats 4000000 in
set_option maxRecDepth 100000 in
/-- many -/
theorem c_X6_many (l : Launch) (G : GT) (hM : okM G) (S : PS) (n nr nh tl pl : Nat) (hn : sI S 6 0 0 = nI n) (hnr : sI S 6 0 8 = nI nr) (hnh : sI S 6 0 11 = nI nh) (htl : sI S 6 0 13 = nI tl) (hpl : sI S 6 0 15 = nI pl) (i : Int32) : CtI l G yX6_many wsX6_many (rmK 0 0) [.ref (gA G 6 0), .int i] S (fun v S2 => spMany n nr nh tl pl i v (S2 = S)) := by
  refine ofCtI (cc := cX6_many) (nL := 2) RX6 (by decide +kernel) rfl rfl (Nat.le_of_ble_eq_true rfl) ?_
  intro p e s m args below meth c A Q ls C w hl hret
  have hx := C.1
  have hb := C.2.1
  have hown := C.2.2.2.1
  have hts := C.2.2.2.2.1
  have hi6 : ∀ w ∈ wsX60, w ∈ wsX6_many := by decide +kernel
  refine lv_iload_n hx hb dX6_many_0 rfl (lv_at hl 1 rfl) ?_
  rcases sw5 i with hs_1 | hs_1 | hs_1 | hs_1 | hs_1 | hs_1
  · refine lv_tableIn (tgt := 36) (off := 35) hx hb dX6_many_1 (by rw [hs_1]; decide) (by rw [hs_1]; decide) (by rw [hs_1]; rfl) (by decide) ?_
    refine lv_aload_n hx hb dX6_many_36 rfl (lv_at hl 0 rfl) ?_
    refine pgI 6 0 (by decide) rfl (by decide) (Or.inl rfl) rfl C w hi6 (by decide +kernel) dX6_many_37 (oM6 hM) (v := nI n) hn ?_
    exact hret _ _ _ _ _ _ dX6_many_40 w (by unfold spMany; rw [if_pos hs_1]; exact ⟨rfl, rfl⟩)
  · refine lv_tableIn (tgt := 41) (off := 40) hx hb dX6_many_1 (by rw [hs_1]; decide) (by rw [hs_1]; decide) (by rw [hs_1]; rfl) (by decide) ?_
    refine lv_aload_n hx hb dX6_many_41 rfl (lv_at hl 0 rfl) ?_
    refine pgI 6 8 (by decide) rfl (by decide) (Or.inl rfl) rfl C w hi6 (by decide +kernel) dX6_many_42 (oM6 hM) (v := nI nr) hnr ?_
    exact hret _ _ _ _ _ _ dX6_many_45 w (by unfold spMany; rw [if_neg (by rw [hs_1]; decide), if_pos hs_1]; exact ⟨rfl, rfl⟩)
  · refine lv_tableIn (tgt := 46) (off := 45) hx hb dX6_many_1 (by rw [hs_1]; decide) (by rw [hs_1]; decide) (by rw [hs_1]; rfl) (by decide) ?_
    refine lv_aload_n hx hb dX6_many_46 rfl (lv_at hl 0 rfl) ?_
    refine pgI 6 11 (by decide) rfl (by decide) (Or.inl rfl) rfl C w hi6 (by decide +kernel) dX6_many_47 (oM6 hM) (v := nI nh) hnh ?_
    exact hret _ _ _ _ _ _ dX6_many_50 w (by unfold spMany; rw [if_neg (by rw [hs_1]; decide), if_neg (by rw [hs_1]; decide), if_pos hs_1]; exact ⟨rfl, rfl⟩)
  · refine lv_tableIn (tgt := 51) (off := 50) hx hb dX6_many_1 (by rw [hs_1]; decide) (by rw [hs_1]; decide) (by rw [hs_1]; rfl) (by decide) ?_
    refine lv_aload_n hx hb dX6_many_51 rfl (lv_at hl 0 rfl) ?_
    refine pgI 6 13 (by decide) rfl (by decide) (Or.inl rfl) rfl C w hi6 (by decide +kernel) dX6_many_52 (oM6 hM) (v := nI tl) htl ?_
    exact hret _ _ _ _ _ _ dX6_many_55 w (by unfold spMany; rw [if_neg (by rw [hs_1]; decide), if_neg (by rw [hs_1]; decide), if_neg (by rw [hs_1]; decide), if_pos hs_1]; exact ⟨rfl, rfl⟩)
  · refine lv_tableIn (tgt := 56) (off := 55) hx hb dX6_many_1 (by rw [hs_1]; decide) (by rw [hs_1]; decide) (by rw [hs_1]; rfl) (by decide) ?_
    refine lv_aload_n hx hb dX6_many_56 rfl (lv_at hl 0 rfl) ?_
    refine pgI 6 15 (by decide) rfl (by decide) (Or.inl rfl) rfl C w hi6 (by decide +kernel) dX6_many_57 (oM6 hM) (v := nI pl) hpl ?_
    exact hret _ _ _ _ _ _ dX6_many_60 w (by unfold spMany; rw [if_neg (by rw [hs_1]; decide), if_neg (by rw [hs_1]; decide), if_neg (by rw [hs_1]; decide), if_neg (by rw [hs_1]; decide), if_pos hs_1]; exact ⟨rfl, rfl⟩)
  · refine lv_tableOut (tgt := 61) hx hb dX6_many_1 hs_1 (by decide) ?_
    refine lv_bipush (v := (-3)) hx hb dX6_many_61 (by decide) ?_
    exact hret _ _ _ _ _ _ dX6_many_63 w (by unfold spMany; rw [if_neg (by intro e; rw [e] at hs_1; revert hs_1; decide), if_neg (by intro e; rw [e] at hs_1; revert hs_1; decide), if_neg (by intro e; rw [e] at hs_1; revert hs_1; decide), if_neg (by intro e; rw [e] at hs_1; revert hs_1; decide), if_neg (by intro e; rw [e] at hs_1; revert hs_1; decide)]; exact ⟨rfl, rfl⟩)

set_option maxHeartbeats 4000000 in
set_option maxRecDepth 100000 in
/-- kept -/
theorem c_X6_kept (l : Launch) (G : GT) (hM : okM G) (S : PS) (hS : lkM S) (n : Nat) (hn : sI S 6 0 0 = nI n) (hn60 : n ≤ 60) (nh z : Nat) (hh : sI S 6 0 11 = nI nh) (hh5 : nh ≤ 5) (hz : sI S 6 0 7 = nI z) (hz12 : z ≤ 12) (i : Int32) : CtI l G yX6_kept wsX6_kept (rmK 1 25) [.ref (gA G 6 0), .int i] S (fun v S2 => spKept n nh i v (S2 = S) (fun j => nwM S S2 n (sI S 6 0 5) (sI S 6 0 6) z (fun k => sJ S 9 2 (12 * j + k)))) := by
  refine ofCtI (cc := cX6_kept) (nL := 3) RX6 (by decide +kernel) rfl rfl (Nat.le_of_ble_eq_true rfl) ?_
  intro p e s m args below meth c A Q ls C w hl hret
  have hx := C.1
  have hb := C.2.1
  have hown := C.2.2.2.1
  have hts := C.2.2.2.2.1
  have hi6 : ∀ w ∈ wsX60, w ∈ wsX6_kept := by decide +kernel
  refine lv_iload_n hx hb dX6_kept_0 rfl (lv_at hl 1 rfl) ?_
  refine lv_i2l hx hb dX6_kept_1 rfl ?_
  refine lv_lconst (v := 0) hx hb dX6_kept_2 (by decide) ?_
  refine lv_aload_n hx hb dX6_kept_3 rfl (lv_at hl 0 rfl) ?_
  refine pgI 6 11 (by decide) rfl (by decide) (Or.inl rfl) rfl C w hi6 (by decide +kernel) dX6_kept_4 (oM6 hM) (v := nI nh) hh ?_
  refine lv_iconst (v := 1) hx hb dX6_kept_7 (by decide) ?_
  refine lv_isub hx hb dX6_kept_8 ?_
  refine lv_i2l hx hb dX6_kept_9 rfl ?_
  refine csI (n := 3) C w hl dX6_kept_10 (c_X6_in l G S _ _ _) gX6_kept_X6_in rfl (by decide +kernel) rfl rfl (Nat.le_of_ble_eq_true rfl) ⟨by decide, by decide⟩ (fun v7 S7 H locs hp w => ?_)
  obtain ⟨q7, e0⟩ := hp
  rw [e0] at w
  replace q7 := imp_of (in_n (by omega)) q7
  refine lv_if_ne (tgt := 19) hx hb dX6_kept_13 (by decide) (fun c_13 => ?_) (fun c_13 => ?_)
  · have hi := yes_of q7 c_13
    have hji := jn_lt hi
    have hqi : i = nI (jn i) := jn_eq hi
    refine lv_aload_n hx hb dX6_kept_19 rfl (lv_at hl 0 rfl) ?_
    refine pgI 6 0 (by decide) rfl (by decide) (Or.inl rfl) rfl C w hi6 (by decide +kernel) dX6_kept_20 (oM6 hM) (v := nI n) hn ?_
    refine lv_bipush (v := 60) hx hb dX6_kept_23 (by decide) ?_
    refine lv_icmp_ne (tgt := 31) hx hb dX6_kept_25 (by decide) (fun c_25 => ?_) (fun c_25 => ?_)
    · have hnf : ¬ n = 60 := fun q => c_25 (by rw [q]; rfl)
      refine lv_aload_n hx hb dX6_kept_31 rfl (lv_at hl 0 rfl) ?_
      refine lv_aload_n hx hb dX6_kept_32 rfl (lv_at hl 0 rfl) ?_
      refine pgI 6 5 (by decide) rfl (by decide) (Or.inl rfl) rfl C w hi6 (by decide +kernel) dX6_kept_33 (oM6 hM) rfl ?_
      refine lv_aload_n hx hb dX6_kept_36 rfl (lv_at hl 0 rfl) ?_
      refine pgI 6 6 (by decide) rfl (by decide) (Or.inl rfl) rfl C w hi6 (by decide +kernel) dX6_kept_37 (oM6 hM) rfl ?_
      refine lv_aload_n hx hb dX6_kept_40 rfl (lv_at hl 0 rfl) ?_
      refine pgI 6 7 (by decide) rfl (by decide) (Or.inl rfl) rfl C w hi6 (by decide +kernel) dX6_kept_41 (oM6 hM) rfl ?_
      refine cvV (n := 3) C w hl dX6_kept_44 (c_X6_lay l G hM S hS n hn hn60 _ _ _) gX6_kept_X6_lay rfl (by decide +kernel) rfl rfl (Nat.le_of_ble_eq_true rfl) ⟨by decide, by decide⟩ (by decide) rfl (oM6 hM) (fun S3 H locs hp w => ?_)
      have hE := eqM_layM S n (sI S 6 0 5) (sI S 6 0 6) (sI S 6 0 7)
      subst hp
      refine lv_iconst (v := 0) hx hb dX6_kept_47 (by decide) ?_
      refine lv_istore_n hx hb dX6_kept_48 rfl hl (by decide) rfl (fun ls hl => ?_)
      have loop_49 : ∀ (n2 : Nat) (k : Nat) (H : Heap) (locs : List Loc) (ls : Array Slot), k + n2 = 12 → Wd G A s.heap (rko (layM S n (sI S 6 0 5) (sI S 6 0 6) (sI S 6 0 7)) 0 (12 * n) (fun k => sJ S 9 2 (12 * jn i + k)) (sJ (layM S n (sI S 6 0 5) (sI S 6 0 6) (sI S 6 0 7)) 9 0) k) H locs → lv_has ls 3 [(0, .ref (gA G 6 0)), (1, .int i), (2, .int (nI k))] → W p l e (rmK 1 25) s m args below meth c H locs 0 0 Q (F0 m 49 ls []) := by
        intro n2
        induction n2 with
        | zero =>
          intro k H locs ls hk w hl
          refine lv_iload_n hx hb dX6_kept_49 rfl (lv_at hl 2 rfl) ?_
          refine lv_bipush (v := 12) hx hb dX6_kept_50 (by decide) ?_
          refine lv_icmp_ge (tgt := 86) hx hb dX6_kept_52 (by decide) (fun c_52 => ?_) (fun c_52 => absurd (nI_le (a := 12) (by omega) (by omega)) c_52)
          have e : k = 12 := by omega
          subst e
          have hz3 : sI (layM S n (sI S 6 0 5) (sI S 6 0 6) (sI S 6 0 7)) 8 2 n = nI z := by
            unfold layM; rw [sI_rko, sI_lh2]; exact hz
          refine lv_aload_n hx hb dX6_kept_86 rfl (lv_at hl 0 rfl) ?_
          refine cvI (n := 0) C w hl dX6_kept_87 (c_X6_keepScore l G hM _ n (by rw [sI_rko, hE.n 0 (by decide)]; exact hn) hn60) gX6_kept_X6_keepScore rfl (by decide +kernel) rfl rfl (Nat.le_of_ble_eq_true rfl) ⟨by decide, by decide⟩ (by decide) rfl (oM6 hM) (fun v5 S5 H locs hp w => ?_)
          obtain ⟨e5, e6⟩ := hp
          rw [e6] at w
          exact hret _ _ _ _ _ _ dX6_kept_90 w (by unfold spKept; rw [if_pos hi, if_neg hnf]; exact ⟨e5, hsM.nw ⟨hE.tr (eqM_rko (by omega) (fun _ => rfl)), sI_lh0 S n (sI S 6 0 5) (sI S 6 0 6) (sI S 6 0 7), sI_lh1 S n (sI S 6 0 5) (sI S 6 0 6) (sI S 6 0 7), hz3, fun k hk => sJ_rko_in (by omega)⟩ hn⟩)
        | succ n2 ih =>
          intro k H locs ls hk w hl
          refine lv_iload_n hx hb dX6_kept_49 rfl (lv_at hl 2 rfl) ?_
          refine lv_bipush (v := 12) hx hb dX6_kept_50 (by decide) ?_
          refine lv_icmp_ge (tgt := 86) hx hb dX6_kept_52 (by decide) (fun c_52 => absurd c_52 (nI_ge (b := 12) (by omega) (by omega))) (fun c_52 => ?_)
          refine lv_aload_n hx hb dX6_kept_55 rfl (lv_at hl 0 rfl) ?_
          refine pgQ 6 4 9 (by decide) rfl (by decide) rfl rfl C w hi6 (by decide +kernel) dX6_kept_56 (oM6 hM) (hS.2.2.2.1) ?_
          refine lv_bipush (v := 12) hx hb dX6_kept_59 (by decide) ?_
          refine lv_aload_n hx hb dX6_kept_61 rfl (lv_at hl 0 rfl) ?_
          refine pgI 6 0 (by decide) rfl (by decide) (Or.inl rfl) rfl C w hi6 (by decide +kernel) dX6_kept_62 (oM6 hM) (v := nI n) (by rw [sI_rko, hE.n 0 (by decide)]; exact hn) ?_
          refine lv_imul hx hb dX6_kept_65 ?_
          refine lv_iload_n hx hb dX6_kept_66 rfl (lv_at hl 2 rfl) ?_
          refine lv_iadd hx hb dX6_kept_67 ?_
          refine lv_aload_n hx hb dX6_kept_68 rfl (lv_at hl 0 rfl) ?_
          refine pgQ 6 12 9 (by decide) rfl (by decide) rfl rfl C w hi6 (by decide +kernel) dX6_kept_69 (oM6 hM) (hS.2.2.2.2.2.2.1) ?_
          refine lv_bipush (v := 12) hx hb dX6_kept_72 (by decide) ?_
          refine lv_iload_n hx hb dX6_kept_74 rfl (lv_at hl 1 rfl) ?_
          refine lv_rep hqi ?_
          refine lv_imul hx hb dX6_kept_75 ?_
          refine lv_iload_n hx hb dX6_kept_76 rfl (lv_at hl 2 rfl) ?_
          refine lv_iadd hx hb dX6_kept_77 ?_
          refine paJ C w dX6_kept_78 (oM9 hM (by decide)) (n := 12 * jn i + k) (ix12 _ _) (nM92 hM) (by omega) (by decide) (v := sJ S 9 2 (12 * jn i + k)) (by rw [sJ_rko_n (by simp)]; exact hE.2.2 9 2 _ (by unfold jkJ; simp)) ?_
          refine psJ C w dX6_kept_79 (oM9 hM (by decide)) (n := 12 * n + k) (ix12 _ _) (nM90 hM) (by omega) (by decide) (fun H locs w => ?_)
          refine lv_iinc (v := nI (k + 1)) hx hb dX6_kept_80 hl (k := 2) rfl (nI_1 k) (by decide) rfl (fun ls hl => ?_)
          refine lv_goto (tgt := 49) hx hb dX6_kept_83 (by decide) ?_
          rw [rko_s rfl] at w
          exact ih (k + 1) _ _ _ (by omega) w (lv_sub hl [1, 2, 0] rfl)
      exact loop_49 12 0 _ _ _ (by omega) (by rw [rko_0 (fun _ => rfl)]; exact w) (lv_sub hl [1, 2, 0] rfl)
    · have hnf : n = 60 := (nI_eq (b := 60) (by omega) (by decide)).mp c_25
      refine lv_bipush (v := (-4)) hx hb dX6_kept_28 (by decide) ?_
      exact hret _ _ _ _ _ _ dX6_kept_30 w (by unfold spKept; rw [if_pos hi, if_pos hnf]; exact ⟨rfl, rfl⟩)
  · refine lv_bipush (v := (-2)) hx hb dX6_kept_16 (by decide) ?_
    exact hret _ _ _ _ _ _ dX6_kept_18 w (by unfold spKept; rw [if_neg (no_of q7 c_13)]; exact ⟨rfl, rfl⟩)
