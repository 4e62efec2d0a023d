/-- the kept from place x on move up by one block, m blocks then -/
def shf (S : PS) (m x : Nat) : PS := rw9 S 2 (fun j => if x ≤ j ∧ j < 12 * m then sJ S 9 2 (j - 12) else sJ S 9 2 j)
theorem shf_0 (S : PS) (m : Nat) : shf S m (12 * m) = S := by
  unfold shf
  rw [rw9_eq (g := fun k => sJ S 9 2 k), rw9_self]
  intro k; rw [if_neg (by omega)]
theorem shf_s {S : PS} {m y : Nat} (hy : y < 12 * m) : uJ (shf S m (y + 1)) 9 2 y (sJ S 9 2 (y - 12)) = shf S m y := by
  unfold shf
  rw [uJ_rw9]
  refine rw9_eq fun j => ?_
  by_cases h : j = y
  · subst h; rw [if_pos rfl, if_pos (by omega)]
  · rw [if_neg h]
    by_cases h2 : y + 1 ≤ j ∧ j < 12 * m
    · rw [if_pos h2, if_pos (by omega)]
    · rw [if_neg h2, if_neg (by omega)]
theorem sJ_shf_n {S : PS} {m x c' r' j : Nat} (h : ¬ (c' = 9 ∧ r' = 2)) : sJ (shf S m x) c' r' j = sJ S c' r' j := by unfold shf; rw [sJ_rw9, if_neg h]
theorem sJ_shf (S : PS) (m x j : Nat) : sJ (shf S m x) 9 2 j = if x ≤ j ∧ j < 12 * m then sJ S 9 2 (j - 12) else sJ S 9 2 j := by unfold shf; rw [sJ_rw9_s]
/-- a score laid among the kept of the reference -/
def kpS (S : PS) (m p a : Nat) : PS := rko (shf (uI S 6 0 11 (nI m)) m (12 * (p + 1))) 2 (12 * p) (fun k => sJ S 9 0 (12 * a + k)) (sJ (shf (uI S 6 0 11 (nI m)) m (12 * (p + 1))) 9 2) 12

set_option maxHeartbeats 4000000 in
set_option maxRecDepth 100000 in
/-- keep -/
theorem c_X6_keep (l : Launch) (G : GT) (hM : okM G) (S : PS) (hS : lkM S) (n : Nat) (hn : sI S 6 0 0 = nI n) (hn60 : n ≤ 60)(nh z : Nat) (hh : sI S 6 0 11 = nI nh) (hh5 : nh ≤ 5) (hz : sI S 6 0 7 = nI z) (hz12 : z ≤ 12) (hps : ¬ sI S 6 0 5 = -1) (a : Int32) : CtI l G yX6_keep wsX6_keep (rmK 2 46) [.ref (gA G 6 0), .int a] S (fun v S2 => spKeep n (sI S 8 0) (sI S 8 1) (sI S 8 2) (sI S 6 0 5) (sI S 6 0 6) (sI S 6 0 7) (plc (fun j => cmpG (fun k => sJ S 9 2 (12 * j + k)) (fun k => sJ S 9 0 (12 * jn a + k)) z 0) nh 0) a v (S2 = S) (fun p => ∃ m, m = (if nh < 5 then nh + 1 else 5) ∧ S2 = kpS S m p (jn a))) := by
  refine ofCtI (cc := cX6_keep) (nL := 4) RX6 (by decide +kernel) rfl rfl (Nat.le_of_ble_eq_true rfl) ?_
  intro p e s m args below meth c A Q ls C w hl hret
  have hx := C.1
  have hb := C.2.1
  have hown := C.2.2.2.1
  have hts := C.2.2.2.2.1
  have hi6 : ∀ w ∈ wsX60, w ∈ wsX6_keep := by decide +kernel
  refine lv_aload_n hx hb dX6_keep_0 rfl (lv_at hl 0 rfl) ?_
  refine lv_iload_n hx hb dX6_keep_1 rfl (lv_at hl 1 rfl) ?_
  refine cvI (n := 1) C w hl dX6_keep_2 (c_X6_isNumber l G hM S n hn hn60 a) gX6_keep_X6_isNumber rfl (by decide +kernel) rfl rfl (Nat.le_of_ble_eq_true rfl) ⟨by decide, by decide⟩ (by decide) rfl (oM6 hM) (fun v1 S9 H locs hp w => ?_)
  obtain ⟨q1, e0⟩ := hp
  rw [e0] at w
  refine lv_if_ne (tgt := 11) hx hb dX6_keep_5 (by decide) (fun c_5 => ?_) (fun c_5 => ?_)
  · have ha := yes_of q1 c_5
    have hja := jn_lt ha
    have hqa : a = nI (jn a) := jn_eq ha
    have hpp := pairP (a := jn a) hps
    refine lv_aload_n hx hb dX6_keep_11 rfl (lv_at hl 0 rfl) ?_
    refine lv_iload_n hx hb dX6_keep_12 rfl (lv_at hl 1 rfl) ?_
    refine lv_rep hqa ?_
    refine cvI (n := 1) C w hl dX6_keep_13 (c_X6_isNothing l G hM S hS (jn a) (by omega)) gX6_keep_X6_isNothing rfl (by decide +kernel) rfl rfl (Nat.le_of_ble_eq_true rfl) ⟨by decide, by decide⟩ (by decide) rfl (oM6 hM) (fun v2 S2 H locs hp w => ?_)
    obtain ⟨q2, e0⟩ := hp
    rw [e0] at w
    refine lv_if_eq (tgt := 22) hx hb dX6_keep_16 (by decide) (fun c_16 => ?_) (fun c_16 => ?_)
    · refine lv_aload_n hx hb dX6_keep_22 rfl (lv_at hl 0 rfl) ?_
      refine lv_iload_n hx hb dX6_keep_23 rfl (lv_at hl 1 rfl) ?_
      refine lv_rep hqa ?_
      refine cvI (n := 1) C w hl dX6_keep_24 (c_X6_isLikePlan l G hM S hS (jn a) (by omega)) gX6_keep_X6_isLikePlan rfl (by decide +kernel) rfl rfl (Nat.le_of_ble_eq_true rfl) ⟨by decide, by decide⟩ (by decide) rfl (oM6 hM) (fun v3 S3 H locs hp w => ?_)
      obtain ⟨q3, e0⟩ := hp
      rw [e0] at w
      refine lv_if_ne (tgt := 33) hx hb dX6_keep_27 (by decide) (fun c_27 => ?_) (fun c_27 => ?_)
      · have hp0 := hpp.2.1 (no_of q2 c_16) (yes_of q3 c_27)
        refine lv_iconst (v := 0) hx hb dX6_keep_33 (by decide) ?_
        refine lv_istore_n hx hb dX6_keep_34 rfl hl (by decide) rfl (fun ls hl => ?_)
        have loop_35 : ∀ (n2 : Nat) (k : Nat) (H : Heap) (locs : List Loc) (ls : Array Slot), k + n2 = nh → plc (fun j => cmpG (fun k => sJ S 9 2 (12 * j + k)) (fun k => sJ S 9 0 (12 * jn a + k)) z 0) nh 0 = plc (fun j => cmpG (fun k => sJ S 9 2 (12 * j + k)) (fun k => sJ S 9 0 (12 * jn a + k)) z 0) n2 k → Wd G A s.heap S H locs → lv_has ls 4 [(0, .ref (gA G 6 0)), (1, .int a), (2, .int (nI k))] → W p l e (rmK 2 46) s m args below meth c H locs 0 0 Q (F0 m 35 ls []) := by
          intro n2
          induction n2 with
          | zero =>
            intro k H locs ls hk hI w hl
            refine lv_iload_n hx hb dX6_keep_35 rfl (lv_at hl 2 rfl) ?_
            refine lv_aload_n hx hb dX6_keep_36 rfl (lv_at hl 0 rfl) ?_
            refine pgI 6 11 (by decide) rfl (by decide) (Or.inl rfl) rfl C w hi6 (by decide +kernel) dX6_keep_37 (oM6 hM) (v := nI nh) hh ?_
            refine lv_icmp_ge (tgt := 76) hx hb dX6_keep_40 (by decide) (fun c_40 => ?_) (fun c_40 => absurd (nI_le (by omega) (by omega)) c_40)
            have hpk : plc (fun j => cmpG (fun k => sJ S 9 2 (12 * j + k)) (fun k => sJ S 9 0 (12 * jn a + k)) z 0) nh 0 = k := hI
            have h5 : k ≤ nh := by omega
            refine lv_iload_n hx hb dX6_keep_76 rfl (lv_at hl 2 rfl) ?_
            refine lv_iconst (v := 5) hx hb dX6_keep_77 (by decide) ?_
            refine lv_icmp_ne (tgt := 83) hx hb dX6_keep_78 (by decide) (fun c_78 => ?_) (fun c_78 => ?_)
            · have hk5 : k < 5 := by have : ¬ k = 5 := fun q => c_78 (by rw [q]; rfl); omega
              have join_102 : ∀ (mm : Nat) (H : Heap) (locs : List Loc) (ls : Array Slot), (mm = if nh < 5 then nh + 1 else 5) → Wd G A s.heap S H locs → lv_has ls 4 [(0, .ref (gA G 6 0)), (1, .int a), (2, .int (nI k))] → W p l e (rmK 2 46) s m args below meth c H locs 0 0 Q (F0 m 102 ls [.int (nI mm), .ref (gA G 6 0)]) := by
                intro mm H locs ls em w hl
                have hkm : k < mm := by rw [em]; split <;> omega
                have hm5 : mm ≤ 5 := by rw [em]; split <;> omega
                refine ppI 6 11 (by decide) rfl (by decide) rfl rfl tyX6_ok nmX6 rfl (by decide +kernel) C w hi6 (by decide +kernel) dX6_keep_102 (oM6 hM) (fun H locs w => ?_)
                refine lv_bipush (v := 12) hx hb dX6_keep_105 (by decide) ?_
                refine lv_aload_n hx hb dX6_keep_107 rfl (lv_at hl 0 rfl) ?_
                refine pgI 6 11 (by decide) rfl (by decide) (Or.inl rfl) rfl C w hi6 (by decide +kernel) dX6_keep_108 (oM6 hM) (v := nI mm) (by rw [sI_uI, if_pos ⟨rfl, rfl, rfl⟩]) ?_
                refine lv_imul hx hb dX6_keep_111 ?_
                refine lv_rep (ix12' mm) ?_
                refine lv_iconst (v := 1) hx hb dX6_keep_112 (by decide) ?_
                refine lv_isub hx hb dX6_keep_113 ?_
                refine lv_rep (nI_sub1 (show 0 < 12 * mm by omega)) ?_
                refine lv_istore_n hx hb dX6_keep_114 rfl hl (by decide) rfl (fun ls hl => ?_)
                have loop_115 : ∀ (n3 : Nat) (y : Nat) (H : Heap) (locs : List Loc) (ls : Array Slot), y + 1 = 12 * (k + 1) + n3 → y < 12 * mm → Wd G A s.heap (shf (uI S 6 0 11 (nI mm)) mm (y + 1)) H locs → lv_has ls 4 [(0, .ref (gA G 6 0)), (1, .int a), (2, .int (nI k)), (3, .int (nI y))] → W p l e (rmK 2 46) s m args below meth c H locs 0 0 Q (F0 m 115 ls []) := by
                  intro n3
                  induction n3 with
                  | zero =>
                    intro y H locs ls hy hym w hl
                    refine lv_iload_n hx hb dX6_keep_115 rfl (lv_at hl 3 rfl) ?_
                    refine lv_bipush (v := 12) hx hb dX6_keep_116 (by decide) ?_
                    refine lv_iload_n hx hb dX6_keep_118 rfl (lv_at hl 2 rfl) ?_
                    refine lv_iconst (v := 1) hx hb dX6_keep_119 (by decide) ?_
                    refine lv_iadd hx hb dX6_keep_120 ?_
                    refine lv_rep (nI_1 k) ?_
                    refine lv_imul hx hb dX6_keep_121 ?_
                    refine lv_rep (ix12' (k + 1)) ?_
                    refine lv_icmp_lt (tgt := 146) hx hb dX6_keep_122 (by decide) (fun c_122 => ?_) (fun c_122 => absurd (nI_lt (by omega) (by omega)) c_122)
                    have ey : y + 1 = 12 * (k + 1) := by omega
                    rw [ey] at w
                    refine lv_iconst (v := 0) hx hb dX6_keep_146 (by decide) ?_
                    refine lv_istore_n hx hb dX6_keep_147 rfl hl (by decide) rfl (fun ls hl => ?_)
                    have loop_148 : ∀ (n4 : Nat) (x : Nat) (H : Heap) (locs : List Loc) (ls : Array Slot), x + n4 = 12 → Wd G A s.heap (rko (shf (uI S 6 0 11 (nI mm)) mm (12 * (k + 1))) 2 (12 * k) (fun x => sJ S 9 0 (12 * jn a + x)) (sJ (shf (uI S 6 0 11 (nI mm)) mm (12 * (k + 1))) 9 2) x) H locs → lv_has ls 4 [(0, .ref (gA G 6 0)), (1, .int a), (2, .int (nI k)), (3, .int (nI x))] → W p l e (rmK 2 46) s m args below meth c H locs 0 0 Q (F0 m 148 ls []) := by
                      intro n4
                      induction n4 with
                      | zero =>
                        intro x H locs ls hx4 w hl
                        refine lv_iload_n hx hb dX6_keep_148 rfl (lv_at hl 3 rfl) ?_
                        refine lv_bipush (v := 12) hx hb dX6_keep_149 (by decide) ?_
                        refine lv_icmp_ge (tgt := 182) hx hb dX6_keep_151 (by decide) (fun c_151 => ?_) (fun c_151 => absurd (nI_le (a := 12) (by omega) (by omega)) c_151)
                        have ex : x = 12 := by omega
                        subst ex
                        refine lv_iload_n hx hb dX6_keep_182 rfl (lv_at hl 2 rfl) ?_
                        exact hret _ _ _ _ _ _ dX6_keep_183 w (by unfold spKeep; rw [if_pos ha, if_pos hp0, if_neg (by rw [hpk]; omega), hpk]; exact ⟨rfl, mm, em, rfl⟩)
                      | succ n4 ih4 =>
                        intro x H locs ls hx4 w hl
                        refine lv_iload_n hx hb dX6_keep_148 rfl (lv_at hl 3 rfl) ?_
                        refine lv_bipush (v := 12) hx hb dX6_keep_149 (by decide) ?_
                        refine lv_icmp_ge (tgt := 182) hx hb dX6_keep_151 (by decide) (fun c_151 => absurd c_151 (nI_ge (b := 12) (by omega) (by omega))) (fun c_151 => ?_)
                        refine lv_aload_n hx hb dX6_keep_154 rfl (lv_at hl 0 rfl) ?_
                        refine pgQ 6 12 9 (by decide) rfl (by decide) rfl rfl C w hi6 (by decide +kernel) dX6_keep_155 (oM6 hM) (hS.2.2.2.2.2.2.1) ?_
                        refine lv_bipush (v := 12) hx hb dX6_keep_158 (by decide) ?_
                        refine lv_iload_n hx hb dX6_keep_160 rfl (lv_at hl 2 rfl) ?_
                        refine lv_imul hx hb dX6_keep_161 ?_
                        refine lv_iload_n hx hb dX6_keep_162 rfl (lv_at hl 3 rfl) ?_
                        refine lv_iadd hx hb dX6_keep_163 ?_
                        refine lv_aload_n hx hb dX6_keep_164 rfl (lv_at hl 0 rfl) ?_
                        refine pgQ 6 4 9 (by decide) rfl (by decide) rfl rfl C w hi6 (by decide +kernel) dX6_keep_165 (oM6 hM) (hS.2.2.2.1) ?_
                        refine lv_bipush (v := 12) hx hb dX6_keep_168 (by decide) ?_
                        refine lv_iload_n hx hb dX6_keep_170 rfl (lv_at hl 1 rfl) ?_
                        refine lv_rep hqa ?_
                        refine lv_imul hx hb dX6_keep_171 ?_
                        refine lv_iload_n hx hb dX6_keep_172 rfl (lv_at hl 3 rfl) ?_
                        refine lv_iadd hx hb dX6_keep_173 ?_
                        refine paJ C w dX6_keep_174 (oM9 hM (by decide)) (n := 12 * jn a + x) (ix12 _ _) (nM90 hM) (by omega) (by decide) (v := sJ S 9 0 (12 * jn a + x)) (by rw [sJ_rko_n (by simp), sJ_shf_n (by simp)]; rfl) ?_
                        refine psJ C w dX6_keep_175 (oM9 hM (by decide)) (n := 12 * k + x) (ix12 _ _) (nM92 hM) (by omega) (by decide) (fun H locs w => ?_)
                        refine lv_iinc (v := nI (x + 1)) hx hb dX6_keep_176 hl (k := 3) rfl (nI_1 x) (by decide) rfl (fun ls hl => ?_)
                        refine lv_goto (tgt := 148) hx hb dX6_keep_179 (by decide) ?_
                        rw [rko_s rfl] at w
                        exact ih4 (x + 1) _ _ _ (by omega) w (lv_sub hl [1, 2, 3, 0] rfl)
                    exact loop_148 12 0 _ _ _ (by omega) (by rw [rko_0 (fun _ => rfl)]; exact w) (lv_sub hl [1, 2, 3, 0] rfl)
                  | succ n3 ih3 =>
                    intro y H locs ls hy hym w hl
                    refine lv_iload_n hx hb dX6_keep_115 rfl (lv_at hl 3 rfl) ?_
                    refine lv_bipush (v := 12) hx hb dX6_keep_116 (by decide) ?_
                    refine lv_iload_n hx hb dX6_keep_118 rfl (lv_at hl 2 rfl) ?_
                    refine lv_iconst (v := 1) hx hb dX6_keep_119 (by decide) ?_
                    refine lv_iadd hx hb dX6_keep_120 ?_
                    refine lv_rep (nI_1 k) ?_
                    refine lv_imul hx hb dX6_keep_121 ?_
                    refine lv_rep (ix12' (k + 1)) ?_
                    refine lv_icmp_lt (tgt := 146) hx hb dX6_keep_122 (by decide) (fun c_122 => absurd c_122 (nI_nlt (by omega) (by omega))) (fun c_122 => ?_)
                    refine lv_aload_n hx hb dX6_keep_125 rfl (lv_at hl 0 rfl) ?_
                    refine pgQ 6 12 9 (by decide) rfl (by decide) rfl rfl C w hi6 (by decide +kernel) dX6_keep_126 (oM6 hM) (hS.2.2.2.2.2.2.1) ?_
                    refine lv_iload_n hx hb dX6_keep_129 rfl (lv_at hl 3 rfl) ?_
                    refine lv_aload_n hx hb dX6_keep_130 rfl (lv_at hl 0 rfl) ?_
                    refine pgQ 6 12 9 (by decide) rfl (by decide) rfl rfl C w hi6 (by decide +kernel) dX6_keep_131 (oM6 hM) (hS.2.2.2.2.2.2.1) ?_
                    refine lv_iload_n hx hb dX6_keep_134 rfl (lv_at hl 3 rfl) ?_
                    refine lv_bipush (v := 12) hx hb dX6_keep_135 (by decide) ?_
                    refine lv_isub hx hb dX6_keep_137 ?_
                    refine lv_rep (pk_sub (b := 12) (show 12 ≤ y by omega)) ?_
                    refine paJ C w dX6_keep_138 (oM9 hM (by decide)) (n := y - 12) rfl (nM92 hM) (by omega) (by decide) (v := sJ (uI S 6 0 11 (nI mm)) 9 2 (y - 12)) (by rw [sJ_shf, if_neg (by omega)]) ?_
                    refine psJ C w dX6_keep_139 (oM9 hM (by decide)) rfl (nM92 hM) (by omega) (by decide) (fun H locs w => ?_)
                    refine lv_iinc (v := nI (y - 1)) hx hb dX6_keep_140 hl (k := 3) rfl (by have := pk_m1 (y - 1); rwa [show y - 1 + 1 = y by omega] at this) (by decide) rfl (fun ls hl => ?_)
                    refine lv_goto (tgt := 115) hx hb dX6_keep_143 (by decide) ?_
                    rw [shf_s hym] at w
                    obtain ⟨y, rfl⟩ : ∃ x, y = x + 1 := ⟨y - 1, by omega⟩
                    exact ih3 y _ _ _ (by omega) (by omega) w (lv_sub hl [1, 2, 3, 0] rfl)
                exact loop_115 (12 * mm - 12 * (k + 1)) (12 * mm - 1) _ _ _ (by omega) (by omega) (by rw [show 12 * mm - 1 + 1 = 12 * mm by omega, shf_0]; exact w) (lv_sub hl [1, 2, 3, 0] rfl)
              refine lv_aload_n hx hb dX6_keep_83 rfl (lv_at hl 0 rfl) ?_
              refine lv_aload_n hx hb dX6_keep_84 rfl (lv_at hl 0 rfl) ?_
              refine pgI 6 11 (by decide) rfl (by decide) (Or.inl rfl) rfl C w hi6 (by decide +kernel) dX6_keep_85 (oM6 hM) (v := nI nh) hh ?_
              refine lv_iconst (v := 5) hx hb dX6_keep_88 (by decide) ?_
              refine lv_icmp_ge (tgt := 101) hx hb dX6_keep_89 (by decide) (fun c_89 => ?_) (fun c_89 => ?_)
              · refine lv_iconst (v := 5) hx hb dX6_keep_101 (by decide) ?_
                refine lv_rep (show (5 : Int32) = nI 5 from rfl) ?_
                first
                  | exact join_102 5 _ _ _ (by rw [if_neg (by intro q; exact absurd c_89 (nI_ge q (by decide)))]) w (lv_sub hl [0, 1, 2] rfl)
                  | exact join_102 (nh + 1) _ _ _ (by rw [if_pos (by apply Nat.lt_of_not_le; intro q; exact c_89 (nI_le (a := 5) q (by omega)))]) w (lv_sub hl [0, 1, 2] rfl)
              · refine lv_aload_n hx hb dX6_keep_92 rfl (lv_at hl 0 rfl) ?_
                refine pgI 6 11 (by decide) rfl (by decide) (Or.inl rfl) rfl C w hi6 (by decide +kernel) dX6_keep_93 (oM6 hM) (v := nI nh) hh ?_
                refine lv_iconst (v := 1) hx hb dX6_keep_96 (by decide) ?_
                refine lv_iadd hx hb dX6_keep_97 ?_
                refine lv_rep (nI_1 nh) ?_
                refine lv_goto (tgt := 102) hx hb dX6_keep_98 (by decide) ?_
                first
                  | exact join_102 5 _ _ _ (by rw [if_neg (by intro q; exact absurd c_89 (nI_ge q (by decide)))]) w (lv_sub hl [0, 1, 2] rfl)
                  | exact join_102 (nh + 1) _ _ _ (by rw [if_pos (by apply Nat.lt_of_not_le; intro q; exact c_89 (nI_le (a := 5) q (by omega)))]) w (lv_sub hl [0, 1, 2] rfl)
            · refine lv_iconst (v := (-1)) hx hb dX6_keep_81 (by decide) ?_
              exact hret _ _ _ _ _ _ dX6_keep_82 w (by have e5 : k = 5 := (nI_eq (b := 5) (by omega) (by decide)).mp c_78; unfold spKeep; rw [if_pos ha, if_pos hp0, if_pos (hpk.trans e5)]; exact ⟨rfl, rfl⟩)
          | succ n2 ih =>
            intro k H locs ls hk hI w hl
            refine lv_iload_n hx hb dX6_keep_35 rfl (lv_at hl 2 rfl) ?_
            refine lv_aload_n hx hb dX6_keep_36 rfl (lv_at hl 0 rfl) ?_
            refine pgI 6 11 (by decide) rfl (by decide) (Or.inl rfl) rfl C w hi6 (by decide +kernel) dX6_keep_37 (oM6 hM) (v := nI nh) hh ?_
            refine lv_icmp_ge (tgt := 76) hx hb dX6_keep_40 (by decide) (fun c_40 => absurd c_40 (nI_ge (by omega) (by omega))) (fun c_40 => ?_)
            refine lv_aload_n hx hb dX6_keep_43 rfl (lv_at hl 0 rfl) ?_
            refine lv_aload_n hx hb dX6_keep_44 rfl (lv_at hl 0 rfl) ?_
            refine pgQ 6 12 9 (by decide) rfl (by decide) rfl rfl C w hi6 (by decide +kernel) dX6_keep_45 (oM6 hM) (hS.2.2.2.2.2.2.1) ?_
            refine lv_bipush (v := 12) hx hb dX6_keep_48 (by decide) ?_
            refine lv_iload_n hx hb dX6_keep_50 rfl (lv_at hl 2 rfl) ?_
            refine lv_imul hx hb dX6_keep_51 ?_
            refine lv_rep (ix12' k) ?_
            refine lv_aload_n hx hb dX6_keep_52 rfl (lv_at hl 0 rfl) ?_
            refine pgQ 6 4 9 (by decide) rfl (by decide) rfl rfl C w hi6 (by decide +kernel) dX6_keep_53 (oM6 hM) (hS.2.2.2.1) ?_
            refine lv_bipush (v := 12) hx hb dX6_keep_56 (by decide) ?_
            refine lv_iload_n hx hb dX6_keep_58 rfl (lv_at hl 1 rfl) ?_
            refine lv_rep hqa ?_
            refine lv_imul hx hb dX6_keep_59 ?_
            refine lv_rep (ix12' (jn a)) ?_
            refine lv_aload_n hx hb dX6_keep_60 rfl (lv_at hl 0 rfl) ?_
            refine pgI 6 7 (by decide) rfl (by decide) (Or.inl rfl) rfl C w hi6 (by decide +kernel) dX6_keep_61 (oM6 hM) (v := nI z) hz ?_
            refine cvI (n := 5) C w hl dX6_keep_64 (c_X6_compare l G hM S 2 0 (12 * k) (12 * jn a) z 72 732 (by decide) (by decide) (nM92 hM) (nM90 hM) (by omega) (by omega) (by decide) (by decide)) gX6_keep_X6_compare rfl (by decide +kernel) rfl rfl (Nat.le_of_ble_eq_true rfl) ⟨by decide, by decide⟩ (by decide) rfl (oM6 hM) (fun v4 S4 H locs hp w => ?_)
            obtain ⟨q4, e0⟩ := hp
            rw [e0] at w
            rw [q4]
            refine lv_if_lt (tgt := 76) hx hb dX6_keep_67 (by decide) (fun c_67 => ?_) (fun c_67 => ?_)
            · have hpk : plc (fun j => cmpG (fun k => sJ S 9 2 (12 * j + k)) (fun k => sJ S 9 0 (12 * jn a + k)) z 0) nh 0 = k := by rw [hI, plc, if_pos c_67]
              have h5 : k ≤ nh := by omega
              refine lv_iload_n hx hb dX6_keep_76 rfl (lv_at hl 2 rfl) ?_
              refine lv_iconst (v := 5) hx hb dX6_keep_77 (by decide) ?_
              refine lv_icmp_ne (tgt := 83) hx hb dX6_keep_78 (by decide) (fun c_78 => ?_) (fun c_78 => ?_)
              · have hk5 : k < 5 := by have : ¬ k = 5 := fun q => c_78 (by rw [q]; rfl); omega
                have join_102 : ∀ (mm : Nat) (H : Heap) (locs : List Loc) (ls : Array Slot), (mm = if nh < 5 then nh + 1 else 5) → Wd G A s.heap S H locs → lv_has ls 4 [(0, .ref (gA G 6 0)), (1, .int a), (2, .int (nI k))] → W p l e (rmK 2 46) s m args below meth c H locs 0 0 Q (F0 m 102 ls [.int (nI mm), .ref (gA G 6 0)]) := by
                  intro mm H locs ls em w hl
                  have hkm : k < mm := by rw [em]; split <;> omega
                  have hm5 : mm ≤ 5 := by rw [em]; split <;> omega
                  refine ppI 6 11 (by decide) rfl (by decide) rfl rfl tyX6_ok nmX6 rfl (by decide +kernel) C w hi6 (by decide +kernel) dX6_keep_102 (oM6 hM) (fun H locs w => ?_)
                  refine lv_bipush (v := 12) hx hb dX6_keep_105 (by decide) ?_
                  refine lv_aload_n hx hb dX6_keep_107 rfl (lv_at hl 0 rfl) ?_
                  refine pgI 6 11 (by decide) rfl (by decide) (Or.inl rfl) rfl C w hi6 (by decide +kernel) dX6_keep_108 (oM6 hM) (v := nI mm) (by rw [sI_uI, if_pos ⟨rfl, rfl, rfl⟩]) ?_
                  refine lv_imul hx hb dX6_keep_111 ?_
                  refine lv_rep (ix12' mm) ?_
                  refine lv_iconst (v := 1) hx hb dX6_keep_112 (by decide) ?_
                  refine lv_isub hx hb dX6_keep_113 ?_
                  refine lv_rep (nI_sub1 (show 0 < 12 * mm by omega)) ?_
                  refine lv_istore_n hx hb dX6_keep_114 rfl hl (by decide) rfl (fun ls hl => ?_)
                  have loop_115 : ∀ (n3 : Nat) (y : Nat) (H : Heap) (locs : List Loc) (ls : Array Slot), y + 1 = 12 * (k + 1) + n3 → y < 12 * mm → Wd G A s.heap (shf (uI S 6 0 11 (nI mm)) mm (y + 1)) H locs → lv_has ls 4 [(0, .ref (gA G 6 0)), (1, .int a), (2, .int (nI k)), (3, .int (nI y))] → W p l e (rmK 2 46) s m args below meth c H locs 0 0 Q (F0 m 115 ls []) := by
                    intro n3
                    induction n3 with
                    | zero =>
                      intro y H locs ls hy hym w hl
                      refine lv_iload_n hx hb dX6_keep_115 rfl (lv_at hl 3 rfl) ?_
                      refine lv_bipush (v := 12) hx hb dX6_keep_116 (by decide) ?_
                      refine lv_iload_n hx hb dX6_keep_118 rfl (lv_at hl 2 rfl) ?_
                      refine lv_iconst (v := 1) hx hb dX6_keep_119 (by decide) ?_
                      refine lv_iadd hx hb dX6_keep_120 ?_
                      refine lv_rep (nI_1 k) ?_
                      refine lv_imul hx hb dX6_keep_121 ?_
                      refine lv_rep (ix12' (k + 1)) ?_
                      refine lv_icmp_lt (tgt := 146) hx hb dX6_keep_122 (by decide) (fun c_122 => ?_) (fun c_122 => absurd (nI_lt (by omega) (by omega)) c_122)
                      have ey : y + 1 = 12 * (k + 1) := by omega
                      rw [ey] at w
                      refine lv_iconst (v := 0) hx hb dX6_keep_146 (by decide) ?_
                      refine lv_istore_n hx hb dX6_keep_147 rfl hl (by decide) rfl (fun ls hl => ?_)
                      have loop_148 : ∀ (n4 : Nat) (x : Nat) (H : Heap) (locs : List Loc) (ls : Array Slot), x + n4 = 12 → Wd G A s.heap (rko (shf (uI S 6 0 11 (nI mm)) mm (12 * (k + 1))) 2 (12 * k) (fun x => sJ S 9 0 (12 * jn a + x)) (sJ (shf (uI S 6 0 11 (nI mm)) mm (12 * (k + 1))) 9 2) x) H locs → lv_has ls 4 [(0, .ref (gA G 6 0)), (1, .int a), (2, .int (nI k)), (3, .int (nI x))] → W p l e (rmK 2 46) s m args below meth c H locs 0 0 Q (F0 m 148 ls []) := by
                        intro n4
                        induction n4 with
                        | zero =>
                          intro x H locs ls hx4 w hl
                          refine lv_iload_n hx hb dX6_keep_148 rfl (lv_at hl 3 rfl) ?_
                          refine lv_bipush (v := 12) hx hb dX6_keep_149 (by decide) ?_
                          refine lv_icmp_ge (tgt := 182) hx hb dX6_keep_151 (by decide) (fun c_151 => ?_) (fun c_151 => absurd (nI_le (a := 12) (by omega) (by omega)) c_151)
                          have ex : x = 12 := by omega
                          subst ex
                          refine lv_iload_n hx hb dX6_keep_182 rfl (lv_at hl 2 rfl) ?_
                          exact hret _ _ _ _ _ _ dX6_keep_183 w (by unfold spKeep; rw [if_pos ha, if_pos hp0, if_neg (by rw [hpk]; omega), hpk]; exact ⟨rfl, mm, em, rfl⟩)
                        | succ n4 ih4 =>
                          intro x H locs ls hx4 w hl
                          refine lv_iload_n hx hb dX6_keep_148 rfl (lv_at hl 3 rfl) ?_
                          refine lv_bipush (v := 12) hx hb dX6_keep_149 (by decide) ?_
                          refine lv_icmp_ge (tgt := 182) hx hb dX6_keep_151 (by decide) (fun c_151 => absurd c_151 (nI_ge (b := 12) (by omega) (by omega))) (fun c_151 => ?_)
                          refine lv_aload_n hx hb dX6_keep_154 rfl (lv_at hl 0 rfl) ?_
                          refine pgQ 6 12 9 (by decide) rfl (by decide) rfl rfl C w hi6 (by decide +kernel) dX6_keep_155 (oM6 hM) (hS.2.2.2.2.2.2.1) ?_
                          refine lv_bipush (v := 12) hx hb dX6_keep_158 (by decide) ?_
                          refine lv_iload_n hx hb dX6_keep_160 rfl (lv_at hl 2 rfl) ?_
                          refine lv_imul hx hb dX6_keep_161 ?_
                          refine lv_iload_n hx hb dX6_keep_162 rfl (lv_at hl 3 rfl) ?_
                          refine lv_iadd hx hb dX6_keep_163 ?_
                          refine lv_aload_n hx hb dX6_keep_164 rfl (lv_at hl 0 rfl) ?_
                          refine pgQ 6 4 9 (by decide) rfl (by decide) rfl rfl C w hi6 (by decide +kernel) dX6_keep_165 (oM6 hM) (hS.2.2.2.1) ?_
                          refine lv_bipush (v := 12) hx hb dX6_keep_168 (by decide) ?_
                          refine lv_iload_n hx hb dX6_keep_170 rfl (lv_at hl 1 rfl) ?_
                          refine lv_rep hqa ?_
                          refine lv_imul hx hb dX6_keep_171 ?_
                          refine lv_iload_n hx hb dX6_keep_172 rfl (lv_at hl 3 rfl) ?_
                          refine lv_iadd hx hb dX6_keep_173 ?_
                          refine paJ C w dX6_keep_174 (oM9 hM (by decide)) (n := 12 * jn a + x) (ix12 _ _) (nM90 hM) (by omega) (by decide) (v := sJ S 9 0 (12 * jn a + x)) (by rw [sJ_rko_n (by simp), sJ_shf_n (by simp)]; rfl) ?_
                          refine psJ C w dX6_keep_175 (oM9 hM (by decide)) (n := 12 * k + x) (ix12 _ _) (nM92 hM) (by omega) (by decide) (fun H locs w => ?_)
                          refine lv_iinc (v := nI (x + 1)) hx hb dX6_keep_176 hl (k := 3) rfl (nI_1 x) (by decide) rfl (fun ls hl => ?_)
                          refine lv_goto (tgt := 148) hx hb dX6_keep_179 (by decide) ?_
                          rw [rko_s rfl] at w
                          exact ih4 (x + 1) _ _ _ (by omega) w (lv_sub hl [1, 2, 3, 0] rfl)
                      exact loop_148 12 0 _ _ _ (by omega) (by rw [rko_0 (fun _ => rfl)]; exact w) (lv_sub hl [1, 2, 3, 0] rfl)
                    | succ n3 ih3 =>
                      intro y H locs ls hy hym w hl
                      refine lv_iload_n hx hb dX6_keep_115 rfl (lv_at hl 3 rfl) ?_
                      refine lv_bipush (v := 12) hx hb dX6_keep_116 (by decide) ?_
                      refine lv_iload_n hx hb dX6_keep_118 rfl (lv_at hl 2 rfl) ?_
                      refine lv_iconst (v := 1) hx hb dX6_keep_119 (by decide) ?_
                      refine lv_iadd hx hb dX6_keep_120 ?_
                      refine lv_rep (nI_1 k) ?_
                      refine lv_imul hx hb dX6_keep_121 ?_
                      refine lv_rep (ix12' (k + 1)) ?_
                      refine lv_icmp_lt (tgt := 146) hx hb dX6_keep_122 (by decide) (fun c_122 => absurd c_122 (nI_nlt (by omega) (by omega))) (fun c_122 => ?_)
                      refine lv_aload_n hx hb dX6_keep_125 rfl (lv_at hl 0 rfl) ?_
                      refine pgQ 6 12 9 (by decide) rfl (by decide) rfl rfl C w hi6 (by decide +kernel) dX6_keep_126 (oM6 hM) (hS.2.2.2.2.2.2.1) ?_
                      refine lv_iload_n hx hb dX6_keep_129 rfl (lv_at hl 3 rfl) ?_
                      refine lv_aload_n hx hb dX6_keep_130 rfl (lv_at hl 0 rfl) ?_
                      refine pgQ 6 12 9 (by decide) rfl (by decide) rfl rfl C w hi6 (by decide +kernel) dX6_keep_131 (oM6 hM) (hS.2.2.2.2.2.2.1) ?_
                      refine lv_iload_n hx hb dX6_keep_134 rfl (lv_at hl 3 rfl) ?_
                      refine lv_bipush (v := 12) hx hb dX6_keep_135 (by decide) ?_
                      refine lv_isub hx hb dX6_keep_137 ?_
                      refine lv_rep (pk_sub (b := 12) (show 12 ≤ y by omega)) ?_
                      refine paJ C w dX6_keep_138 (oM9 hM (by decide)) (n := y - 12) rfl (nM92 hM) (by omega) (by decide) (v := sJ (uI S 6 0 11 (nI mm)) 9 2 (y - 12)) (by rw [sJ_shf, if_neg (by omega)]) ?_
                      refine psJ C w dX6_keep_139 (oM9 hM (by decide)) rfl (nM92 hM) (by omega) (by decide) (fun H locs w => ?_)
                      refine lv_iinc (v := nI (y - 1)) hx hb dX6_keep_140 hl (k := 3) rfl (by have := pk_m1 (y - 1); rwa [show y - 1 + 1 = y by omega] at this) (by decide) rfl (fun ls hl => ?_)
                      refine lv_goto (tgt := 115) hx hb dX6_keep_143 (by decide) ?_
                      rw [shf_s hym] at w
                      obtain ⟨y, rfl⟩ : ∃ x, y = x + 1 := ⟨y - 1, by omega⟩
                      exact ih3 y _ _ _ (by omega) (by omega) w (lv_sub hl [1, 2, 3, 0] rfl)
                  exact loop_115 (12 * mm - 12 * (k + 1)) (12 * mm - 1) _ _ _ (by omega) (by omega) (by rw [show 12 * mm - 1 + 1 = 12 * mm by omega, shf_0]; exact w) (lv_sub hl [1, 2, 3, 0] rfl)
                refine lv_aload_n hx hb dX6_keep_83 rfl (lv_at hl 0 rfl) ?_
                refine lv_aload_n hx hb dX6_keep_84 rfl (lv_at hl 0 rfl) ?_
                refine pgI 6 11 (by decide) rfl (by decide) (Or.inl rfl) rfl C w hi6 (by decide +kernel) dX6_keep_85 (oM6 hM) (v := nI nh) hh ?_
                refine lv_iconst (v := 5) hx hb dX6_keep_88 (by decide) ?_
                refine lv_icmp_ge (tgt := 101) hx hb dX6_keep_89 (by decide) (fun c_89 => ?_) (fun c_89 => ?_)
                · refine lv_iconst (v := 5) hx hb dX6_keep_101 (by decide) ?_
                  refine lv_rep (show (5 : Int32) = nI 5 from rfl) ?_
                  first
                    | exact join_102 5 _ _ _ (by rw [if_neg (by intro q; exact absurd c_89 (nI_ge q (by decide)))]) w (lv_sub hl [0, 1, 2] rfl)
                    | exact join_102 (nh + 1) _ _ _ (by rw [if_pos (by apply Nat.lt_of_not_le; intro q; exact c_89 (nI_le (a := 5) q (by omega)))]) w (lv_sub hl [0, 1, 2] rfl)
                · refine lv_aload_n hx hb dX6_keep_92 rfl (lv_at hl 0 rfl) ?_
                  refine pgI 6 11 (by decide) rfl (by decide) (Or.inl rfl) rfl C w hi6 (by decide +kernel) dX6_keep_93 (oM6 hM) (v := nI nh) hh ?_
                  refine lv_iconst (v := 1) hx hb dX6_keep_96 (by decide) ?_
                  refine lv_iadd hx hb dX6_keep_97 ?_
                  refine lv_rep (nI_1 nh) ?_
                  refine lv_goto (tgt := 102) hx hb dX6_keep_98 (by decide) ?_
                  first
                    | exact join_102 5 _ _ _ (by rw [if_neg (by intro q; exact absurd c_89 (nI_ge q (by decide)))]) w (lv_sub hl [0, 1, 2] rfl)
                    | exact join_102 (nh + 1) _ _ _ (by rw [if_pos (by apply Nat.lt_of_not_le; intro q; exact c_89 (nI_le (a := 5) q (by omega)))]) w (lv_sub hl [0, 1, 2] rfl)
              · refine lv_iconst (v := (-1)) hx hb dX6_keep_81 (by decide) ?_
                exact hret _ _ _ _ _ _ dX6_keep_82 w (by have e5 : k = 5 := (nI_eq (b := 5) (by omega) (by decide)).mp c_78; unfold spKeep; rw [if_pos ha, if_pos hp0, if_pos (hpk.trans e5)]; exact ⟨rfl, rfl⟩)
            · refine lv_iinc (v := nI (k + 1)) hx hb dX6_keep_70 hl (k := 2) rfl (nI_1 k) (by decide) rfl (fun ls hl => ?_)
              refine lv_goto (tgt := 35) hx hb dX6_keep_73 (by decide) ?_
              exact ih (k + 1) _ _ _ (by omega) (by rw [hI, plc, if_neg c_67]) w (lv_sub hl [1, 2, 0] rfl)
        exact loop_35 nh 0 _ _ _ (by omega) rfl w (lv_sub hl [1, 2, 0] rfl)
      · refine lv_bipush (v := (-12)) hx hb dX6_keep_30 (by decide) ?_
        exact hret _ _ _ _ _ _ dX6_keep_32 w (by unfold spKeep; rw [if_pos ha, hpp.2.2 (no_of q2 c_16) (no_of q3 c_27), if_neg (by decide)]; exact ⟨rfl, rfl⟩)
    · refine lv_bipush (v := (-11)) hx hb dX6_keep_19 (by decide) ?_
      exact hret _ _ _ _ _ _ dX6_keep_21 w (by unfold spKeep; rw [if_pos ha, hpp.1 (yes_of q2 c_16), if_neg (by decide)]; exact ⟨rfl, rfl⟩)
  · refine lv_bipush (v := (-2)) hx hb dX6_keep_8 (by decide) ?_
    exact hret _ _ _ _ _ _ dX6_keep_10 w (by unfold spKeep; rw [if_neg (no_of q1 c_5)]; exact ⟨rfl, rfl⟩)
