theorem fl_ge {x y : Int64} (hy : 0 < y.toInt) (c : 0 ≤ x - x / y * y) : (x - x / y * y).toInt = x.toInt % y.toInt ∧ (x / y).toInt = x.toInt / y.toInt := by
  have hf := tdiv_facts x.toInt hy
  have a3 := i64_hi y
  rw [rem_int hy] at c ⊢
  rw [Int64.le_iff_toInt_le, i64_small (by omega) (by omega), show (0 : Int64).toInt = 0 from rfl] at c
  have := (Int.ediv_emod_unique hy).mpr ⟨show x.toInt.tmod y.toInt + y.toInt * x.toInt.tdiv y.toInt = x.toInt by rw [Int.mul_comm]; omega, c, by omega⟩
  rw [i64_small (by omega) (by omega), div_pos_int hy]
  exact ⟨this.2.symm, this.1.symm⟩
theorem fl_lt {x y : Int64} (hy : 0 < y.toInt) (c : ¬ 0 ≤ x - x / y * y) : (x - x / y * y + y).toInt = x.toInt % y.toInt ∧ (x / y - 1).toInt = x.toInt / y.toInt := by
  have hf := tdiv_facts x.toInt hy
  have a1 := i64_lo x
  have a2 := i64_hi x
  have a3 := i64_hi y
  rw [rem_int hy] at c ⊢
  rw [Int64.le_iff_toInt_le, i64_small (by omega) (by omega), show (0 : Int64).toInt = 0 from rfl] at c
  have := (Int.ediv_emod_unique hy).mpr ⟨show (x.toInt.tmod y.toInt + y.toInt) + y.toInt * (x.toInt.tdiv y.toInt - 1) = x.toInt by rw [Int.mul_sub, Int.mul_comm y.toInt (x.toInt.tdiv y.toInt)]; omega, by omega, by omega⟩
  have hb := div_bd (V := x.toInt) (d := y.toInt) (B := 9223372036854775808) (by omega) (by decide) (by omega) (by omega)
  have hb2 : x.toInt / y.toInt < 9223372036854775808 := by
    rw [Int.ediv_lt_iff_lt_mul hy]
    have e : (9223372036854775808 : Int) * 1 ≤ 9223372036854775808 * y.toInt := Int.mul_le_mul_of_nonneg_left (by omega) (by decide)
    omega
  refine ⟨?_, ?_⟩
  · rw [i64_add, i64_small (n := x.toInt.tmod y.toInt) (by omega) (by omega), i64_small (by omega) (by omega)]; omega
  · rw [i64_sub, div_pos_int hy, show (1 : Int64).toInt = 1 from rfl, i64_small (by omega) (by omega)]; omega
theorem mul_i {x y : Int64} {a b : Int} (ha : x.toInt = a) (hb : y.toInt = b) (h1 : -9223372036854775808 ≤ a * b) (h2 : a * b < 9223372036854775808) : (x * y).toInt = a * b := by
  rw [i64_mul, ha, hb, i64_small h1 h2]
theorem q_split (v U : Int) {D : Int} (hD : 0 < D) : v * U / D = v / D * U + v % D * U / D := by
  have h : v = D * (v / D) + v % D := (Int.mul_ediv_add_emod v D).symm
  have e : v * U = v % D * U + v / D * U * D := by
    have : v * U = (D * (v / D) + v % D) * U := congrArg (· * U) h
    rw [this, Int.add_mul, Int.mul_assoc D, Int.mul_comm D]; omega
  rw [e, Int.add_mul_ediv_right _ _ (by omega)]; omega
theorem sm_bd {a U D : Int} (h0 : 0 ≤ a) (h1 : a < D) (hD : D ≤ 2147483648) (hU : -2147483648 ≤ U ∧ U ≤ 2147483648) : -4611686018427387904 ≤ a * U ∧ a * U ≤ 4611686018427387904 := by
  have e1 := Int.mul_le_mul_of_nonneg_left hU.1 h0
  have e2 := Int.mul_le_mul_of_nonneg_left hU.2 h0
  omega

set_option maxHeartbeats 4000000 in
set_option maxRecDepth 100000 in
/-- times -/
theorem c_X6_times (l : Launch) (G : GT) (hM : okM G) (S : PS) (hS : lkM S) (n : Nat) (hn : sI S 6 0 0 = nI n) (hn60 : n ≤ 60)(hsz : ∀ i, i < n → 0 ≤ (sI S 8 2 i).toInt ∧ (sI S 8 2 i).toInt ≤ 12) (a u d : Int32) : CtI l G yX6_times wsX6_times (rmK 2 46) [.ref (gA G 6 0), .int a, .int u, .int d] S (fun v S2 => spTimes n (sI S 8 0) (sI S 8 2) (fun j k => sJ S 9 0 (12 * j + k)) a u d v (eqM S S2 n) (fun g => nwM S S2 n (sI S 8 0 (jn a)) (sI S 8 1 (jn a)) (jn (sI S 8 2 (jn a))) g)) := by
  refine ofCtI (cc := cX6_times) (nL := 19) RX6 (by decide +kernel) rfl rfl (Nat.le_of_ble_eq_true rfl) ?_
  intro p e s m args below meth c A Q ls C w hl hret
  have hx := C.1
  have hb := C.2.1
  have hown := C.2.2.2.1
  have hts := C.2.2.2.2.1
  have hi6 : ∀ w ∈ wsX60, w ∈ wsX6_times := by decide +kernel
  have hS0 := hS
  refine lv_aload_n hx hb dX6_times_0 rfl (lv_at hl 0 rfl) ?_
  refine lv_iload_n hx hb dX6_times_1 rfl (lv_at hl 1 rfl) ?_
  refine cvI (n := 1) C w hl dX6_times_2 (c_X6_isNumber l G hM S n hn hn60 a) gX6_times_X6_isNumber rfl (by decide +kernel) rfl rfl (Nat.le_of_ble_eq_true rfl) ⟨by decide, by decide⟩ (by decide) rfl (oM6 hM) (fun v1 S9 H locs hp w => ?_)
  obtain ⟨q1, e0⟩ := hp
  rw [e0] at w
  refine lv_if_ne (tgt := 11) hx hb dX6_times_5 (by decide) (fun c_5 => ?_) (fun c_5 => ?_)
  · have ha := yes_of q1 c_5
    have hja := jn_lt ha
    have hqa : a = nI (jn a) := jn_eq ha
    have hzj := hsz (jn a) hja
    have hz12 : jn (sI S 8 2 (jn a)) ≤ 12 := by unfold jn at *; omega
    refine lv_aload_n hx hb dX6_times_11 rfl (lv_at hl 0 rfl) ?_
    refine pgI 6 0 (by decide) rfl (by decide) (Or.inl rfl) rfl C w hi6 (by decide +kernel) dX6_times_12 (oM6 hM) (v := nI n) hn ?_
    refine lv_bipush (v := 60) hx hb dX6_times_15 (by decide) ?_
    refine lv_icmp_ne (tgt := 23) hx hb dX6_times_17 (by decide) (fun c_17 => ?_) (fun c_17 => ?_)
    · have hnf : ¬ n = 60 := fun q => c_17 (by rw [q]; rfl)
      refine lv_aload_n hx hb dX6_times_23 rfl (lv_at hl 0 rfl) ?_
      refine lv_iload_n hx hb dX6_times_24 rfl (lv_at hl 1 rfl) ?_
      refine lv_rep hqa ?_
      refine cvI (n := 1) C w hl dX6_times_25 (c_X6_isNothing l G hM S hS (jn a) (by omega)) gX6_times_X6_isNothing rfl (by decide +kernel) rfl rfl (Nat.le_of_ble_eq_true rfl) ⟨by decide, by decide⟩ (by decide) rfl (oM6 hM) (fun v2 S2 H locs hp w => ?_)
      obtain ⟨q2, e0⟩ := hp
      rw [e0] at w
      refine lv_if_eq (tgt := 34) hx hb dX6_times_28 (by decide) (fun c_28 => ?_) (fun c_28 => ?_)
      · refine lv_iload_n hx hb dX6_times_34 rfl (lv_at hl 3 rfl) ?_
        refine lv_if_ne (tgt := 41) hx hb dX6_times_35 (by decide) (fun c_35 => ?_) (fun c_35 => ?_)
        · have hfb := tU_bd u d
          have hdb := tD_bd c_35
          have join_53 : ∀ (f : Int64) (H : Heap) (locs : List Loc) (ls : Array Slot), f.toInt = tU u d → Wd G A s.heap S H locs → lv_has ls 19 [(0, .ref (gA G 6 0)), (1, .int a), (2, .int u), (3, .int d)] → W p l e (rmK 2 46) s m args below meth c H locs 0 0 Q (F0 m 53 ls [.long f]) := by
            intro f H locs ls hf w hl
            refine lv_lstore hx hb dX6_times_53 hl (by decide) rfl (fun ls hl => ?_)
            have join_67 : ∀ (dv : Int64) (H : Heap) (locs : List Loc) (ls : Array Slot), dv.toInt = tD d → Wd G A s.heap S H locs → lv_has ls 19 [(0, .ref (gA G 6 0)), (1, .int a), (2, .int u), (3, .int d), (4, .long f)] → W p l e (rmK 2 46) s m args below meth c H locs 0 0 Q (F0 m 67 ls [.long dv]) := by
              intro dv H locs ls hdv w hl
              refine lv_lstore hx hb dX6_times_67 hl (by decide) rfl (fun ls hl => ?_)
              refine lv_aload_n hx hb dX6_times_69 rfl (lv_at hl 1 rfl) ?_
              refine lv_aload_n hx hb dX6_times_70 rfl (lv_at hl 1 rfl) ?_
              refine pgQ 6 1 8 (by decide) rfl (by decide) rfl rfl C w hi6 (by decide +kernel) dX6_times_71 (oM6 hM) (hS.1) ?_
              refine lv_iload_n hx hb dX6_times_74 rfl (lv_at hl 2 rfl) ?_
              refine lv_rep hqa ?_
              refine paI C w dX6_times_75 (oM8 hM (by decide)) rfl (nM80 hM) (by omega) (by decide) rfl ?_
              refine lv_aload_n hx hb dX6_times_76 rfl (lv_at hl 1 rfl) ?_
              refine pgQ 6 2 8 (by decide) rfl (by decide) rfl rfl C w hi6 (by decide +kernel) dX6_times_77 (oM6 hM) (hS.2.1) ?_
              refine lv_iload_n hx hb dX6_times_80 rfl (lv_at hl 2 rfl) ?_
              refine lv_rep hqa ?_
              refine paI C w dX6_times_81 (oM8 hM (by decide)) rfl (nM81 hM) (by omega) (by decide) rfl ?_
              refine lv_aload_n hx hb dX6_times_82 rfl (lv_at hl 1 rfl) ?_
              refine pgQ 6 3 8 (by decide) rfl (by decide) rfl rfl C w hi6 (by decide +kernel) dX6_times_83 (oM6 hM) (hS.2.2.1) ?_
              refine lv_iload_n hx hb dX6_times_86 rfl (lv_at hl 2 rfl) ?_
              refine lv_rep hqa ?_
              refine paI C w dX6_times_87 (oM8 hM (by decide)) rfl (nM82 hM) (by omega) (by decide) rfl ?_
              refine cvV (n := 3) C w hl dX6_times_88 (c_X6_lay l G hM S hS n hn hn60 _ _ _) gX6_times_X6_lay rfl (by decide +kernel) rfl rfl (Nat.le_of_ble_eq_true rfl) ⟨by decide, by decide⟩ (by decide) rfl (oM6 hM) (fun S3 H locs hp w => ?_)
              have hE := eqM_layM S n (sI S 8 0 (jn a)) (sI S 8 1 (jn a)) (sI S 8 2 (jn a))
              have hl0 : sI (layM S n (sI S 8 0 (jn a)) (sI S 8 1 (jn a)) (sI S 8 2 (jn a))) 8 0 n = sI S 8 0 (jn a) := sI_lh0 S n (sI S 8 0 (jn a)) (sI S 8 1 (jn a)) (sI S 8 2 (jn a))
              have hl1 : sI (layM S n (sI S 8 0 (jn a)) (sI S 8 1 (jn a)) (sI S 8 2 (jn a))) 8 1 n = sI S 8 1 (jn a) := sI_lh1 S n (sI S 8 0 (jn a)) (sI S 8 1 (jn a)) (sI S 8 2 (jn a))
              have hl2 : sI (layM S n (sI S 8 0 (jn a)) (sI S 8 1 (jn a)) (sI S 8 2 (jn a))) 8 2 n = sI S 8 2 (jn a) := sI_lh2 S n (sI S 8 0 (jn a)) (sI S 8 1 (jn a)) (sI S 8 2 (jn a))
              subst hp
              refine lv_iconst (v := 0) hx hb dX6_times_91 (by decide) ?_
              refine lv_istore hx hb dX6_times_92 hl (by decide) rfl (fun ls hl => ?_)
              have loop_94 : ∀ (n2 : Nat) (k : Nat) (S1 : PS) (H : Heap) (locs : List Loc) (ls : Array Slot), k + n2 = (jn (sI S 8 2 (jn a))) → (eqM S S1 n ∧ sI S1 8 0 n = sI S 8 0 (jn a) ∧ sI S1 8 1 n = sI S 8 1 (jn a) ∧ sI S1 8 2 n = sI S 8 2 (jn a) ∧ (∀ j, j < k → sJ S1 9 0 (12 * n + j) = Int64.ofInt (qG u d (sJ S 9 0 (12 * jn a + j))))) → (∀ j, j < k → in64 (qG u d (sJ S 9 0 (12 * jn a + j)))) → Wd G A s.heap S1 H locs → lv_has ls 19 [(0, .ref (gA G 6 0)), (1, .int a), (2, .int u), (3, .int d), (4, .long f), (6, .long dv), (8, .int (nI k))] → W p l e (rmK 2 46) s m args below meth c H locs 0 0 Q (F0 m 94 ls []) := by
                intro n2
                induction n2 with
                | zero =>
                  intro k S1 H locs ls hk hH hI w hl
                  have hE := hH.1
                  have hS := hE.lk hS0
                  have hd0 : 0 < dv.toInt := by rw [hdv]; omega
                  have hvb := mulU_bd (sJ S 9 0 (12 * jn a + k)) hfb
                  have hqb := div_bd hdb.1 (by omega) hvb.1 hvb.2
                  have hm1 := Int.emod_nonneg (sJ S 9 0 (12 * jn a + k)).toInt (show tD d ≠ 0 by omega)
                  have hm2 := Int.emod_lt_of_pos (sJ S 9 0 (12 * jn a + k)).toInt (show 0 < tD d by omega)
                  have hsb := sm_bd hm1 hm2 hdb.2 hfb
                  refine lv_iload hx hb dX6_times_94 (lv_at hl 6 rfl) ?_
                  refine lv_aload_n hx hb dX6_times_96 rfl (lv_at hl 0 rfl) ?_
                  refine pgQ 6 3 8 (by decide) rfl (by decide) rfl rfl C w hi6 (by decide +kernel) dX6_times_97 (oM6 hM) (hS.2.2.1) ?_
                  refine lv_iload_n hx hb dX6_times_100 rfl (lv_at hl 1 rfl) ?_
                  refine lv_rep hqa ?_
                  refine paI C w dX6_times_101 (oM8 hM (by decide)) rfl (nM82 hM) (by omega) (by decide) (v := nI (jn (sI S 8 2 (jn a)))) (by rw [hE.hd 2 hja]; exact nI_jn hzj.1) ?_
                  refine lv_icmp_ge (tgt := 237) hx hb dX6_times_102 (by decide) (fun c_102 => ?_) (fun c_102 => absurd (nI_le (by omega) (by omega)) c_102)
                  refine lv_aload_n hx hb dX6_times_237 rfl (lv_at hl 0 rfl) ?_
                  refine cvI (n := 0) C w hl dX6_times_238 (c_X6_keepScore l G hM S1 n (by rw [hE.n 0 (by decide)]; exact hn) hn60) gX6_times_X6_keepScore rfl (by decide +kernel) rfl rfl (Nat.le_of_ble_eq_true rfl) ⟨by decide, by decide⟩ (by decide) rfl (oM6 hM) (fun v5 S5 H locs hp w => ?_)
                  obtain ⟨e5, e6⟩ := hp
                  rw [e6] at w
                  exact hret _ _ _ _ _ _ dX6_times_241 w (by unfold spTimes; rw [if_pos ha, if_neg hnf, if_neg (no_of q2 c_28), if_neg c_35]; exact Or.inl ⟨fun j hj => hI j (by omega), e5, hsM.nw ⟨hE, hH.2.1, hH.2.2.1, by rw [hH.2.2.2.1]; exact nI_jn hzj.1, fun j hj => hH.2.2.2.2 j (by omega)⟩ hn⟩)
                | succ n2 ih =>
                  intro k S1 H locs ls hk hH hI w hl
                  have hE := hH.1
                  have hS := hE.lk hS0
                  have hd0 : 0 < dv.toInt := by rw [hdv]; omega
                  have hvb := mulU_bd (sJ S 9 0 (12 * jn a + k)) hfb
                  have hqb := div_bd hdb.1 (by omega) hvb.1 hvb.2
                  have hm1 := Int.emod_nonneg (sJ S 9 0 (12 * jn a + k)).toInt (show tD d ≠ 0 by omega)
                  have hm2 := Int.emod_lt_of_pos (sJ S 9 0 (12 * jn a + k)).toInt (show 0 < tD d by omega)
                  have hsb := sm_bd hm1 hm2 hdb.2 hfb
                  refine lv_iload hx hb dX6_times_94 (lv_at hl 6 rfl) ?_
                  refine lv_aload_n hx hb dX6_times_96 rfl (lv_at hl 0 rfl) ?_
                  refine pgQ 6 3 8 (by decide) rfl (by decide) rfl rfl C w hi6 (by decide +kernel) dX6_times_97 (oM6 hM) (hS.2.2.1) ?_
                  refine lv_iload_n hx hb dX6_times_100 rfl (lv_at hl 1 rfl) ?_
                  refine lv_rep hqa ?_
                  refine paI C w dX6_times_101 (oM8 hM (by decide)) rfl (nM82 hM) (by omega) (by decide) (v := nI (jn (sI S 8 2 (jn a)))) (by rw [hE.hd 2 hja]; exact nI_jn hzj.1) ?_
                  refine lv_icmp_ge (tgt := 237) hx hb dX6_times_102 (by decide) (fun c_102 => absurd c_102 (nI_ge (by omega) (by omega))) (fun c_102 => ?_)
                  refine lv_aload_n hx hb dX6_times_105 rfl (lv_at hl 0 rfl) ?_
                  refine pgQ 6 4 9 (by decide) rfl (by decide) rfl rfl C w hi6 (by decide +kernel) dX6_times_106 (oM6 hM) (hS.2.2.2.1) ?_
                  refine lv_bipush (v := 12) hx hb dX6_times_109 (by decide) ?_
                  refine lv_iload_n hx hb dX6_times_111 rfl (lv_at hl 1 rfl) ?_
                  refine lv_rep hqa ?_
                  refine lv_imul hx hb dX6_times_112 ?_
                  refine lv_iload hx hb dX6_times_113 (lv_at hl 6 rfl) ?_
                  refine lv_iadd hx hb dX6_times_115 ?_
                  refine paJ C w dX6_times_116 (oM9 hM (by decide)) (n := 12 * jn a + k) (ix12 _ _) (nM90 hM) (by omega) (by decide) (v := sJ S 9 0 (12 * jn a + k)) (hE.lv hja (by omega)) ?_
                  refine lv_lstore hx hb dX6_times_117 hl (by decide) rfl (fun ls hl => ?_)
                  refine lv_lload hx hb dX6_times_119 (lv_at hl 0 rfl) ?_
                  refine lv_lload hx hb dX6_times_121 (lv_at hl 6 rfl) ?_
                  refine lv_lrem hx hb dX6_times_123 (fun h => by have := hdb.1; rw [← hdv, h] at this; exact absurd this (by decide)) ?_
                  refine lv_lstore hx hb dX6_times_124 hl (by decide) rfl (fun ls hl => ?_)
                  refine lv_lload hx hb dX6_times_126 (lv_at hl 1 rfl) ?_
                  refine lv_lload hx hb dX6_times_128 (lv_at hl 7 rfl) ?_
                  refine lv_ldiv hx hb dX6_times_130 (fun h => by have := hdb.1; rw [← hdv, h] at this; exact absurd this (by decide)) ?_
                  refine lv_lstore hx hb dX6_times_131 hl (by decide) rfl (fun ls hl => ?_)
                  have join_153 : ∀ (rs wh : Int64) (H : Heap) (locs : List Loc) (ls : Array Slot), rs.toInt = (sJ S 9 0 (12 * jn a + k)).toInt % tD d → wh.toInt = (sJ S 9 0 (12 * jn a + k)).toInt / tD d → Wd G A s.heap S1 H locs → lv_has ls 19 [(0, .ref (gA G 6 0)), (1, .int a), (2, .int u), (3, .int d), (4, .long f), (6, .long dv), (8, .int (nI k)), (11, .long rs), (13, .long wh)] → W p l e (rmK 2 46) s m args below meth c H locs 0 0 Q (F0 m 153 ls []) := by
                    intro rs wh H locs ls hrs hwh w hl
                    have hpt := mul_i hrs hf (by omega) (by omega)
                    refine lv_lload hx hb dX6_times_153 (lv_at hl 7 rfl) ?_
                    refine lv_lload hx hb dX6_times_155 (lv_at hl 4 rfl) ?_
                    refine lv_lmul hx hb dX6_times_157 ?_
                    refine lv_lstore hx hb dX6_times_158 hl (by decide) rfl (fun ls hl => ?_)
                    refine lv_lload hx hb dX6_times_160 (lv_at hl 0 rfl) ?_
                    refine lv_lload hx hb dX6_times_162 (lv_at hl 6 rfl) ?_
                    refine lv_ldiv hx hb dX6_times_164 (fun h => by have := hdb.1; rw [← hdv, h] at this; exact absurd this (by decide)) ?_
                    refine lv_lstore hx hb dX6_times_165 hl (by decide) rfl (fun ls hl => ?_)
                    have join_183 : ∀ (ov : Int64) (H : Heap) (locs : List Loc) (ls : Array Slot), ov.toInt = (sJ S 9 0 (12 * jn a + k)).toInt % tD d * tU u d / tD d → Wd G A s.heap S1 H locs → lv_has ls 19 [(0, .ref (gA G 6 0)), (1, .int a), (2, .int u), (3, .int d), (4, .long f), (6, .long dv), (8, .int (nI k)), (13, .long wh), (17, .long ov)] → W p l e (rmK 2 46) s m args below meth c H locs 0 0 Q (F0 m 183 ls []) := by
                      intro ov H locs ls hov w hl
                      have hov2 := div_bd (V := (sJ S 9 0 (12 * jn a + k)).toInt % tD d * tU u d) hdb.1 (B := 4611686018427387904) (by decide) hsb.1 hsb.2
                      have hqs : qG u d (sJ S 9 0 (12 * jn a + k)) = (sJ S 9 0 (12 * jn a + k)).toInt / tD d * tU u d + (sJ S 9 0 (12 * jn a + k)).toInt % tD d * tU u d / tD d := q_split _ _ (by omega)
                      refine lv_aload_n hx hb dX6_times_183 rfl (lv_at hl 0 rfl) ?_
                      refine cvV (n := 0) C w hl dX6_times_184 (c_X6_zero l G hM S1) gX6_times_X6_zero rfl (by decide +kernel) rfl rfl (Nat.le_of_ble_eq_true rfl) ⟨by decide, by decide⟩ (by decide) rfl (oM6 hM) (fun S4 H locs hp w => ?_)
                      subst hp
                      refine lv_aload_n hx hb dX6_times_187 rfl (lv_at hl 0 rfl) ?_
                      refine lv_lload hx hb dX6_times_188 (lv_at hl 7 rfl) ?_
                      refine lv_lload hx hb dX6_times_190 (lv_at hl 4 rfl) ?_
                      refine cvV (n := 2) C w hl dX6_times_192 (c_X6_add l G hM (wm S1 0) 0 (sJ_wm_0 S1 0) (sJ_wm_1 S1 0) wh f (by have := mul_bd (a := wh.toInt % 4294967296) (F := f.toInt) (by omega) (by omega) (by rw [hf]; exact hfb); constructor <;> omega) (by rw [hf]; exact hfb)) gX6_times_X6_add rfl (by decide +kernel) rfl rfl (Nat.le_of_ble_eq_true rfl) ⟨by decide, by decide⟩ (by decide) rfl (oM6 hM) (fun S4 H locs hp w => ?_)
                      rw [wm_wm, Int.zero_add, hwh, hf] at hp
                      subst hp
                      refine lv_aload_n hx hb dX6_times_195 rfl (lv_at hl 0 rfl) ?_
                      refine lv_lload hx hb dX6_times_196 (lv_at hl 8 rfl) ?_
                      refine lv_lconst (v := 1) hx hb dX6_times_198 (by decide) ?_
                      refine cvV (n := 2) C w hl dX6_times_199 (c_X6_add l G hM _ _ (sJ_wm_0 S1 _) (sJ_wm_1 S1 _) ov 1 (by rw [show (1 : Int64).toInt = 1 from rfl]; constructor <;> omega) (by decide)) gX6_times_X6_add rfl (by decide +kernel) rfl rfl (Nat.le_of_ble_eq_true rfl) ⟨by decide, by decide⟩ (by decide) rfl (oM6 hM) (fun S4 H locs hp w => ?_)
                      rw [wm_wm, hov, show (1 : Int64).toInt = 1 from rfl, Int.mul_one, ← hqs] at hp
                      subst hp
                      refine lv_aload_n hx hb dX6_times_202 rfl (lv_at hl 0 rfl) ?_
                      refine cvI (n := 0) C w hl dX6_times_203 (c_X6_fits l G hM (wm S1 (qG u d (sJ S 9 0 (12 * jn a + k)))) _ (sJ_wm_0 S1 _) (sJ_wm_1 S1 _) (by unfold qG; omega) (by unfold qG; omega)) gX6_times_X6_fits rfl (by decide +kernel) rfl rfl (Nat.le_of_ble_eq_true rfl) ⟨by decide, by decide⟩ (by decide) rfl (oM6 hM) (fun v5 S5 H locs hp w => ?_)
                      obtain ⟨q5, e0⟩ := hp
                      rw [e0] at w
                      refine lv_if_ne (tgt := 212) hx hb dX6_times_206 (by decide) (fun c_206 => ?_) (fun c_206 => ?_)
                      · refine lv_aload_n hx hb dX6_times_212 rfl (lv_at hl 0 rfl) ?_
                        refine pgQ 6 4 9 (by decide) rfl (by decide) rfl rfl C w hi6 (by decide +kernel) dX6_times_213 (oM6 hM) (hS.2.2.2.1) ?_
                        refine lv_bipush (v := 12) hx hb dX6_times_216 (by decide) ?_
                        refine lv_aload_n hx hb dX6_times_218 rfl (lv_at hl 0 rfl) ?_
                        refine pgI 6 0 (by decide) rfl (by decide) (Or.inl rfl) rfl C w hi6 (by decide +kernel) dX6_times_219 (oM6 hM) (v := nI n) (by rw [sI_wm, hE.n 0 (by decide)]; exact hn) ?_
                        refine lv_imul hx hb dX6_times_222 ?_
                        refine lv_iload hx hb dX6_times_223 (lv_at hl 6 rfl) ?_
                        refine lv_iadd hx hb dX6_times_225 ?_
                        refine lv_aload_n hx hb dX6_times_226 rfl (lv_at hl 0 rfl) ?_
                        refine cvL (n := 0) C w hl dX6_times_227 (c_X6_number l G hM (wm S1 (qG u d (sJ S 9 0 (12 * jn a + k)))) _ (sJ_wm_0 S1 _) (sJ_wm_1 S1 _)) gX6_times_X6_number rfl (by decide +kernel) rfl rfl (Nat.le_of_ble_eq_true rfl) ⟨by decide, by decide⟩ (by decide) rfl (oM6 hM) (fun v6 S6 H locs hp w => ?_)
                        obtain ⟨e6, e0⟩ := hp
                        rw [e0] at w
                        refine psJ C w dX6_times_230 (oM9 hM (by decide)) (n := 12 * n + k) (ix12 _ _) (nM90 hM) (by omega) (by decide) (fun H locs w => ?_)
                        refine lv_iinc (v := nI (k + 1)) hx hb dX6_times_231 hl (k := 6) rfl (nI_1 k) (by decide) rfl (fun ls hl => ?_)
                        refine lv_goto (tgt := 94) hx hb dX6_times_234 (by decide) ?_
                        exact ih (k + 1) _ _ _ _ (by omega) ⟨(hE.tr (eqM_wm _ _ _)).tr (eqM_uJ (Or.inr (Or.inr ⟨rfl, rfl, by omega, by omega⟩))), hH.2.1, hH.2.2.1, hH.2.2.2.1, fun j hj => by rw [sJ_uJ]; by_cases q : j = k; rw [if_pos ⟨rfl, rfl, by rw [q]⟩, q]; exact e6; rw [if_neg (fun x => q (by omega)), sJ_wm_n (by decide)]; exact hH.2.2.2.2 j (by omega)⟩ (lt_s hI (yes_of q5 c_206)) w (lv_sub hl [1, 2, 3, 4, 5, 6, 0] rfl)
                      · refine lv_bipush (v := (-16)) hx hb dX6_times_209 (by decide) ?_
                        exact hret _ _ _ _ _ _ dX6_times_211 w (by unfold spTimes; rw [if_pos ha, if_neg hnf, if_neg (no_of q2 c_28), if_neg c_35]; exact Or.inr ⟨fun q => no_of q5 c_206 (q k (by omega)), rfl, hE.tr (eqM_wm _ _ _)⟩)
                    refine lv_lload hx hb dX6_times_167 (lv_at hl 1 rfl) ?_
                    refine lv_lload hx hb dX6_times_169 (lv_at hl 7 rfl) ?_
                    refine lv_lrem hx hb dX6_times_171 (fun h => by have := hdb.1; rw [← hdv, h] at this; exact absurd this (by decide)) ?_
                    refine lv_lconst (v := 0) hx hb dX6_times_172 (by decide) ?_
                    refine W.lcmp hx hb dX6_times_173 ?_
                    refine lv_if_ge (tgt := 183) hx hb dX6_times_174 (by decide) (fun c_174 => ?_) (fun c_174 => ?_)
                    · rw [lg_cmp_ge] at c_174
                      exact join_183 _ _ _ _ (by rw [← hpt, ← hdv]; first | exact (fl_ge hd0 c_174).2 | exact (fl_lt hd0 c_174).2) w (lv_sub hl [2, 3, 4, 5, 6, 7, 8, 10, 0] rfl)
                    · rw [lg_cmp_ge] at c_174
                      refine lv_lload hx hb dX6_times_177 (lv_at hl 0 rfl) ?_
                      refine lv_lconst (v := 1) hx hb dX6_times_179 (by decide) ?_
                      refine lv_lsub hx hb dX6_times_180 ?_
                      refine lv_lstore hx hb dX6_times_181 hl (by decide) rfl (fun ls hl => ?_)
                      exact join_183 _ _ _ _ (by rw [← hpt, ← hdv]; first | exact (fl_ge hd0 c_174).2 | exact (fl_lt hd0 c_174).2) w (lv_sub hl [2, 3, 4, 5, 6, 7, 8, 10, 0] rfl)
                  refine lv_lload hx hb dX6_times_133 (lv_at hl 1 rfl) ?_
                  refine lv_lconst (v := 0) hx hb dX6_times_135 (by decide) ?_
                  refine W.lcmp hx hb dX6_times_136 ?_
                  refine lv_if_ge (tgt := 153) hx hb dX6_times_137 (by decide) (fun c_137 => ?_) (fun c_137 => ?_)
                  · rw [lg_cmp_ge] at c_137
                    exact join_153 _ _ _ _ _ (by rw [← hdv]; first | exact (fl_ge hd0 c_137).1 | exact (fl_lt hd0 c_137).1) (by rw [← hdv]; first | exact (fl_ge hd0 c_137).2 | exact (fl_lt hd0 c_137).2) w (lv_sub hl [3, 4, 5, 6, 7, 8, 9, 1, 0] rfl)
                  · rw [lg_cmp_ge] at c_137
                    refine lv_lload hx hb dX6_times_140 (lv_at hl 1 rfl) ?_
                    refine lv_lload hx hb dX6_times_142 (lv_at hl 8 rfl) ?_
                    refine lv_ladd hx hb dX6_times_144 ?_
                    refine lv_lstore hx hb dX6_times_145 hl (by decide) rfl (fun ls hl => ?_)
                    refine lv_lload hx hb dX6_times_147 (lv_at hl 1 rfl) ?_
                    refine lv_lconst (v := 1) hx hb dX6_times_149 (by decide) ?_
                    refine lv_lsub hx hb dX6_times_150 ?_
                    refine lv_lstore hx hb dX6_times_151 hl (by decide) rfl (fun ls hl => ?_)
                    exact join_153 _ _ _ _ _ (by rw [← hdv]; first | exact (fl_ge hd0 c_137).1 | exact (fl_lt hd0 c_137).1) (by rw [← hdv]; first | exact (fl_ge hd0 c_137).2 | exact (fl_lt hd0 c_137).2) w (lv_sub hl [3, 4, 5, 6, 7, 8, 9, 1, 0] rfl)
              exact loop_94 (jn (sI S 8 2 (jn a))) 0 _ _ _ _ (by omega) ⟨hE, hl0, hl1, hl2, fun _ h => absurd h (Nat.not_lt_zero _)⟩ lt_0 w (lv_sub hl [2, 3, 4, 5, 6, 1, 0] rfl)
            refine lv_iload_n hx hb dX6_times_55 rfl (lv_at hl 4 rfl) ?_
            refine lv_if_ge (tgt := 65) hx hb dX6_times_56 (by decide) (fun c_56 => ?_) (fun c_56 => ?_)
            · refine lv_iload_n hx hb dX6_times_65 rfl (lv_at hl 4 rfl) ?_
              refine lv_i2l hx hb dX6_times_66 rfl ?_
              exact join_67 _ _ _ _ (by unfold tD; first | (rw [if_neg (by rw [Int32.le_iff_toInt_le, i32_0] at c_56; omega)]; exact Int32.toInt_toInt64 d) | (rw [if_pos (by rw [Int32.le_iff_toInt_le, i32_0] at c_56; omega)]; exact neg_l d)) w (lv_sub hl [1, 2, 3, 4, 0] rfl)
            · refine lv_iload_n hx hb dX6_times_59 rfl (lv_at hl 4 rfl) ?_
              refine lv_i2l hx hb dX6_times_60 rfl ?_
              refine lv_lneg hx hb dX6_times_61 ?_
              refine lv_goto (tgt := 67) hx hb dX6_times_62 (by decide) ?_
              exact join_67 _ _ _ _ (by unfold tD; first | (rw [if_neg (by rw [Int32.le_iff_toInt_le, i32_0] at c_56; omega)]; exact Int32.toInt_toInt64 d) | (rw [if_pos (by rw [Int32.le_iff_toInt_le, i32_0] at c_56; omega)]; exact neg_l d)) w (lv_sub hl [1, 2, 3, 4, 0] rfl)
          refine lv_iload_n hx hb dX6_times_41 rfl (lv_at hl 3 rfl) ?_
          refine lv_if_ge (tgt := 51) hx hb dX6_times_42 (by decide) (fun c_42 => ?_) (fun c_42 => ?_)
          · refine lv_iload_n hx hb dX6_times_51 rfl (lv_at hl 2 rfl) ?_
            refine lv_i2l hx hb dX6_times_52 rfl ?_
            exact join_53 _ _ _ _ (by unfold tU; first | (rw [if_neg (by rw [Int32.le_iff_toInt_le, i32_0] at c_42; omega)]; exact Int32.toInt_toInt64 u) | (rw [if_pos (by rw [Int32.le_iff_toInt_le, i32_0] at c_42; omega)]; exact neg_l u)) w (lv_sub hl [0, 1, 2, 3] rfl)
          · refine lv_iload_n hx hb dX6_times_45 rfl (lv_at hl 2 rfl) ?_
            refine lv_i2l hx hb dX6_times_46 rfl ?_
            refine lv_lneg hx hb dX6_times_47 ?_
            refine lv_goto (tgt := 53) hx hb dX6_times_48 (by decide) ?_
            exact join_53 _ _ _ _ (by unfold tU; first | (rw [if_neg (by rw [Int32.le_iff_toInt_le, i32_0] at c_42; omega)]; exact Int32.toInt_toInt64 u) | (rw [if_pos (by rw [Int32.le_iff_toInt_le, i32_0] at c_42; omega)]; exact neg_l u)) w (lv_sub hl [0, 1, 2, 3] rfl)
        · refine lv_bipush (v := (-15)) hx hb dX6_times_38 (by decide) ?_
          exact hret _ _ _ _ _ _ dX6_times_40 w (by unfold spTimes; rw [if_pos ha, if_neg hnf, if_neg (no_of q2 c_28), if_pos c_35]; exact ⟨rfl, eqM.rf S n⟩)
      · refine lv_bipush (v := (-11)) hx hb dX6_times_31 (by decide) ?_
        exact hret _ _ _ _ _ _ dX6_times_33 w (by unfold spTimes; rw [if_pos ha, if_neg hnf, if_pos (yes_of q2 c_28)]; exact ⟨rfl, eqM.rf S n⟩)
    · have hnf : n = 60 := (nI_eq (b := 60) (by omega) (by decide)).mp c_17
      refine lv_bipush (v := (-4)) hx hb dX6_times_20 (by decide) ?_
      exact hret _ _ _ _ _ _ dX6_times_22 w (by unfold spTimes; rw [if_pos ha, if_pos hnf]; exact ⟨rfl, eqM.rf S n⟩)
  · refine lv_bipush (v := (-2)) hx hb dX6_times_8 (by decide) ?_
    exact hret _ _ _ _ _ _ dX6_times_10 w (by unfold spTimes; rw [if_neg (no_of q1 c_5)]; exact ⟨rfl, eqM.rf S n⟩)
