theorem neg_l (x : Int32) : (-(x.toInt64)).toInt = -x.toInt := by
  have h1 := i32_lo x
  have h2 := i32_hi x
  rw [Int64.toInt_neg, Int32.toInt_toInt64, Int.bmod_eq_of_le (by omega) (by omega)]
theorem tU_bd (u d : Int32) : -2147483648 ≤ tU u d ∧ tU u d ≤ 2147483648 := by
  have h1 := i32_lo u
  have h2 := i32_hi u
  unfold tU; split <;> omega
theorem tD_bd {d : Int32} (h : ¬ d = 0) : 1 ≤ tD d ∧ tD d ≤ 2147483648 := by
  have h1 := i32_lo d
  have h2 := i32_hi d
  have h3 : d.toInt ≠ 0 := fun q => h (Int32.toInt_inj.mp q)
  unfold tD; split <;> omega
theorem mulU_bd (x : Int64) {f : Int} (hf : -2147483648 ≤ f ∧ f ≤ 2147483648) : -19807040628566084398385987584 ≤ x.toInt * f ∧ x.toInt * f ≤ 19807040628566084398385987584 := by
  have h1 := i64_lo x
  have h2 := i64_hi x
  by_cases h : 0 ≤ x.toInt
  · have e1 := Int.mul_le_mul_of_nonneg_left hf.1 h
    have e2 := Int.mul_le_mul_of_nonneg_left hf.2 h
    omega
  · have e1 := Int.mul_le_mul_of_nonpos_left (a := x.toInt) (show x.toInt ≤ 0 by omega) hf.1
    have e2 := Int.mul_le_mul_of_nonpos_left (a := x.toInt) (show x.toInt ≤ 0 by omega) hf.2
    omega
theorem div_bd {V d B : Int} (hd : 1 ≤ d) (hB : 1 ≤ B) (h1 : -B ≤ V) (h2 : V ≤ B) : -B ≤ V / d ∧ V / d ≤ B := by
  have e : B * 1 ≤ B * d := Int.mul_le_mul_of_nonneg_left hd (by omega)
  rw [Int.mul_one] at e
  constructor
  · rw [Int.le_ediv_iff_mul_le (by omega), Int.neg_mul]; omega
  · have : V / d < B + 1 := by
      rw [Int.ediv_lt_iff_lt_mul (by omega), Int.add_mul]; omega
    omega

set_option maxHeartbeats 4000000 in
set_option maxRecDepth 100000 in
/-- scale -/
theorem c_X5_scale (l : Launch) (G : GT) (hX : okX G) (S : PS) (hS : lkX S) (r a z : Nat) (hr : r < 79) (ha : a < 79) (hna : a ≠ r) (hz : sI S 2 a 2 = nI z) (hz12 : z ≤ 12) (u d : Int32) (hd0 : ¬ d = 0) : CtI l G yX5_scale wsX5_scale (rmK 2 49) [.ref (gA G 5 0), .ref (gA G 2 a), .int u, .int d, .ref (gA G 2 r)] S (fun v S2 => (v = 1 ∧ (∀ k, k < z → in64 (qG u d (sJ S 9 a k))) ∧ hs S S2 r (sI S 2 a 0) (sI S 2 a 1) z (fun k => Int64.ofInt (qG u d (sJ S 9 a k)))) ∨ (v = 0 ∧ ¬ (∀ k, k < z → in64 (qG u d (sJ S 9 a k))) ∧ eqN S S2 r)) := by
  refine ofCtZ (cc := cX5_scale) (nL := 10) RX5 (by decide +kernel) rfl rfl (Nat.le_of_ble_eq_true rfl) ?_
  intro p e s m args below meth c A Q ls C w hl hret
  have hx := C.1
  have hb := C.2.1
  have hown := C.2.2.2.1
  have hts := C.2.2.2.2.1
  have hi2 : ∀ w ∈ wsX20, w ∈ wsX5_scale := by decide +kernel
  have hi5 : ∀ w ∈ wsX50, w ∈ wsX5_scale := by decide +kernel
  have join_12 : ∀ (f : Int64) (H : Heap) (locs : List Loc) (ls : Array Slot), (f.toInt = tU u d) → Wd G A s.heap S H locs → lv_has ls 10 [(0, .ref (gA G 5 0)), (1, .ref (gA G 2 a)), (2, .int u), (3, .int d), (4, .ref (gA G 2 r))] → W p l e (rmK 2 49) s m args below meth c H locs 0 0 Q (F0 m 12 ls [.long f]) := by
    intro f H locs ls hf w hl
    refine lv_lstore hx hb dX5_scale_12 hl (by decide) rfl (fun ls hl => ?_)
    have join_26 : ∀ (dv : Int64) (H : Heap) (locs : List Loc) (ls : Array Slot), (dv.toInt = tD d) → Wd G A s.heap S H locs → lv_has ls 10 [(0, .ref (gA G 5 0)), (1, .ref (gA G 2 a)), (2, .int u), (3, .int d), (4, .ref (gA G 2 r)), (5, .long f)] → W p l e (rmK 2 49) s m args below meth c H locs 0 0 Q (F0 m 26 ls [.long dv]) := by
      intro dv H locs ls hdv w hl
      refine lv_lstore hx hb dX5_scale_26 hl (by decide) rfl (fun ls hl => ?_)
      refine lv_aload hx hb dX5_scale_28 (lv_at hl 5 rfl) ?_
      refine lv_aload_n hx hb dX5_scale_30 rfl (lv_at hl 2 rfl) ?_
      refine cvV (n := 1) C w hl dX5_scale_31 (c_X2_formLike l G hX S r a hr ha) gX5_scale_X2_formLike rfl (by decide +kernel) rfl rfl (Nat.le_of_ble_eq_true rfl) ⟨by decide, by decide⟩ (by decide) rfl (oP2 hX hr) (fun S3 H locs hp w => ?_)
      subst hp
      have hfb := tU_bd u d
      have hdb := tD_bd hd0
      refine lv_iconst (v := 0) hx hb dX5_scale_34 (by decide) ?_
      refine lv_istore hx hb dX5_scale_35 hl (by decide) rfl (fun ls hl => ?_)
      have loop_37 : ∀ (n : Nat) (k : Nat) (S1 : PS) (H : Heap) (locs : List Loc) (ls : Array Slot), (k + n = z) → (eq4 (rwk (fm S r (sI S 2 a 0) (sI S 2 a 1) (sI S 2 a 2)) r (fun k => Int64.ofInt (qG u d (sJ S 9 a k))) (sJ S 9 r) k) S1) → ((∀ j, j < k → in64 (qG u d (sJ S 9 a j)))) → Wd G A s.heap S1 H locs → lv_has ls 10 [(0, .ref (gA G 5 0)), (1, .ref (gA G 2 a)), (2, .int u), (3, .int d), (4, .ref (gA G 2 r)), (5, .long f), (7, .long dv), (9, .int (nI k))] → W p l e (rmK 2 49) s m args below meth c H locs 0 0 Q (F0 m 37 ls []) := by
        intro n
        induction n with
        | zero =>
          intro k S1 H locs ls hk hE hI w hl
          have hS := hE.lk (lkX_of (S' := (rwk (fm S r (sI S 2 a 0) (sI S 2 a 1) (sI S 2 a 2)) r (fun k => Int64.ofInt (qG u d (sJ S 9 a k))) (sJ S 9 r) k)) hS rfl)
          have e9 : sJ S1 9 a k = sJ S 9 a k := by rw [hE.j9, sJ_rwk_n hna]; rfl
          have hvb := mulU_bd (sJ S 9 a k) hfb
          have hqb := div_bd hdb.1 (by omega) hvb.1 hvb.2
          refine lv_iload hx hb dX5_scale_37 (lv_at hl 7 rfl) ?_
          refine lv_aload_n hx hb dX5_scale_39 rfl (lv_at hl 1 rfl) ?_
          refine pgI 2 2 (by decide) rfl (by decide) (Or.inl rfl) rfl C w hi2 (by decide +kernel) dX5_scale_40 (oP2 hX ha) (v := nI z) (by rw [hE.1, sI_rwk, sI_fm_r (fun q => hna q.2)]; exact hz) ?_
          refine lv_icmp_ge (tgt := 111) hx hb dX5_scale_43 (by decide) (fun c_43 => ?_) (fun c_43 => absurd (nI_le (by omega) (by omega)) c_43)
          have e : k = z := by omega
          subst e
          refine lv_iconst (v := 1) hx hb dX5_scale_111 (by decide) ?_
          exact hret _ _ _ _ _ _ dX5_scale_112 w (by decide) (Or.inl ⟨rfl, hI, (hs_rwk S r _ _ _ k hz _ _).of4 hE⟩)
        | succ n ih =>
          intro k S1 H locs ls hk hE hI w hl
          have hS := hE.lk (lkX_of (S' := (rwk (fm S r (sI S 2 a 0) (sI S 2 a 1) (sI S 2 a 2)) r (fun k => Int64.ofInt (qG u d (sJ S 9 a k))) (sJ S 9 r) k)) hS rfl)
          have e9 : sJ S1 9 a k = sJ S 9 a k := by rw [hE.j9, sJ_rwk_n hna]; rfl
          have hvb := mulU_bd (sJ S 9 a k) hfb
          have hqb := div_bd hdb.1 (by omega) hvb.1 hvb.2
          refine lv_iload hx hb dX5_scale_37 (lv_at hl 7 rfl) ?_
          refine lv_aload_n hx hb dX5_scale_39 rfl (lv_at hl 1 rfl) ?_
          refine pgI 2 2 (by decide) rfl (by decide) (Or.inl rfl) rfl C w hi2 (by decide +kernel) dX5_scale_40 (oP2 hX ha) (v := nI z) (by rw [hE.1, sI_rwk, sI_fm_r (fun q => hna q.2)]; exact hz) ?_
          refine lv_icmp_ge (tgt := 111) hx hb dX5_scale_43 (by decide) (fun c_43 => absurd c_43 (nI_ge (by omega) (by omega))) (fun c_43 => ?_)
          refine lv_aload_n hx hb dX5_scale_46 rfl (lv_at hl 0 rfl) ?_
          refine pgQ 5 5 4 (by decide) rfl (by decide) rfl rfl C w hi5 (by decide +kernel) dX5_scale_47 (oP5 hX) hS.2.2.2.2.2.2.1 ?_
          refine cvV (n := 0) C w hl dX5_scale_50 (c_X4_clear l G hX S1 0 (by decide)) gX5_scale_X4_clear rfl (by decide +kernel) rfl rfl (Nat.le_of_ble_eq_true rfl) ⟨by decide, by decide⟩ (by decide) rfl (oP4 hX (by decide)) (fun S3 H locs hp w => ?_)
          subst hp
          refine lv_aload_n hx hb dX5_scale_53 rfl (lv_at hl 0 rfl) ?_
          refine pgQ 5 5 4 (by decide) rfl (by decide) rfl rfl C w hi5 (by decide +kernel) dX5_scale_54 (oP5 hX) hS.2.2.2.2.2.2.1 ?_
          refine lv_aload_n hx hb dX5_scale_57 rfl (lv_at hl 1 rfl) ?_
          refine pgQ 2 3 9 (by decide) rfl (by decide) rfl rfl C w hi2 (by decide +kernel) dX5_scale_58 (oP2 hX ha) (r1 := a) (lk2 hS ha) ?_
          refine lv_iload hx hb dX5_scale_61 (lv_at hl 7 rfl) ?_
          refine paJ C w dX5_scale_63 (oP9 hX ha) rfl (oN9 hX ha) (by omega) (by decide) (v := sJ S 9 a k) (by rw [sJ_wd_n (by simp)]; exact e9) ?_
          refine lv_lload hx hb dX5_scale_64 (lv_at hl 5 rfl) ?_
          refine cvV (n := 2) C w hl dX5_scale_66 (c_X4_addProduct l G hX _ 0 0 (by decide) (sJ_wd_0 _ _ _) (sJ_wd_1 _ _ _) _ _ (by rw [hf]; exact hfb)) gX5_scale_X4_addProduct rfl (by decide +kernel) rfl rfl (Nat.le_of_ble_eq_true rfl) ⟨by decide, by decide⟩ (by decide) rfl (oP4 hX (by decide)) (fun S3 H locs hp w => ?_)
          rw [wd_wd, Int.zero_add, hf] at hp
          subst hp
          refine lv_aload_n hx hb dX5_scale_69 rfl (lv_at hl 0 rfl) ?_
          refine pgQ 5 5 4 (by decide) rfl (by decide) rfl rfl C w hi5 (by decide +kernel) dX5_scale_70 (oP5 hX) hS.2.2.2.2.2.2.1 ?_
          refine lv_lload hx hb dX5_scale_73 (lv_at hl 6 rfl) ?_
          refine cvV (n := 1) C w hl dX5_scale_75 (c_X4_divideDown l G hX _ 0 _ (by decide) (sJ_wd_0 _ _ _) (sJ_wd_1 _ _ _) (by omega) (by omega) dv (by rw [hdv]; exact hdb)) gX5_scale_X4_divideDown rfl (by decide +kernel) rfl rfl (Nat.le_of_ble_eq_true rfl) ⟨by decide, by decide⟩ (by decide) rfl (oP4 hX (by decide)) (fun S3 H locs hp w => ?_)
          rw [wd_wd, hdv, show (sJ S 9 a k).toInt * tU u d / tD d = qG u d (sJ S 9 a k) from rfl] at hp
          subst hp
          refine lv_aload_n hx hb dX5_scale_78 rfl (lv_at hl 0 rfl) ?_
          refine pgQ 5 5 4 (by decide) rfl (by decide) rfl rfl C w hi5 (by decide +kernel) dX5_scale_79 (oP5 hX) hS.2.2.2.2.2.2.1 ?_
          refine cvI (n := 0) C w hl dX5_scale_82 (c_X4_fits l G hX _ 0 _ (by decide) (sJ_wd_0 _ _ _) (sJ_wd_1 _ _ _) (by unfold qG; omega) (by unfold qG; omega)) gX5_scale_X4_fits rfl (by decide +kernel) rfl rfl (Nat.le_of_ble_eq_true rfl) ⟨by decide, by decide⟩ (by decide) rfl (oP4 hX (by decide)) (fun v5 S5 H locs hp w => ?_)
          obtain ⟨q5, e0⟩ := hp
          rw [e0] at w
          refine lv_if_ne (tgt := 90) hx hb dX5_scale_85 (by decide) (fun c_85 => ?_) (fun c_85 => ?_)
          · refine lv_aload hx hb dX5_scale_90 (lv_at hl 4 rfl) ?_
            refine pgQ 2 3 9 (by decide) rfl (by decide) rfl rfl C w hi2 (by decide +kernel) dX5_scale_92 (oP2 hX hr) (r1 := r) (lk2 hS hr) ?_
            refine lv_iload hx hb dX5_scale_95 (lv_at hl 7 rfl) ?_
            refine lv_aload_n hx hb dX5_scale_97 rfl (lv_at hl 0 rfl) ?_
            refine pgQ 5 5 4 (by decide) rfl (by decide) rfl rfl C w hi5 (by decide +kernel) dX5_scale_98 (oP5 hX) hS.2.2.2.2.2.2.1 ?_
            refine cvL (n := 0) C w hl dX5_scale_101 (c_X4_value l G hX _ 0 _ (by decide) (sJ_wd_0 _ _ _) (sJ_wd_1 _ _ _)) gX5_scale_X4_value rfl (by decide +kernel) rfl rfl (Nat.le_of_ble_eq_true rfl) ⟨by decide, by decide⟩ (by decide) rfl (oP4 hX (by decide)) (fun v6 S6 H locs hp w => ?_)
            obtain ⟨hv6, e0⟩ := hp
            rw [e0] at w
            refine psJ C w dX5_scale_104 (oP9 hX hr) rfl (oN9 hX hr) (by omega) (by decide) (fun H locs w => ?_)
            refine lv_iinc (v := nI (k + 1)) hx hb dX5_scale_105 hl (k := 7) rfl (nI_1 k) (by decide) rfl (fun ls hl => ?_)
            refine lv_goto (tgt := 37) hx hb dX5_scale_108 (by decide) ?_
            refine ih (k + 1) _ _ _ _ (by omega) ?_ (lt_s hI (yes_of q5 c_85)) w (lv_sub hl [1, 2, 3, 4, 5, 6, 7, 0] rfl)
            have h9 : eq4 (rwk (fm S r (sI S 2 a 0) (sI S 2 a 1) (sI S 2 a 2)) r (fun k => Int64.ofInt (qG u d (sJ S 9 a k))) (sJ S 9 r) (k + 1)) (uJ (wd S1 0 (qG u d (sJ S 9 a k))) 9 r k v6) := by have h8 := (hE.tr (eq4_wd S1 0 (qG u d (sJ S 9 a k)))).uJ 9 r k v6; rwa [rwk_s (g := (fun k => Int64.ofInt (qG u d (sJ S 9 a k)))) hv6] at h8
            exact h9
          · refine lv_iconst (v := 0) hx hb dX5_scale_88 (by decide) ?_
            exact hret _ _ _ _ _ _ dX5_scale_89 w (by decide) (Or.inr ⟨rfl, fun q => no_of q5 c_85 (q k (by omega)), ((eqN_fm S r _ _ _).tr (eqN_rwk _ r _ _ k)).tr ((hE.tr (eq4_wd S1 0 _)).N r)⟩)
      exact loop_37 z 0 _ _ _ _ (by omega) (by rw [rwk_0 (S := fm S r _ _ _) (o := sJ S 9 r) (fun _ => rfl)]; exact eq4.rf _) lt_0 w (lv_sub hl [2, 3, 4, 5, 6, 7, 1, 0] rfl)
    refine lv_iload_n hx hb dX5_scale_14 rfl (lv_at hl 4 rfl) ?_
    refine lv_if_ge (tgt := 24) hx hb dX5_scale_15 (by decide) (fun c_15 => ?_) (fun c_15 => ?_)
    · refine lv_iload_n hx hb dX5_scale_24 rfl (lv_at hl 4 rfl) ?_
      refine lv_i2l hx hb dX5_scale_25 rfl ?_
      exact join_26 _ _ _ _ (by unfold tD; first | (rw [if_neg (by rw [Int32.le_iff_toInt_le, i32_0] at c_15; omega)]; exact Int32.toInt_toInt64 d) | (rw [if_pos (by rw [Int32.le_iff_toInt_le, i32_0] at c_15; omega)]; exact neg_l d)) w (lv_sub hl [1, 2, 3, 4, 5, 0] rfl)
    · refine lv_iload_n hx hb dX5_scale_18 rfl (lv_at hl 4 rfl) ?_
      refine lv_i2l hx hb dX5_scale_19 rfl ?_
      refine lv_lneg hx hb dX5_scale_20 ?_
      refine lv_goto (tgt := 26) hx hb dX5_scale_21 (by decide) ?_
      exact join_26 _ _ _ _ (by unfold tD; first | (rw [if_neg (by rw [Int32.le_iff_toInt_le, i32_0] at c_15; omega)]; exact Int32.toInt_toInt64 d) | (rw [if_pos (by rw [Int32.le_iff_toInt_le, i32_0] at c_15; omega)]; exact neg_l d)) w (lv_sub hl [1, 2, 3, 4, 5, 0] rfl)
  refine lv_iload_n hx hb dX5_scale_0 rfl (lv_at hl 3 rfl) ?_
  refine lv_if_ge (tgt := 10) hx hb dX5_scale_1 (by decide) (fun c_1 => ?_) (fun c_1 => ?_)
  · refine lv_iload_n hx hb dX5_scale_10 rfl (lv_at hl 2 rfl) ?_
    refine lv_i2l hx hb dX5_scale_11 rfl ?_
    exact join_12 _ _ _ _ (by unfold tU; first | (rw [if_neg (by rw [Int32.le_iff_toInt_le, i32_0] at c_1; omega)]; exact Int32.toInt_toInt64 u) | (rw [if_pos (by rw [Int32.le_iff_toInt_le, i32_0] at c_1; omega)]; exact neg_l u)) w (lv_sub hl [0, 1, 2, 3, 4] rfl)
  · refine lv_iload_n hx hb dX5_scale_4 rfl (lv_at hl 2 rfl) ?_
    refine lv_i2l hx hb dX5_scale_5 rfl ?_
    refine lv_lneg hx hb dX5_scale_6 ?_
    refine lv_goto (tgt := 12) hx hb dX5_scale_7 (by decide) ?_
    exact join_12 _ _ _ _ (by unfold tU; first | (rw [if_neg (by rw [Int32.le_iff_toInt_le, i32_0] at c_1; omega)]; exact Int32.toInt_toInt64 u) | (rw [if_pos (by rw [Int32.le_iff_toInt_le, i32_0] at c_1; omega)]; exact neg_l u)) w (lv_sub hl [0, 1, 2, 3, 4] rfl)

set_option maxHeartbeats 4000000 in
set_option maxRecDepth 100000 in
/-- times -/
theorem c_X5_times (l : Launch) (G : GT) (hX : okX G) (S : PS) (hS : lkX S) (n : Nat) (hn : sI S 5 0 1 = nI n) (hn60 : n ≤ 60)(hsz : ∀ i, i < n → 0 ≤ (sI S 2 i 2).toInt ∧ (sI S 2 i 2).toInt ≤ 12) (a u d : Int32) : CtI l G yX5_times wsX5_times (rmK 3 78) [.ref (gA G 5 0), .int a, .int u, .int d] S (fun v S2 => spTimes n (fun j => sI S 2 j 0) (fun j => sI S 2 j 2) (fun j => sJ S 9 j) a u d v (eqN S S2 n ∧ (n = 60 → S2 = S)) (fun g => nw S S2 n (sI S 2 (jn a) 0) (sI S 2 (jn a) 1) (jn (sI S 2 (jn a) 2)) g)) := by
  refine ofCtI (cc := cX5_times) (nL := 4) RX5 (by decide +kernel) rfl rfl (Nat.le_of_ble_eq_true rfl) ?_
  intro p e s m args below meth c A Q ls C w hl hret
  have hx := C.1
  have hb := C.2.1
  have hown := C.2.2.2.1
  have hts := C.2.2.2.2.1
  have hi5 : ∀ w ∈ wsX50, w ∈ wsX5_times := by decide +kernel
  refine lv_aload_n hx hb dX5_times_0 rfl (lv_at hl 0 rfl) ?_
  refine lv_iload_n hx hb dX5_times_1 rfl (lv_at hl 1 rfl) ?_
  refine cvI (n := 1) C w hl dX5_times_2 (c_X5_isNumber l G hX S n hn hn60 a) gX5_times_X5_isNumber rfl (by decide +kernel) rfl rfl (Nat.le_of_ble_eq_true rfl) ⟨by decide, by decide⟩ (by decide) rfl (oP5 hX) (fun v1 S9 H locs hp w => ?_)
  obtain ⟨q1, e0⟩ := hp
  rw [e0] at w
  refine lv_if_ne (tgt := 11) hx hb dX5_times_5 (by decide) (fun c_5 => ?_) (fun c_5 => ?_)
  · have ha := yes_of q1 c_5
    have hja := jn_lt ha
    refine lv_aload_n hx hb dX5_times_11 rfl (lv_at hl 0 rfl) ?_
    refine cvI (n := 0) C w hl dX5_times_12 (c_X5_isFull l G hX S n hn hn60) gX5_times_X5_isFull rfl (by decide +kernel) rfl rfl (Nat.le_of_ble_eq_true rfl) ⟨by decide, by decide⟩ (by decide) rfl (oP5 hX) (fun v8 S8 H locs hp w => ?_)
    obtain ⟨qF, e0⟩ := hp
    rw [e0] at w
    refine lv_if_eq (tgt := 21) hx hb dX5_times_15 (by decide) (fun c_15 => ?_) (fun c_15 => ?_)
    · have hnf := no_of qF c_15
      refine lv_aload_n hx hb dX5_times_21 rfl (lv_at hl 0 rfl) ?_
      refine pgQ 5 0 10 (by decide) rfl (by decide) rfl rfl C w hi5 (by decide +kernel) dX5_times_22 (oP5 hX) hS.2.2.1 ?_
      refine lv_iload_n hx hb dX5_times_25 rfl (lv_at hl 1 rfl) ?_
      refine paQ C w dX5_times_26 (oP10 hX (by decide)) (n := jn a) (jn_eq ha) (oN100 hX) (by omega) (by decide) (r1 := jn a) (lk10 hS (by omega)) ?_
      refine cvI (n := 0) C w hl dX5_times_27 (c_X2_isNothing l G hX S (jn a) (by omega)) gX5_times_X2_isNothing rfl (by decide +kernel) rfl rfl (Nat.le_of_ble_eq_true rfl) ⟨by decide, by decide⟩ (by decide) rfl (oP2 hX (by omega)) (fun v2 S2 H locs hp w => ?_)
      obtain ⟨q2, e0⟩ := hp
      rw [e0] at w
      replace q2 := of_if q2
      refine lv_if_eq (tgt := 36) hx hb dX5_times_30 (by decide) (fun c_30 => ?_) (fun c_30 => ?_)
      · refine lv_iload_n hx hb dX5_times_36 rfl (lv_at hl 3 rfl) ?_
        refine lv_if_ne (tgt := 43) hx hb dX5_times_37 (by decide) (fun c_37 => ?_) (fun c_37 => ?_)
        · have hzz : sI S 2 (jn a) 2 = nI (jn (sI S 2 (jn a) 2)) := nI_jn (hsz _ hja).1
          refine lv_aload_n hx hb dX5_times_43 rfl (lv_at hl 0 rfl) ?_
          refine lv_aload_n hx hb dX5_times_44 rfl (lv_at hl 0 rfl) ?_
          refine pgQ 5 0 10 (by decide) rfl (by decide) rfl rfl C w hi5 (by decide +kernel) dX5_times_45 (oP5 hX) hS.2.2.1 ?_
          refine lv_iload_n hx hb dX5_times_48 rfl (lv_at hl 1 rfl) ?_
          refine paQ C w dX5_times_49 (oP10 hX (by decide)) (n := jn a) (jn_eq ha) (oN100 hX) (by omega) (by decide) (r1 := jn a) (lk10 hS (by omega)) ?_
          refine lv_iload_n hx hb dX5_times_50 rfl (lv_at hl 2 rfl) ?_
          refine lv_iload_n hx hb dX5_times_51 rfl (lv_at hl 3 rfl) ?_
          refine lv_aload_n hx hb dX5_times_52 rfl (lv_at hl 0 rfl) ?_
          refine pgQ 5 0 10 (by decide) rfl (by decide) rfl rfl C w hi5 (by decide +kernel) dX5_times_53 (oP5 hX) hS.2.2.1 ?_
          refine lv_aload_n hx hb dX5_times_56 rfl (lv_at hl 0 rfl) ?_
          refine pgI 5 1 (by decide) rfl (by decide) (Or.inl rfl) rfl C w hi5 (by decide +kernel) dX5_times_57 (oP5 hX) (v := nI n) hn ?_
          refine paQ C w dX5_times_60 (oP10 hX (by decide)) rfl (oN100 hX) (by omega) (by decide) (r1 := n) (lk10 hS (by omega)) ?_
          refine cvI (n := 4) C w hl dX5_times_61 (c_X5_scale l G hX S hS n (jn a) (jn (sI S 2 (jn a) 2)) (by omega) (by omega) (by omega) hzz (by have := hsz _ hja; unfold jn at *; omega) u d c_37) gX5_times_X5_scale rfl (by decide +kernel) rfl rfl (Nat.le_of_ble_eq_true rfl) ⟨by decide, by decide⟩ (by decide) rfl (oP5 hX) (fun v4 S4 H locs hp w => ?_)
          refine lv_if_eq (tgt := 74) hx hb dX5_times_64 (by decide) (fun c_64 => ?_) (fun c_64 => ?_)
          · have hq : ¬ (∀ k, k < jn (sI S 2 (jn a) 2) → in64 (qG u d (sJ S 9 (jn a) k))) ∧ eqN S S4 n := by
              rcases hp with h | h
              · rw [h.1] at c_64; exact absurd c_64 (by decide)
              · exact h.2
            refine lv_bipush (v := (-16)) hx hb dX5_times_74 (by decide) ?_
            exact hret _ _ _ _ _ _ dX5_times_76 w (by unfold spTimes; rw [if_pos ha, if_neg hnf, if_neg (no_of q2 c_30), if_neg c_37]; first | exact Or.inr ⟨hq.1, rfl, hq.2, fun h => absurd h hnf⟩ | exact Or.inl ⟨hq.1, e5, hq.2.nw hn⟩)
          · have hq : (∀ k, k < jn (sI S 2 (jn a) 2) → in64 (qG u d (sJ S 9 (jn a) k))) ∧ hs S S4 n (sI S 2 (jn a) 0) (sI S 2 (jn a) 1) (jn (sI S 2 (jn a) 2)) (fun k => Int64.ofInt (qG u d (sJ S 9 (jn a) k))) := by
              rcases hp with h | h
              · exact h.2
              · exact absurd h.1 c_64
            refine lv_aload_n hx hb dX5_times_67 rfl (lv_at hl 0 rfl) ?_
            refine cvI (n := 0) C w hl dX5_times_68 (c_X5_takeNumber l G hX S4 n (by rw [hq.2.n]; exact hn) hn60) gX5_times_X5_takeNumber rfl (by decide +kernel) rfl rfl (Nat.le_of_ble_eq_true rfl) ⟨by decide, by decide⟩ (by decide) rfl (oP5 hX) (fun v5 S5 H locs hp5 w => ?_)
            obtain ⟨e5, e6⟩ := hp5
            rw [e6] at w
            refine lv_goto (tgt := 76) hx hb dX5_times_71 (by decide) ?_
            exact hret _ _ _ _ _ _ dX5_times_76 w (by unfold spTimes; rw [if_pos ha, if_neg hnf, if_neg (no_of q2 c_30), if_neg c_37]; first | exact Or.inr ⟨hq.1, rfl, hq.2, fun h => absurd h hnf⟩ | exact Or.inl ⟨hq.1, e5, hq.2.nw hn⟩)
        · refine lv_bipush (v := (-15)) hx hb dX5_times_40 (by decide) ?_
          exact hret _ _ _ _ _ _ dX5_times_42 w (by unfold spTimes; rw [if_pos ha, if_neg hnf, if_neg (no_of q2 c_30), if_pos c_37]; exact ⟨rfl, eqN.rf S n, fun _ => rfl⟩)
      · refine lv_bipush (v := (-11)) hx hb dX5_times_33 (by decide) ?_
        exact hret _ _ _ _ _ _ dX5_times_35 w (by unfold spTimes; rw [if_pos ha, if_neg hnf, if_pos (yes_of q2 c_30)]; exact ⟨rfl, eqN.rf S n, fun _ => rfl⟩)
    · refine lv_bipush (v := (-4)) hx hb dX5_times_18 (by decide) ?_
      exact hret _ _ _ _ _ _ dX5_times_20 w (by unfold spTimes; rw [if_pos ha, if_pos (yes_of qF c_15)]; exact ⟨rfl, eqN.rf S n, fun _ => rfl⟩)
  · refine lv_bipush (v := (-2)) hx hb dX5_times_8 (by decide) ?_
    exact hret _ _ _ _ _ _ dX5_times_10 w (by unfold spTimes; rw [if_neg (no_of q1 c_5)]; exact ⟨rfl, eqN.rf S n, fun _ => rfl⟩)
