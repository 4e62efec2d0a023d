/-- Wide r holds V -/
def wd (S : PS) (r : Nat) (V : Int) : PS := uJ (uJ S 4 r 0 (hiL V)) 4 r 1 (loL V)
theorem sI_wd (S : PS) (r : Nat) (V : Int) : sI (wd S r V) = sI S := rfl
theorem sQ_wd (S : PS) (r : Nat) (V : Int) : sQ (wd S r V) = sQ S := rfl
theorem sJ_wd_0 (S : PS) (r : Nat) (V : Int) : sJ (wd S r V) 4 r 0 = hiL V := by simp [wd, sJ_uJ]
theorem sJ_wd_1 (S : PS) (r : Nat) (V : Int) : sJ (wd S r V) 4 r 1 = loL V := by simp [wd, sJ_uJ]
theorem sJ_wd_n {S : PS} {r : Nat} {V : Int} {c' r' k' : Nat} (h : ¬ (c' = 4 ∧ r' = r)) : sJ (wd S r V) c' r' k' = sJ S c' r' k' := by
  unfold wd
  rw [sJ_uJ, if_neg (fun q => h ⟨q.1, q.2.1⟩), sJ_uJ, if_neg (fun q => h ⟨q.1, q.2.1⟩)]
theorem wd_wd (S : PS) (r : Nat) (V V' : Int) : wd (wd S r V) r V' = wd S r V' := by
  refine PS_ext (fun _ _ _ => rfl) (fun c' r' k' => ?_) (fun _ _ _ => rfl)
  by_cases h : c' = 4 ∧ r' = r
  · obtain ⟨rfl, rfl⟩ := h
    unfold wd
    rw [sJ_uJ, sJ_uJ, sJ_uJ, sJ_uJ, sJ_uJ, sJ_uJ]
    by_cases h1 : k' = 1
    · simp [h1]
    · by_cases h0 : k' = 0
      · simp [h0]
      · simp [h0, h1]
  · rw [sJ_wd_n h, sJ_wd_n h, sJ_wd_n h]
theorem fm_pos {x y : Int64} (hy : 0 < y.toInt) (c : 0 ≤ x ^^^ y) : x - x / y * y = Int64.ofInt (x.toInt % y.toInt) := by
  have hx : 0 ≤ x.toInt := by
    have h1 := mt (xor_neg x y).mpr (Int64.not_lt.mpr c)
    rw [i64_neg, i64_neg] at h1
    omega
  rw [rem_int hy, Int.tmod_eq_emod_of_nonneg hx]
theorem fm_zero {x y : Int64} (hy : 0 < y.toInt) (c : x - x / y * y = 0) : x - x / y * y = Int64.ofInt (x.toInt % y.toInt) := by
  have hf := tdiv_facts x.toInt hy
  have a3 := i64_hi y
  rw [rem_int hy] at c ⊢
  have e : x.toInt.tmod y.toInt = 0 := by
    have := congrArg Int64.toInt c
    rwa [i64_small (by omega) (by omega)] at this
  have := ((Int.ediv_emod_unique hy).mpr ⟨show 0 + y.toInt * x.toInt.tdiv y.toInt = x.toInt by rw [Int.mul_comm]; omega, Int.le_refl 0, hy⟩).2
  rw [e, this]
theorem fm_neg {x y : Int64} (hy : 0 < y.toInt) (c : ¬ 0 ≤ x ^^^ y) (c2 : ¬ x - x / y * y = 0) : x - x / y * y + y = Int64.ofInt (x.toInt % y.toInt) := by
  have hx : x.toInt < 0 := by
    have h1 := (xor_neg x y).mp (Int64.not_le.mp c)
    rw [i64_neg, i64_neg] at h1
    omega
  have hf := tdiv_facts x.toInt hy
  have a3 := i64_hi y
  rw [rem_int hy] at c2 ⊢
  have e : ¬ x.toInt.tmod y.toInt = 0 := fun q => c2 (by rw [q]; rfl)
  have := ((Int.ediv_emod_unique hy).mpr ⟨show (x.toInt.tmod y.toInt + y.toInt) + y.toInt * (x.toInt.tdiv y.toInt - 1) = x.toInt by rw [Int.mul_sub, Int.mul_comm y.toInt (x.toInt.tdiv y.toInt)]; omega, by omega, by omega⟩).2
  rw [i64_add, i64_small (by omega) (by omega), this]
theorem fd_pos {x y : Int64} (hy : 0 < y.toInt) (c : 0 ≤ x ^^^ y) : x / y = Int64.ofInt (x.toInt / y.toInt) := by
  have hx : 0 ≤ x.toInt := by
    have h1 := mt (xor_neg x y).mpr (Int64.not_lt.mpr c)
    rw [i64_neg, i64_neg] at h1
    omega
  have e := div_pos_int (x := x) hy
  rw [Int.tdiv_eq_ediv_of_nonneg hx] at e
  rw [← e, Int64.ofInt_toInt]
theorem dv_mul {x y : Int64} (hy : 0 < y.toInt) : (x / y * y = x) ↔ x.toInt.tmod y.toInt = 0 := by
  have hf := tdiv_facts x.toInt hy
  have a1 := i64_lo x
  have a2 := i64_hi x
  have a3 := i64_hi y
  rw [i64_mul, div_pos_int hy, show x.toInt.tdiv y.toInt * y.toInt = x.toInt - x.toInt.tmod y.toInt from by omega]
  constructor
  · intro h
    have := congrArg Int64.toInt h
    rw [i64_small (by omega) (by omega)] at this
    omega
  · intro h
    rw [h, Int.sub_zero, Int64.ofInt_toInt]
theorem fd_zero {x y : Int64} (hy : 0 < y.toInt) (c : x / y * y = x) : x / y = Int64.ofInt (x.toInt / y.toInt) := by
  have e0 := (dv_mul hy).mp c
  have hf := tdiv_facts x.toInt hy
  have := ((Int.ediv_emod_unique hy).mpr ⟨show 0 + y.toInt * x.toInt.tdiv y.toInt = x.toInt by rw [Int.mul_comm]; omega, Int.le_refl 0, hy⟩).1
  rw [this, ← div_pos_int hy, Int64.ofInt_toInt]
theorem fd_neg {x y : Int64} (hy : 0 < y.toInt) (c : ¬ 0 ≤ x ^^^ y) (c2 : ¬ x / y * y = x) : x / y - 1 = Int64.ofInt (x.toInt / y.toInt) := by
  have hx : x.toInt < 0 := by
    have h1 := (xor_neg x y).mp (Int64.not_le.mp c)
    rw [i64_neg, i64_neg] at h1
    omega
  have e0 : ¬ x.toInt.tmod y.toInt = 0 := fun q => c2 ((dv_mul hy).mpr q)
  have hf := tdiv_facts x.toInt hy
  have := ((Int.ediv_emod_unique hy).mpr ⟨show (x.toInt.tmod y.toInt + y.toInt) + y.toInt * (x.toInt.tdiv y.toInt - 1) = x.toInt by rw [Int.mul_sub, Int.mul_comm y.toInt (x.toInt.tdiv y.toInt)]; omega, by omega, by omega⟩).1
  rw [this, i64_sub, div_pos_int hy]
  rfl
theorem div_two {H L d : Int} (hd : 1 ≤ d) (hL : 0 ≤ L) : (H * 4294967296 + L) / d = H / d * 4294967296 + (H % d * 4294967296 + L) / d := by
  have h1 : H = d * (H / d) + H % d := (Int.mul_ediv_add_emod H d).symm
  have e : H * 4294967296 + L = (H % d * 4294967296 + L) + H / d * 4294967296 * d := by
    have : H * 4294967296 = (d * (H / d) + H % d) * 4294967296 := congrArg (· * 4294967296) h1
    rw [this, Int.add_mul, Int.mul_assoc, Int.mul_comm d]; omega
  rw [e, Int.add_mul_ediv_right _ _ (by omega)]; omega
theorem dd_eq (S : PS) (r : Nat) {V : Int} (h1 : -39614081257132168796771975168 ≤ V) (h2 : V < 39614081257132168796771975168) {d : Int64} (hd : 1 ≤ d.toInt ∧ d.toInt ≤ 2147483648) :
    uJ (uJ S 4 r 0 (Int64.ofInt ((hiL V).toInt / d.toInt))) 4 r 1 ((Int64.ofInt ((hiL V).toInt % d.toInt) <<< ((32 : Int32).toInt64 &&& 63) ||| loL V) / d) = wd S r (V / d.toInt) := by
  have hm1 := Int.emod_nonneg (V / 4294967296) (show d.toInt ≠ 0 by omega)
  have hm2 := Int.emod_lt_of_pos (V / 4294967296) (show 0 < d.toInt by omega)
  have hV : V / d.toInt = V / 4294967296 / d.toInt * 4294967296 + (V / 4294967296 % d.toInt * 4294967296 + V % 4294967296) / d.toInt := by
    have := div_two (H := V / 4294967296) (L := V % 4294967296) hd.1 (by omega)
    rwa [show V / 4294967296 * 4294967296 + V % 4294967296 = V by omega] at this
  have hq1 : 0 ≤ (V / 4294967296 % d.toInt * 4294967296 + V % 4294967296) / d.toInt := Int.ediv_nonneg (by omega) (by omega)
  have hq2 : (V / 4294967296 % d.toInt * 4294967296 + V % 4294967296) / d.toInt < 4294967296 := by
    rw [Int.ediv_lt_iff_lt_mul (by omega)]
    omega
  have eA : Int64.ofInt ((hiL V).toInt / d.toInt) = hiL (V / d.toInt) := by
    rw [hiL_int h1 h2]
    unfold hiL
    congr 1
    rw [hV]; omega
  have eB : (Int64.ofInt ((hiL V).toInt % d.toInt) <<< ((32 : Int32).toInt64 &&& 63) ||| loL V) / d = loL (V / d.toInt) := by
    rw [hiL_int h1 h2, or_low (loL_nat V) (by omega), shl32, ← Int64.ofInt_mul]
    unfold loL
    rw [← Int64.ofInt_add]
    apply Int64.toInt_inj.mp
    rw [div_pos_int (by omega), i64_small (by omega) (by omega), i64_small (by omega) (by omega), Int.tdiv_eq_ediv_of_nonneg (by omega)]
    rw [hV]; omega
  rw [eA, eB]; rfl
set_option maxHeartbeats 4000000 in
set_option maxRecDepth 100000 in
/-- Wide.clear -/
theorem c_X4_clear (l : Launch) (G : GT) (hX : okX G) (S : PS) (r : Nat) (hr : r < 3) : CtV l G yX4_clear wsX4_clear (rmK 0 0) [.ref (gA G 4 r)] S (fun S2 => S2 = wd S r 0) := by
  refine ofCtV (cc := cX4_clear) (nL := 1) RX4 (by decide +kernel) rfl rfl (Nat.le_of_ble_eq_true rfl) ?_
  intro p e s m args below meth c A Q ls C w hl hret
  have hx := C.1
  have hb := C.2.1
  have hown := C.2.2.2.1
  have hts := C.2.2.2.2.1
  have hi4 : ∀ w ∈ wsX40, w ∈ wsX4_clear := by decide +kernel
  refine lv_aload_n hx hb dX4_clear_0 rfl (lv_at hl 0 rfl) ?_
  refine lv_lconst (v := 0) hx hb dX4_clear_1 (by decide) ?_
  refine ppJ 4 0 (by decide) rfl (by decide) rfl rfl tyX4_ok nmX4 rfl (by decide +kernel) C w hi4 (by decide +kernel) dX4_clear_2 (oP4 hX (by assumption)) (fun H locs w => ?_)
  refine lv_aload_n hx hb dX4_clear_5 rfl (lv_at hl 0 rfl) ?_
  refine lv_lconst (v := 0) hx hb dX4_clear_6 (by decide) ?_
  refine ppJ 4 1 (by decide) rfl (by decide) rfl rfl tyX4_ok nmX4 rfl (by decide +kernel) C w hi4 (by decide +kernel) dX4_clear_7 (oP4 hX (by assumption)) (fun H locs w => ?_)
  exact hret _ _ _ _ _ dX4_clear_10 w (by rw [wd, hiL_0, loL_0])

set_option maxHeartbeats 4000000 in
set_option maxRecDepth 100000 in
/-- Wide.addProduct -/
theorem c_X4_addProduct (l : Launch) (G : GT) (hX : okX G) (S : PS) (r : Nat) (V : Int) (hr : r < 3) (hH : sJ S 4 r 0 = hiL V) (hL : sJ S 4 r 1 = loL V) (v f : Int64) (hf : -2147483648 ≤ f.toInt ∧ f.toInt ≤ 2147483648) : CtV l G yX4_addProduct wsX4_addProduct (rmK 0 0) [.ref (gA G 4 r), .long v, .long f] S (fun S2 => S2 = wd S r (V + v.toInt * f.toInt)) := by
  refine ofCtV (cc := cX4_addProduct) (nL := 9) RX4 (by decide +kernel) rfl rfl (Nat.le_of_ble_eq_true rfl) ?_
  intro p e s m args below meth c A Q ls C w hl hret
  have hx := C.1
  have hb := C.2.1
  have hown := C.2.2.2.1
  have hts := C.2.2.2.2.1
  have hi4 : ∀ w ∈ wsX40, w ∈ wsX4_addProduct := by decide +kernel
  refine lv_lload_n hx hb dX4_addProduct_0 rfl (lv_at hl 1 rfl) ?_
  refine lv_ldc2 (v := (4294967295)) hx hb hown (hts (.constantLong RX4 16 (4294967295)) (by decide +kernel)) dX4_addProduct_1 ?_
  refine lv_land hx hb dX4_addProduct_4 ?_
  refine lv_lload_n hx hb dX4_addProduct_5 rfl (lv_at hl 2 rfl) ?_
  refine lv_lmul hx hb dX4_addProduct_6 ?_
  refine lv_lstore hx hb dX4_addProduct_7 hl (by decide) rfl (fun ls hl => ?_)
  refine lv_aload_n hx hb dX4_addProduct_9 rfl (lv_at hl 1 rfl) ?_
  refine pgJ 4 1 (by decide) rfl (by decide) rfl rfl C w hi4 (by decide +kernel) dX4_addProduct_10 (oP4 hX (by assumption)) hL ?_
  refine lv_lload hx hb dX4_addProduct_13 (lv_at hl 0 rfl) ?_
  refine lv_ldc2 (v := (4294967295)) hx hb hown (hts (.constantLong RX4 16 (4294967295)) (by decide +kernel)) dX4_addProduct_15 ?_
  refine lv_land hx hb dX4_addProduct_18 ?_
  refine lv_ladd hx hb dX4_addProduct_19 ?_
  refine lv_lstore hx hb dX4_addProduct_20 hl (by decide) rfl (fun ls hl => ?_)
  refine lv_aload_n hx hb dX4_addProduct_22 rfl (lv_at hl 2 rfl) ?_
  refine lv_dup hx hb dX4_addProduct_23 rfl ?_
  refine pgJ 4 0 (by decide) rfl (by decide) rfl rfl C w hi4 (by decide +kernel) dX4_addProduct_24 (oP4 hX (by assumption)) hH ?_
  refine lv_lload_n hx hb dX4_addProduct_27 rfl (lv_at hl 3 rfl) ?_
  refine lv_bipush (v := 32) hx hb dX4_addProduct_28 (by decide) ?_
  refine lv_lshr hx hb dX4_addProduct_30 rfl ?_
  refine lv_lload_n hx hb dX4_addProduct_31 rfl (lv_at hl 4 rfl) ?_
  refine lv_lmul hx hb dX4_addProduct_32 ?_
  refine lv_lload hx hb dX4_addProduct_33 (lv_at hl 1 rfl) ?_
  refine lv_bipush (v := 32) hx hb dX4_addProduct_35 (by decide) ?_
  refine lv_lshr hx hb dX4_addProduct_37 rfl ?_
  refine lv_ladd hx hb dX4_addProduct_38 ?_
  refine lv_lload hx hb dX4_addProduct_39 (lv_at hl 0 rfl) ?_
  refine lv_bipush (v := 32) hx hb dX4_addProduct_41 (by decide) ?_
  refine lv_lshr hx hb dX4_addProduct_43 rfl ?_
  refine lv_ladd hx hb dX4_addProduct_44 ?_
  refine lv_ladd hx hb dX4_addProduct_45 ?_
  refine ppJ 4 0 (by decide) rfl (by decide) rfl rfl tyX4_ok nmX4 rfl (by decide +kernel) C w hi4 (by decide +kernel) dX4_addProduct_46 (oP4 hX (by assumption)) (fun H locs w => ?_)
  refine lv_aload_n hx hb dX4_addProduct_49 rfl (lv_at hl 2 rfl) ?_
  refine lv_lload hx hb dX4_addProduct_50 (lv_at hl 0 rfl) ?_
  refine lv_ldc2 (v := (4294967295)) hx hb hown (hts (.constantLong RX4 16 (4294967295)) (by decide +kernel)) dX4_addProduct_52 ?_
  refine lv_land hx hb dX4_addProduct_55 ?_
  refine ppJ 4 1 (by decide) rfl (by decide) rfl rfl tyX4_ok nmX4 rfl (by decide +kernel) C w hi4 (by decide +kernel) dX4_addProduct_56 (oP4 hX (by assumption)) (fun H locs w => ?_)
  exact hret _ _ _ _ _ dX4_addProduct_59 w (by rw [aP_hi V v f hf, aP_lo V v f hf]; rfl)

set_option maxHeartbeats 4000000 in
set_option maxRecDepth 100000 in
/-- Wide.fits -/
theorem c_X4_fits (l : Launch) (G : GT) (hX : okX G) (S : PS) (r : Nat) (V : Int) (hr : r < 3) (hH : sJ S 4 r 0 = hiL V) (hL : sJ S 4 r 1 = loL V) (h1 : -39614081257132168796771975168 ≤ V) (h2 : V < 39614081257132168796771975168) : CtI l G yX4_fits wsX4_fits (rmK 0 0) [.ref (gA G 4 r)] S (fun v S2 => ((v = 1 ∧ in64 V) ∨ (v = 0 ∧ ¬ in64 V)) ∧ S2 = S) := by
  refine ofCtZ (cc := cX4_fits) (nL := 1) RX4 (by decide +kernel) rfl rfl (Nat.le_of_ble_eq_true rfl) ?_
  intro p e s m args below meth c A Q ls C w hl hret
  have hx := C.1
  have hb := C.2.1
  have hown := C.2.2.2.1
  have hts := C.2.2.2.2.1
  have hi4 : ∀ w ∈ wsX40, w ∈ wsX4_fits := by decide +kernel
  refine lv_aload_n hx hb dX4_fits_0 rfl (lv_at hl 0 rfl) ?_
  refine pgJ 4 0 (by decide) rfl (by decide) rfl rfl C w hi4 (by decide +kernel) dX4_fits_1 (oP4 hX (by assumption)) hH ?_
  refine lv_ldc2 (v := (-2147483648)) hx hb hown (hts (.constantLong RX4 29 (-2147483648)) (by decide +kernel)) dX4_fits_4 ?_
  refine W.lcmp hx hb dX4_fits_7 ?_
  refine lv_if_lt (tgt := 26) hx hb dX4_fits_8 (by decide) (fun c_8 => ?_) (fun c_8 => ?_)
  · rw [lg_cmp_lt] at c_8
    have hq : ¬ in64 V := fun q => ((fit_iff h1 h2).mpr q).1 c_8
    refine lv_iconst (v := 0) hx hb dX4_fits_26 (by decide) ?_
    exact hret _ _ _ _ _ _ dX4_fits_27 w (by decide) ⟨by simp [hq], rfl⟩
  · rw [lg_cmp_lt] at c_8
    refine lv_aload_n hx hb dX4_fits_11 rfl (lv_at hl 0 rfl) ?_
    refine pgJ 4 0 (by decide) rfl (by decide) rfl rfl C w hi4 (by decide +kernel) dX4_fits_12 (oP4 hX (by assumption)) hH ?_
    refine lv_ldc2 (v := (2147483647)) hx hb hown (hts (.constantLong RX4 31 (2147483647)) (by decide +kernel)) dX4_fits_15 ?_
    refine W.lcmp hx hb dX4_fits_18 ?_
    refine lv_if_gt (tgt := 26) hx hb dX4_fits_19 (by decide) (fun c_19 => ?_) (fun c_19 => ?_)
    · rw [lg_cmp_gt] at c_19
      have hq : ¬ in64 V := fun q => ((fit_iff h1 h2).mpr q).2 c_19
      refine lv_iconst (v := 0) hx hb dX4_fits_26 (by decide) ?_
      exact hret _ _ _ _ _ _ dX4_fits_27 w (by decide) ⟨by simp [hq], rfl⟩
    · rw [lg_cmp_gt] at c_19
      have hq : in64 V := (fit_iff h1 h2).mp ⟨c_8, c_19⟩
      refine lv_iconst (v := 1) hx hb dX4_fits_22 (by decide) ?_
      refine lv_goto (tgt := 27) hx hb dX4_fits_23 (by decide) ?_
      exact hret _ _ _ _ _ _ dX4_fits_27 w (by decide) ⟨by simp [hq], rfl⟩

set_option maxHeartbeats 4000000 in
set_option maxRecDepth 100000 in
/-- Wide.value -/
theorem c_X4_value (l : Launch) (G : GT) (hX : okX G) (S : PS) (r : Nat) (V : Int) (hr : r < 3) (hH : sJ S 4 r 0 = hiL V) (hL : sJ S 4 r 1 = loL V) : CtL l G yX4_value wsX4_value (rmK 0 0) [.ref (gA G 4 r)] S (fun v S2 => v = Int64.ofInt V ∧ S2 = S) := by
  refine ofCtL (cc := cX4_value) (nL := 1) RX4 (by decide +kernel) rfl rfl (Nat.le_of_ble_eq_true rfl) ?_
  intro p e s m args below meth c A Q ls C w hl hret
  have hx := C.1
  have hb := C.2.1
  have hown := C.2.2.2.1
  have hts := C.2.2.2.2.1
  have hi4 : ∀ w ∈ wsX40, w ∈ wsX4_value := by decide +kernel
  refine lv_aload_n hx hb dX4_value_0 rfl (lv_at hl 0 rfl) ?_
  refine pgJ 4 0 (by decide) rfl (by decide) rfl rfl C w hi4 (by decide +kernel) dX4_value_1 (oP4 hX (by assumption)) hH ?_
  refine lv_bipush (v := 32) hx hb dX4_value_4 (by decide) ?_
  refine lv_lshl hx hb dX4_value_6 rfl ?_
  refine lv_aload_n hx hb dX4_value_7 rfl (lv_at hl 0 rfl) ?_
  refine pgJ 4 1 (by decide) rfl (by decide) rfl rfl C w hi4 (by decide +kernel) dX4_value_8 (oP4 hX (by assumption)) hL ?_
  refine lv_lor hx hb dX4_value_11 ?_
  exact hret _ _ _ _ _ _ dX4_value_12 w ⟨shlor V, rfl⟩

set_option maxHeartbeats 4000000 in
set_option maxRecDepth 100000 in
/-- Math.floorMod -/
theorem c_J9_floorMod_f86c9 (l : Launch) (G : GT) (S : PS) (x y : Int64) (hy : 0 < y.toInt) : CtL l G yJ9_floorMod_f86c9 wsJ9_floorMod_f86c9 (rmK 0 0) [.long x, .long y] S (fun v S2 => v = Int64.ofInt (x.toInt % y.toInt) ∧ S2 = S) := by
  refine ofCtL (cc := cJ9_floorMod_f86c9) (nL := 6) RJ9 (by decide +kernel) rfl rfl (Nat.le_of_ble_eq_true rfl) ?_
  intro p e s m args below meth c A Q ls C w hl hret
  have hx := C.1
  have hb := C.2.1
  have hown := C.2.2.2.1
  have hts := C.2.2.2.2.1
  refine lv_lload_n hx hb dJ9_floorMod_f86c9_0 rfl (lv_at hl 0 rfl) ?_
  refine lv_lload_n hx hb dJ9_floorMod_f86c9_1 rfl (lv_at hl 1 rfl) ?_
  refine lv_lrem hx hb dJ9_floorMod_f86c9_2 (fun h => by rw [h] at hy; exact absurd hy (by decide)) ?_
  refine lv_lstore hx hb dJ9_floorMod_f86c9_3 hl (by decide) rfl (fun ls hl => ?_)
  refine lv_lload_n hx hb dJ9_floorMod_f86c9_5 rfl (lv_at hl 1 rfl) ?_
  refine lv_lload_n hx hb dJ9_floorMod_f86c9_6 rfl (lv_at hl 2 rfl) ?_
  refine lv_lxor hx hb dJ9_floorMod_f86c9_7 ?_
  refine lv_lconst (v := 0) hx hb dJ9_floorMod_f86c9_8 (by decide) ?_
  refine W.lcmp hx hb dJ9_floorMod_f86c9_9 ?_
  refine lv_if_ge (tgt := 25) hx hb dJ9_floorMod_f86c9_10 (by decide) (fun c_10 => ?_) (fun c_10 => ?_)
  · rw [lg_cmp_ge] at c_10
    refine lv_lload hx hb dJ9_floorMod_f86c9_25 (lv_at hl 0 rfl) ?_
    exact hret _ _ _ _ _ _ dJ9_floorMod_f86c9_27 w ⟨by first | exact fm_pos hy c_10 | exact fm_zero hy c_17, rfl⟩
  · rw [lg_cmp_ge] at c_10
    refine lv_lload hx hb dJ9_floorMod_f86c9_13 (lv_at hl 0 rfl) ?_
    refine lv_lconst (v := 0) hx hb dJ9_floorMod_f86c9_15 (by decide) ?_
    refine W.lcmp hx hb dJ9_floorMod_f86c9_16 ?_
    refine lv_if_eq (tgt := 25) hx hb dJ9_floorMod_f86c9_17 (by decide) (fun c_17 => ?_) (fun c_17 => ?_)
    · rw [lg_cmp_eq] at c_17
      refine lv_lload hx hb dJ9_floorMod_f86c9_25 (lv_at hl 0 rfl) ?_
      exact hret _ _ _ _ _ _ dJ9_floorMod_f86c9_27 w ⟨by first | exact fm_pos hy c_10 | exact fm_zero hy c_17, rfl⟩
    · rw [lg_cmp_eq] at c_17
      refine lv_lload hx hb dJ9_floorMod_f86c9_20 (lv_at hl 0 rfl) ?_
      refine lv_lload_n hx hb dJ9_floorMod_f86c9_22 rfl (lv_at hl 2 rfl) ?_
      refine lv_ladd hx hb dJ9_floorMod_f86c9_23 ?_
      exact hret _ _ _ _ _ _ dJ9_floorMod_f86c9_24 w ⟨fm_neg hy c_10 c_17, rfl⟩

set_option maxHeartbeats 4000000 in
set_option maxRecDepth 100000 in
/-- Math.floorDiv -/
theorem c_J9_floorDiv_f86c9 (l : Launch) (G : GT) (S : PS) (x y : Int64) (hy : 0 < y.toInt) : CtL l G yJ9_floorDiv_f86c9 wsJ9_floorDiv_f86c9 (rmK 0 0) [.long x, .long y] S (fun v S2 => v = Int64.ofInt (x.toInt / y.toInt) ∧ S2 = S) := by
  refine ofCtL (cc := cJ9_floorDiv_f86c9) (nL := 6) RJ9 (by decide +kernel) rfl rfl (Nat.le_of_ble_eq_true rfl) ?_
  intro p e s m args below meth c A Q ls C w hl hret
  have hx := C.1
  have hb := C.2.1
  have hown := C.2.2.2.1
  have hts := C.2.2.2.2.1
  refine lv_lload_n hx hb dJ9_floorDiv_f86c9_0 rfl (lv_at hl 0 rfl) ?_
  refine lv_lload_n hx hb dJ9_floorDiv_f86c9_1 rfl (lv_at hl 1 rfl) ?_
  refine lv_ldiv hx hb dJ9_floorDiv_f86c9_2 (fun h => by rw [h] at hy; exact absurd hy (by decide)) ?_
  refine lv_lstore hx hb dJ9_floorDiv_f86c9_3 hl (by decide) rfl (fun ls hl => ?_)
  refine lv_lload_n hx hb dJ9_floorDiv_f86c9_5 rfl (lv_at hl 1 rfl) ?_
  refine lv_lload_n hx hb dJ9_floorDiv_f86c9_6 rfl (lv_at hl 2 rfl) ?_
  refine lv_lxor hx hb dJ9_floorDiv_f86c9_7 ?_
  refine lv_lconst (v := 0) hx hb dJ9_floorDiv_f86c9_8 (by decide) ?_
  refine W.lcmp hx hb dJ9_floorDiv_f86c9_9 ?_
  refine lv_if_ge (tgt := 27) hx hb dJ9_floorDiv_f86c9_10 (by decide) (fun c_10 => ?_) (fun c_10 => ?_)
  · rw [lg_cmp_ge] at c_10
    refine lv_lload hx hb dJ9_floorDiv_f86c9_27 (lv_at hl 0 rfl) ?_
    exact hret _ _ _ _ _ _ dJ9_floorDiv_f86c9_29 w ⟨by first | exact fd_pos hy c_10 | exact fd_zero hy c_19, rfl⟩
  · rw [lg_cmp_ge] at c_10
    refine lv_lload hx hb dJ9_floorDiv_f86c9_13 (lv_at hl 0 rfl) ?_
    refine lv_lload_n hx hb dJ9_floorDiv_f86c9_15 rfl (lv_at hl 2 rfl) ?_
    refine lv_lmul hx hb dJ9_floorDiv_f86c9_16 ?_
    refine lv_lload_n hx hb dJ9_floorDiv_f86c9_17 rfl (lv_at hl 1 rfl) ?_
    refine W.lcmp hx hb dJ9_floorDiv_f86c9_18 ?_
    refine lv_if_eq (tgt := 27) hx hb dJ9_floorDiv_f86c9_19 (by decide) (fun c_19 => ?_) (fun c_19 => ?_)
    · rw [lg_cmp_eq] at c_19
      refine lv_lload hx hb dJ9_floorDiv_f86c9_27 (lv_at hl 0 rfl) ?_
      exact hret _ _ _ _ _ _ dJ9_floorDiv_f86c9_29 w ⟨by first | exact fd_pos hy c_10 | exact fd_zero hy c_19, rfl⟩
    · rw [lg_cmp_eq] at c_19
      refine lv_lload hx hb dJ9_floorDiv_f86c9_22 (lv_at hl 0 rfl) ?_
      refine lv_lconst (v := 1) hx hb dJ9_floorDiv_f86c9_24 (by decide) ?_
      refine lv_lsub hx hb dJ9_floorDiv_f86c9_25 ?_
      exact hret _ _ _ _ _ _ dJ9_floorDiv_f86c9_26 w ⟨fd_neg hy c_10 c_19, rfl⟩

set_option maxHeartbeats 4000000 in
set_option maxRecDepth 100000 in
/-- Wide.divideDown -/
theorem c_X4_divideDown (l : Launch) (G : GT) (hX : okX G) (S : PS) (r : Nat) (V : Int) (hr : r < 3) (hH : sJ S 4 r 0 = hiL V) (hL : sJ S 4 r 1 = loL V) (h1 : -39614081257132168796771975168 ≤ V) (h2 : V < 39614081257132168796771975168) (d : Int64) (hd : 1 ≤ d.toInt ∧ d.toInt ≤ 2147483648) : CtV l G yX4_divideDown wsX4_divideDown (rmK 1 25) [.ref (gA G 4 r), .long d] S (fun S2 => S2 = wd S r (V / d.toInt)) := by
  refine ofCtV (cc := cX4_divideDown) (nL := 5) RX4 (by decide +kernel) rfl rfl (Nat.le_of_ble_eq_true rfl) ?_
  intro p e s m args below meth c A Q ls C w hl hret
  have hx := C.1
  have hb := C.2.1
  have hown := C.2.2.2.1
  have hts := C.2.2.2.2.1
  have hi4 : ∀ w ∈ wsX40, w ∈ wsX4_divideDown := by decide +kernel
  refine lv_lload_n hx hb dX4_divideDown_0 rfl (lv_at hl 1 rfl) ?_
  refine lv_lconst (v := 1) hx hb dX4_divideDown_1 (by decide) ?_
  refine W.lcmp hx hb dX4_divideDown_2 ?_
  refine lv_if_ge (tgt := 7) hx hb dX4_divideDown_3 (by decide) (fun c_3 => ?_) (fun c_3 => absurd ((lg_cmp_ge _ _).mpr (show (1 : Int64) ≤ d from Int64.le_iff_toInt_le.mpr hd.1)) c_3)
  rw [lg_cmp_ge] at c_3
  refine lv_aload_n hx hb dX4_divideDown_7 rfl (lv_at hl 0 rfl) ?_
  refine pgJ 4 0 (by decide) rfl (by decide) rfl rfl C w hi4 (by decide +kernel) dX4_divideDown_8 (oP4 hX (by assumption)) hH ?_
  refine lv_lload_n hx hb dX4_divideDown_11 rfl (lv_at hl 1 rfl) ?_
  refine csL (n := 2) C w hl dX4_divideDown_12 (c_J9_floorMod_f86c9 l G S _ _ (by omega)) gX4_divideDown_J9_floorMod_f86c9 rfl (by decide +kernel) rfl rfl (Nat.le_of_ble_eq_true rfl) ⟨by decide, by decide⟩ (fun v2 S2 H locs hp w => ?_)
  obtain ⟨e2, e0⟩ := hp
  rw [e0] at w
  refine lv_lstore_n hx hb dX4_divideDown_15 rfl hl (by decide) rfl (fun ls hl => ?_)
  refine lv_aload_n hx hb dX4_divideDown_16 rfl (lv_at hl 1 rfl) ?_
  refine lv_aload_n hx hb dX4_divideDown_17 rfl (lv_at hl 1 rfl) ?_
  refine pgJ 4 0 (by decide) rfl (by decide) rfl rfl C w hi4 (by decide +kernel) dX4_divideDown_18 (oP4 hX (by assumption)) hH ?_
  refine lv_lload_n hx hb dX4_divideDown_21 rfl (lv_at hl 2 rfl) ?_
  refine csL (n := 2) C w hl dX4_divideDown_22 (c_J9_floorDiv_f86c9 l G _ _ _ (by omega)) gX4_divideDown_J9_floorDiv_f86c9 rfl (by decide +kernel) rfl rfl (Nat.le_of_ble_eq_true rfl) ⟨by decide, by decide⟩ (fun v3 S3 H locs hp w => ?_)
  obtain ⟨e3, e0⟩ := hp
  rw [e0] at w
  refine ppJ 4 0 (by decide) rfl (by decide) rfl rfl tyX4_ok nmX4 rfl (by decide +kernel) C w hi4 (by decide +kernel) dX4_divideDown_25 (oP4 hX (by assumption)) (fun H locs w => ?_)
  refine lv_aload_n hx hb dX4_divideDown_28 rfl (lv_at hl 1 rfl) ?_
  refine lv_lload_n hx hb dX4_divideDown_29 rfl (lv_at hl 0 rfl) ?_
  refine lv_bipush (v := 32) hx hb dX4_divideDown_30 (by decide) ?_
  refine lv_lshl hx hb dX4_divideDown_32 rfl ?_
  refine lv_aload_n hx hb dX4_divideDown_33 rfl (lv_at hl 1 rfl) ?_
  refine pgJ 4 1 (by decide) rfl (by decide) rfl rfl C w hi4 (by decide +kernel) dX4_divideDown_34 (oP4 hX (by assumption)) (v := loL V) (by rw [sJ_uJ, if_neg (fun q => absurd q.2.2 (by decide))]; exact hL) ?_
  refine lv_lor hx hb dX4_divideDown_37 ?_
  refine lv_lload_n hx hb dX4_divideDown_38 rfl (lv_at hl 2 rfl) ?_
  refine lv_ldiv hx hb dX4_divideDown_39 (fun h => by rw [h] at hd; exact absurd hd.1 (by decide)) ?_
  refine ppJ 4 1 (by decide) rfl (by decide) rfl rfl tyX4_ok nmX4 rfl (by decide +kernel) C w hi4 (by decide +kernel) dX4_divideDown_40 (oP4 hX (by assumption)) (fun H locs w => ?_)
  exact hret _ _ _ _ _ dX4_divideDown_43 w (by rw [e2, e3]; exact dd_eq S r h1 h2 hd)
