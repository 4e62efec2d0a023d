/-! The reference writes the same texts. -/
def ltr (c k : Int32) : Int64 := c.toInt64 <<< ((7 * k).toInt64 &&& 63)
def lw0 : Int64 := ltr 104 0 ||| ltr 97 1 ||| ltr 114 2 ||| ltr 100 3
def lw1 : Int64 := ltr 109 0 ||| ltr 101 1 ||| ltr 100 2 ||| ltr 105 3 ||| ltr 117 4 ||| ltr 109 5
def lw2 : Int64 := ltr 115 0 ||| ltr 111 1 ||| ltr 102 2 ||| ltr 116 3
def mW (w : Nat) : List Int32 := if w = 0 then [104, 97, 114, 100] else if w = 1 then [109, 101, 100, 105, 117, 109] else [115, 111, 102, 116]
theorem lw0_at : ∀ j, j < 4 → ((lw0 >>> ((7 * nI j).toInt64 &&& 63)) &&& 127).toInt32 = (mW 0).getD j 0 := by decide +kernel
theorem lw1_at : ∀ j, j < 6 → ((lw1 >>> ((7 * nI j).toInt64 &&& 63)) &&& 127).toInt32 = (mW 1).getD j 0 := by decide +kernel
theorem lw2_at : ∀ j, j < 4 → ((lw2 >>> ((7 * nI j).toInt64 &&& 63)) &&& 127).toInt32 = (mW 2).getD j 0 := by decide +kernel
/-- powers of ten -/
def pw (j : Nat) : Int64 := Int64.ofInt ((10 ^ j : Nat) : Int)
theorem pw_lt {j : Nat} (h : j ≤ 18) : 10 ^ j ≤ 1000000000000000000 := Nat.le_trans (Nat.pow_le_pow_right (by decide) h) (by decide)
theorem pw_toInt {j : Nat} (h : j ≤ 18) : (pw j).toInt = ((10 ^ j : Nat) : Int) := by
  have := pw_lt h
  unfold pw
  generalize 10 ^ j = N at *
  exact i64_small (by omega) (by omega)
theorem pw_pos {j : Nat} (h : j ≤ 18) : 0 < (pw j).toInt := by
  rw [pw_toInt h]
  have := Nat.pow_pos (n := j) (show 0 < 10 by decide)
  omega
theorem pw_ne {j : Nat} (h : j ≤ 18) : ¬ pw j = 0 := fun q => by
  have := pw_pos h
  rw [q] at this
  exact absurd this (by decide)
theorem pw_s (j : Nat) : pw j * 10 = pw (j + 1) := by
  unfold pw
  rw [show (10 : Int64) = Int64.ofInt 10 from rfl, ← Int64.ofInt_mul, Nat.pow_succ]
  congr 1
theorem dvq (v : Int64) {j : Nat} (h : j ≤ 18) : (v / pw j).toInt.natAbs = v.toInt.natAbs / 10 ^ j := by
  rw [div_pos_int (pw_pos h), pw_toInt h, Int.natAbs_tdiv]
  rfl
def pz : Nat → Int64
  | 0 => 0
  | m + 1 => pw m
theorem pz_le {m : Nat} (h : m ≤ 19) : pz m ≤ 0 ↔ m = 0 := by
  cases m with
  | zero => exact ⟨fun _ => rfl, fun _ => by decide⟩
  | succ m =>
    show pw m ≤ 0 ↔ _
    rw [Int64.le_iff_toInt_le]
    have := pw_pos (j := m) (by omega)
    have e : (0 : Int64).toInt = 0 := rfl
    omega
theorem pz_s {m : Nat} (h : m ≤ 18) : pw m / 10 = pz m := by
  cases m with
  | zero => decide
  | succ m =>
    show _ = pw m
    apply Int64.toInt_inj.mp
    rw [div_pos_int (by decide), pw_toInt h, pw_toInt (by omega), i64_10, Nat.pow_succ]
    generalize 10 ^ m = N
    rw [Int.tdiv_eq_ediv_of_nonneg (by omega)]
    omega
def fg (v : Int64) (m : Nat) : Int64 := v / pw m - v / pw m / 10 * 10
theorem fg_abs (v : Int64) {m : Nat} (h : m ≤ 18) : (fg v m).toInt.natAbs = v.toInt.natAbs / 10 ^ m % 10 := by
  have h1 := tdiv_facts (v / pw m).toInt (b := 10) (by decide)
  unfold fg
  rw [rem_int (by decide), i64_10, i64_small (by omega) (by omega), Int.natAbs_tmod, dvq v h]
  rfl
theorem toI32_small {x : Int64} {d : Nat} (h : x.toInt = d) (hd : d < 2 ^ 31) : x.toInt32 = nI d := by
  apply Int32.toInt_inj.mp
  rw [Int64.toInt_toInt32, h, nI_toInt hd, Int.bmod_eq_of_le (by omega) (by omega)]
theorem fg_pos {v : Int64} {m : Nat} (h : m ≤ 18) (q : 0 ≤ fg v m) : (fg v m).toInt32 = nI (v.toInt.natAbs / 10 ^ m % 10) := by
  rw [Int64.le_iff_toInt_le] at q
  have e : (0 : Int64).toInt = 0 := rfl
  have := fg_abs v h
  exact toI32_small (by omega) (by omega)
theorem fg_neg {v : Int64} {m : Nat} (h : m ≤ 18) (q : ¬ 0 ≤ fg v m) : (-(fg v m)).toInt32 = nI (v.toInt.natAbs / 10 ^ m % 10) := by
  rw [Int64.le_iff_toInt_le] at q
  have e : (0 : Int64).toInt = 0 := rfl
  have h2 := fg_abs v h
  refine toI32_small ?_ (by omega)
  rw [Int64.toInt_neg, Int.bmod_eq_of_le (by omega) (by omega)]
  omega
theorem fg_c (a m : Nat) : (48 : Int32) + nI (a / 10 ^ m % 10) = nI (48 + a / 10 ^ m % 10) := by rw [show (48 : Int32) = nI 48 from rfl, nI_add]

set_option maxHeartbeats 4000000 in
set_option maxRecDepth 100000 in
/-- write -/
theorem c_X6_write (l : Launch) (G : GT) (hM : okM G) (S : PS) (hS : lkM S) (L : Nat) (hL : sI S 6 0 15 = nI L) (h400 : L < 400) (c2 : Int32) : CtV l G yX6_write wsX6_write (rmK 0 0) [.ref (gA G 6 0), .int c2] S (fun S2 => S2 = uI (uI S 8 5 L c2) 6 0 15 (nI (L + 1))) := by
  refine ofCtV (cc := cX6_write) (nL := 2) RX6 (by decide +kernel) rfl rfl (Nat.le_of_ble_eq_true rfl) ?_
  intro p e s m args below meth c A Q ls C w hl hret
  have hx := C.1
  have hb := C.2.1
  have hown := C.2.2.2.1
  have hts := C.2.2.2.2.1
  have hi6 : ∀ w ∈ wsX60, w ∈ wsX6_write := by decide +kernel
  refine lv_aload_n hx hb dX6_write_0 rfl (lv_at hl 0 rfl) ?_
  refine pgQ 6 16 8 (by decide) rfl (by decide) rfl rfl C w hi6 (by decide +kernel) dX6_write_1 (oM6 hM) (hS.2.2.2.2.2.2.2.2.1) ?_
  refine lv_aload_n hx hb dX6_write_4 rfl (lv_at hl 0 rfl) ?_
  refine pgI 6 15 (by decide) rfl (by decide) (Or.inl rfl) rfl C w hi6 (by decide +kernel) dX6_write_5 (oM6 hM) (v := nI L) hL ?_
  refine lv_iload_n hx hb dX6_write_8 rfl (lv_at hl 1 rfl) ?_
  refine psI C w dX6_write_9 (oM8 hM (by decide)) rfl (nM85 hM) (by omega) (by decide) (fun H locs w => ?_)
  refine lv_aload_n hx hb dX6_write_10 rfl (lv_at hl 0 rfl) ?_
  refine lv_dup hx hb dX6_write_11 rfl ?_
  refine pgI 6 15 (by decide) rfl (by decide) (Or.inl rfl) rfl C w hi6 (by decide +kernel) dX6_write_12 (oM6 hM) (v := nI L) (by rw [sI_uI, if_neg (by simp)]; exact hL) ?_
  refine lv_iconst (v := 1) hx hb dX6_write_15 (by decide) ?_
  refine lv_iadd hx hb dX6_write_16 ?_
  refine ppI 6 15 (by decide) rfl (by decide) rfl rfl tyX6_ok nmX6 rfl (by decide +kernel) C w hi6 (by decide +kernel) dX6_write_17 (oM6 hM) (fun H locs w => ?_)
  rw [nI_1] at w
  exact hret _ _ _ _ _ dX6_write_20 w rfl

set_option maxHeartbeats 4000000 in
set_option maxRecDepth 100000 in
/-- letter -/
theorem c_X6_letter (l : Launch) (G : GT) (S : PS) (c2 k2 : Int32) : CtL l G yX6_letter wsX6_letter (rmK 0 0) [.int c2, .int k2] S (fun v S2 => v = ltr c2 k2 ∧ S2 = S) := by
  refine ofCtL (cc := cX6_letter) (nL := 2) RX6 (by decide +kernel) rfl rfl (Nat.le_of_ble_eq_true rfl) ?_
  intro p e s m args below meth c A Q ls C w hl hret
  have hx := C.1
  have hb := C.2.1
  have hown := C.2.2.2.1
  have hts := C.2.2.2.2.1
  refine lv_iload_n hx hb dX6_letter_0 rfl (lv_at hl 0 rfl) ?_
  refine lv_i2l hx hb dX6_letter_1 rfl ?_
  refine lv_bipush (v := 7) hx hb dX6_letter_2 (by decide) ?_
  refine lv_iload_n hx hb dX6_letter_4 rfl (lv_at hl 1 rfl) ?_
  refine lv_imul hx hb dX6_letter_5 ?_
  refine lv_lshl hx hb dX6_letter_6 rfl ?_
  exact hret _ _ _ _ _ _ dX6_letter_7 w ⟨rfl, rfl⟩

set_option maxHeartbeats 4000000 in
set_option maxRecDepth 100000 in
/-- writeWord -/
theorem c_X6_writeWord0 (l : Launch) (G : GT) (hM : okM G) (S : PS) (hS : lkM S) (L : Nat) (hL : sI S 6 0 15 = nI L) (h400 : L + 4 ≤ 400) : CtV l G yX6_writeWord wsX6_writeWord (rmK 1 21) [.ref (gA G 6 0), .int 0] S (fun S2 => wrP 6 15 8 5 S S2 L (mW 0)) := by
  refine ofCtV (cc := cX6_writeWord) (nL := 6) RX6 (by decide +kernel) rfl rfl (Nat.le_of_ble_eq_true rfl) ?_
  intro p e s m args below meth c A Q ls C w hl hret
  have hx := C.1
  have hb := C.2.1
  have hown := C.2.2.2.1
  have hts := C.2.2.2.2.1
  refine lv_iload_n hx hb dX6_writeWord_0 rfl (lv_at hl 1 rfl) ?_
  refine lv_if_ne (tgt := 8) hx hb dX6_writeWord_1 (by decide) (fun c_1 => absurd rfl c_1) (fun c_1 => ?_)
  refine lv_iconst (v := 4) hx hb dX6_writeWord_4 (by decide) ?_
  refine lv_goto (tgt := 19) hx hb dX6_writeWord_5 (by decide) ?_
  refine lv_istore_n hx hb dX6_writeWord_19 rfl hl (by decide) rfl (fun ls hl => ?_)
  refine lv_iload_n hx hb dX6_writeWord_20 rfl (lv_at hl 2 rfl) ?_
  refine lv_if_ne (tgt := 54) hx hb dX6_writeWord_21 (by decide) (fun c_21 => absurd rfl c_21) (fun c_21 => ?_)
  refine lv_bipush (v := 104) hx hb dX6_writeWord_24 (by decide) ?_
  refine lv_iconst (v := 0) hx hb dX6_writeWord_26 (by decide) ?_
  refine csL (n := 2) C w hl dX6_writeWord_27 (c_X6_letter l G S 104 0) gX6_writeWord_X6_letter rfl (by decide +kernel) rfl rfl (Nat.le_of_ble_eq_true rfl) ⟨by decide, by decide⟩ (fun v0 S9 H locs hp w => ?_)
  obtain ⟨rfl, e0⟩ := hp
  rw [e0] at w
  refine lv_bipush (v := 97) hx hb dX6_writeWord_30 (by decide) ?_
  refine lv_iconst (v := 1) hx hb dX6_writeWord_32 (by decide) ?_
  refine csL (n := 2) C w hl dX6_writeWord_33 (c_X6_letter l G S 97 1) gX6_writeWord_X6_letter rfl (by decide +kernel) rfl rfl (Nat.le_of_ble_eq_true rfl) ⟨by decide, by decide⟩ (fun v1 S9 H locs hp w => ?_)
  obtain ⟨rfl, e0⟩ := hp
  rw [e0] at w
  refine lv_lor hx hb dX6_writeWord_36 ?_
  refine lv_bipush (v := 114) hx hb dX6_writeWord_37 (by decide) ?_
  refine lv_iconst (v := 2) hx hb dX6_writeWord_39 (by decide) ?_
  refine csL (n := 2) C w hl dX6_writeWord_40 (c_X6_letter l G S 114 2) gX6_writeWord_X6_letter rfl (by decide +kernel) rfl rfl (Nat.le_of_ble_eq_true rfl) ⟨by decide, by decide⟩ (fun v2 S9 H locs hp w => ?_)
  obtain ⟨rfl, e0⟩ := hp
  rw [e0] at w
  refine lv_lor hx hb dX6_writeWord_43 ?_
  refine lv_bipush (v := 100) hx hb dX6_writeWord_44 (by decide) ?_
  refine lv_iconst (v := 3) hx hb dX6_writeWord_46 (by decide) ?_
  refine csL (n := 2) C w hl dX6_writeWord_47 (c_X6_letter l G S 100 3) gX6_writeWord_X6_letter rfl (by decide +kernel) rfl rfl (Nat.le_of_ble_eq_true rfl) ⟨by decide, by decide⟩ (fun v3 S9 H locs hp w => ?_)
  obtain ⟨rfl, e0⟩ := hp
  rw [e0] at w
  refine lv_lor hx hb dX6_writeWord_50 ?_
  refine lv_goto (tgt := 130) hx hb dX6_writeWord_51 (by decide) ?_
  refine lv_lstore_n hx hb dX6_writeWord_130 rfl hl (by decide) rfl (fun ls hl => ?_)
  refine lv_iconst (v := 0) hx hb dX6_writeWord_131 (by decide) ?_
  refine lv_istore hx hb dX6_writeWord_132 hl (by decide) rfl (fun ls hl => ?_)
  have loop_134 : ∀ (n : Nat) (j : Nat) (S2 : PS) (H : Heap) (locs : List Loc) (ls : Array Slot), (j + n = 4) → (wrP 6 15 8 5 S S2 L ((mW 0).take j)) → Wd G A s.heap S2 H locs → lv_has ls 6 [(0, .ref (gA G 6 0)), (2, .int 4), (3, .long lw0), (5, .int (nI j))] → W p l e (rmK 1 21) s m args below meth c H locs 0 0 Q (F0 m 134 ls []) := by
    intro n
    induction n with
    | zero =>
      intro j S2 H locs ls hj hw w hl
      have ht : (mW 0).length = 4 := rfl
      have hlt : ((mW 0).take j).length = j := by rw [List.length_take]; omega
      refine lv_iload hx hb dX6_writeWord_134 (lv_at hl 3 rfl) ?_
      refine lv_iload_n hx hb dX6_writeWord_136 rfl (lv_at hl 1 rfl) ?_
      refine lv_icmp_ge (tgt := 162) hx hb dX6_writeWord_137 (by decide) (fun c_137 => ?_) (fun c_137 => absurd (nI_le (a := 4) (by omega) (by omega)) c_137)
      exact hret _ _ _ _ _ dX6_writeWord_162 w (by have e := List.take_of_length_le (l := mW 0) (i := j) (by omega); rw [e] at hw; exact hw)
    | succ n ih =>
      intro j S2 H locs ls hj hw w hl
      have ht : (mW 0).length = 4 := rfl
      have hlt : ((mW 0).take j).length = j := by rw [List.length_take]; omega
      refine lv_iload hx hb dX6_writeWord_134 (lv_at hl 3 rfl) ?_
      refine lv_iload_n hx hb dX6_writeWord_136 rfl (lv_at hl 1 rfl) ?_
      refine lv_icmp_ge (tgt := 162) hx hb dX6_writeWord_137 (by decide) (fun c_137 => absurd c_137 (nI_ge (b := 4) (by omega) (by omega))) (fun c_137 => ?_)
      refine lv_aload_n hx hb dX6_writeWord_140 rfl (lv_at hl 0 rfl) ?_
      refine lv_lload_n hx hb dX6_writeWord_141 rfl (lv_at hl 2 rfl) ?_
      refine lv_bipush (v := 7) hx hb dX6_writeWord_142 (by decide) ?_
      refine lv_iload hx hb dX6_writeWord_144 (lv_at hl 3 rfl) ?_
      refine lv_imul hx hb dX6_writeWord_146 ?_
      refine lv_lshr hx hb dX6_writeWord_147 rfl ?_
      refine lv_ldc2 (v := (127)) hx hb hown (hts (.constantLong RX6 122 (127)) (by decide +kernel)) dX6_writeWord_148 ?_
      refine lv_land hx hb dX6_writeWord_151 ?_
      refine lv_l2i (v := (mW 0).getD j 0) hx hb dX6_writeWord_152 (lw0_at j (by omega)) ?_
      refine cvV (n := 1) C w hl dX6_writeWord_153 (c_X6_write l G hM S2 (lkM_of hS hw.1) (L + j) (by rw [hw.n, hlt]) (by omega) _) gX6_writeWord_X6_write rfl (by decide +kernel) rfl rfl (Nat.le_of_ble_eq_true rfl) ⟨by decide, by decide⟩ (by decide) rfl (oM6 hM) (fun S9 H locs hp w => ?_)
      refine lv_iinc (v := nI (j + 1)) hx hb dX6_writeWord_156 hl (k := 3) rfl (nI_1 j) (by decide) rfl (fun ls hl => ?_)
      refine lv_goto (tgt := 134) hx hb dX6_writeWord_159 (by decide) ?_
      have e := wrP.ap (cl := 6) (kl := 15) (cb := 8) (rb := 5) (by decide) S2 (L + j) ((mW 0).getD j 0)
      rw [← hp] at e
      exact ih (j + 1) S9 _ _ _ (by omega) (by rw [take_s (by omega)]; exact hw.tr (by decide) (by decide) (by rw [hlt]; exact e)) w (lv_sub hl [1, 2, 3, 0] rfl)
  exact loop_134 4 0 S _ _ _ (by omega) (wrP.rf hL) w (lv_sub hl [3, 2, 1, 0] rfl)

set_option maxHeartbeats 4000000 in
set_option maxRecDepth 100000 in
/-- writeWord -/
theorem c_X6_writeWord1 (l : Launch) (G : GT) (hM : okM G) (S : PS) (hS : lkM S) (L : Nat) (hL : sI S 6 0 15 = nI L) (h400 : L + 6 ≤ 400) : CtV l G yX6_writeWord wsX6_writeWord (rmK 1 21) [.ref (gA G 6 0), .int 1] S (fun S2 => wrP 6 15 8 5 S S2 L (mW 1)) := by
  refine ofCtV (cc := cX6_writeWord) (nL := 6) RX6 (by decide +kernel) rfl rfl (Nat.le_of_ble_eq_true rfl) ?_
  intro p e s m args below meth c A Q ls C w hl hret
  have hx := C.1
  have hb := C.2.1
  have hown := C.2.2.2.1
  have hts := C.2.2.2.2.1
  refine lv_iload_n hx hb dX6_writeWord_0 rfl (lv_at hl 1 rfl) ?_
  refine lv_if_ne (tgt := 8) hx hb dX6_writeWord_1 (by decide) (fun c_1 => ?_) (fun c_1 => absurd c_1 (by decide))
  refine lv_iload_n hx hb dX6_writeWord_8 rfl (lv_at hl 1 rfl) ?_
  refine lv_iconst (v := 1) hx hb dX6_writeWord_9 (by decide) ?_
  refine lv_icmp_ne (tgt := 18) hx hb dX6_writeWord_10 (by decide) (fun c_10 => absurd rfl c_10) (fun c_10 => ?_)
  refine lv_bipush (v := 6) hx hb dX6_writeWord_13 (by decide) ?_
  refine lv_goto (tgt := 19) hx hb dX6_writeWord_15 (by decide) ?_
  refine lv_istore_n hx hb dX6_writeWord_19 rfl hl (by decide) rfl (fun ls hl => ?_)
  refine lv_iload_n hx hb dX6_writeWord_20 rfl (lv_at hl 2 rfl) ?_
  refine lv_if_ne (tgt := 54) hx hb dX6_writeWord_21 (by decide) (fun c_21 => ?_) (fun c_21 => absurd c_21 (by decide))
  refine lv_iload_n hx hb dX6_writeWord_54 rfl (lv_at hl 2 rfl) ?_
  refine lv_iconst (v := 1) hx hb dX6_writeWord_55 (by decide) ?_
  refine lv_icmp_ne (tgt := 103) hx hb dX6_writeWord_56 (by decide) (fun c_56 => absurd rfl c_56) (fun c_56 => ?_)
  refine lv_bipush (v := 109) hx hb dX6_writeWord_59 (by decide) ?_
  refine lv_iconst (v := 0) hx hb dX6_writeWord_61 (by decide) ?_
  refine csL (n := 2) C w hl dX6_writeWord_62 (c_X6_letter l G S 109 0) gX6_writeWord_X6_letter rfl (by decide +kernel) rfl rfl (Nat.le_of_ble_eq_true rfl) ⟨by decide, by decide⟩ (fun v0 S9 H locs hp w => ?_)
  obtain ⟨rfl, e0⟩ := hp
  rw [e0] at w
  refine lv_bipush (v := 101) hx hb dX6_writeWord_65 (by decide) ?_
  refine lv_iconst (v := 1) hx hb dX6_writeWord_67 (by decide) ?_
  refine csL (n := 2) C w hl dX6_writeWord_68 (c_X6_letter l G S 101 1) gX6_writeWord_X6_letter rfl (by decide +kernel) rfl rfl (Nat.le_of_ble_eq_true rfl) ⟨by decide, by decide⟩ (fun v1 S9 H locs hp w => ?_)
  obtain ⟨rfl, e0⟩ := hp
  rw [e0] at w
  refine lv_lor hx hb dX6_writeWord_71 ?_
  refine lv_bipush (v := 100) hx hb dX6_writeWord_72 (by decide) ?_
  refine lv_iconst (v := 2) hx hb dX6_writeWord_74 (by decide) ?_
  refine csL (n := 2) C w hl dX6_writeWord_75 (c_X6_letter l G S 100 2) gX6_writeWord_X6_letter rfl (by decide +kernel) rfl rfl (Nat.le_of_ble_eq_true rfl) ⟨by decide, by decide⟩ (fun v2 S9 H locs hp w => ?_)
  obtain ⟨rfl, e0⟩ := hp
  rw [e0] at w
  refine lv_lor hx hb dX6_writeWord_78 ?_
  refine lv_bipush (v := 105) hx hb dX6_writeWord_79 (by decide) ?_
  refine lv_iconst (v := 3) hx hb dX6_writeWord_81 (by decide) ?_
  refine csL (n := 2) C w hl dX6_writeWord_82 (c_X6_letter l G S 105 3) gX6_writeWord_X6_letter rfl (by decide +kernel) rfl rfl (Nat.le_of_ble_eq_true rfl) ⟨by decide, by decide⟩ (fun v3 S9 H locs hp w => ?_)
  obtain ⟨rfl, e0⟩ := hp
  rw [e0] at w
  refine lv_lor hx hb dX6_writeWord_85 ?_
  refine lv_bipush (v := 117) hx hb dX6_writeWord_86 (by decide) ?_
  refine lv_iconst (v := 4) hx hb dX6_writeWord_88 (by decide) ?_
  refine csL (n := 2) C w hl dX6_writeWord_89 (c_X6_letter l G S 117 4) gX6_writeWord_X6_letter rfl (by decide +kernel) rfl rfl (Nat.le_of_ble_eq_true rfl) ⟨by decide, by decide⟩ (fun v4 S9 H locs hp w => ?_)
  obtain ⟨rfl, e0⟩ := hp
  rw [e0] at w
  refine lv_lor hx hb dX6_writeWord_92 ?_
  refine lv_bipush (v := 109) hx hb dX6_writeWord_93 (by decide) ?_
  refine lv_iconst (v := 5) hx hb dX6_writeWord_95 (by decide) ?_
  refine csL (n := 2) C w hl dX6_writeWord_96 (c_X6_letter l G S 109 5) gX6_writeWord_X6_letter rfl (by decide +kernel) rfl rfl (Nat.le_of_ble_eq_true rfl) ⟨by decide, by decide⟩ (fun v5 S9 H locs hp w => ?_)
  obtain ⟨rfl, e0⟩ := hp
  rw [e0] at w
  refine lv_lor hx hb dX6_writeWord_99 ?_
  refine lv_goto (tgt := 130) hx hb dX6_writeWord_100 (by decide) ?_
  refine lv_lstore_n hx hb dX6_writeWord_130 rfl hl (by decide) rfl (fun ls hl => ?_)
  refine lv_iconst (v := 0) hx hb dX6_writeWord_131 (by decide) ?_
  refine lv_istore hx hb dX6_writeWord_132 hl (by decide) rfl (fun ls hl => ?_)
  have loop_134 : ∀ (n : Nat) (j : Nat) (S2 : PS) (H : Heap) (locs : List Loc) (ls : Array Slot), (j + n = 6) → (wrP 6 15 8 5 S S2 L ((mW 1).take j)) → Wd G A s.heap S2 H locs → lv_has ls 6 [(0, .ref (gA G 6 0)), (2, .int 6), (3, .long lw1), (5, .int (nI j))] → W p l e (rmK 1 21) s m args below meth c H locs 0 0 Q (F0 m 134 ls []) := by
    intro n
    induction n with
    | zero =>
      intro j S2 H locs ls hj hw w hl
      have ht : (mW 1).length = 6 := rfl
      have hlt : ((mW 1).take j).length = j := by rw [List.length_take]; omega
      refine lv_iload hx hb dX6_writeWord_134 (lv_at hl 3 rfl) ?_
      refine lv_iload_n hx hb dX6_writeWord_136 rfl (lv_at hl 1 rfl) ?_
      refine lv_icmp_ge (tgt := 162) hx hb dX6_writeWord_137 (by decide) (fun c_137 => ?_) (fun c_137 => absurd (nI_le (a := 6) (by omega) (by omega)) c_137)
      exact hret _ _ _ _ _ dX6_writeWord_162 w (by have e := List.take_of_length_le (l := mW 1) (i := j) (by omega); rw [e] at hw; exact hw)
    | succ n ih =>
      intro j S2 H locs ls hj hw w hl
      have ht : (mW 1).length = 6 := rfl
      have hlt : ((mW 1).take j).length = j := by rw [List.length_take]; omega
      refine lv_iload hx hb dX6_writeWord_134 (lv_at hl 3 rfl) ?_
      refine lv_iload_n hx hb dX6_writeWord_136 rfl (lv_at hl 1 rfl) ?_
      refine lv_icmp_ge (tgt := 162) hx hb dX6_writeWord_137 (by decide) (fun c_137 => absurd c_137 (nI_ge (b := 6) (by omega) (by omega))) (fun c_137 => ?_)
      refine lv_aload_n hx hb dX6_writeWord_140 rfl (lv_at hl 0 rfl) ?_
      refine lv_lload_n hx hb dX6_writeWord_141 rfl (lv_at hl 2 rfl) ?_
      refine lv_bipush (v := 7) hx hb dX6_writeWord_142 (by decide) ?_
      refine lv_iload hx hb dX6_writeWord_144 (lv_at hl 3 rfl) ?_
      refine lv_imul hx hb dX6_writeWord_146 ?_
      refine lv_lshr hx hb dX6_writeWord_147 rfl ?_
      refine lv_ldc2 (v := (127)) hx hb hown (hts (.constantLong RX6 122 (127)) (by decide +kernel)) dX6_writeWord_148 ?_
      refine lv_land hx hb dX6_writeWord_151 ?_
      refine lv_l2i (v := (mW 1).getD j 0) hx hb dX6_writeWord_152 (lw1_at j (by omega)) ?_
      refine cvV (n := 1) C w hl dX6_writeWord_153 (c_X6_write l G hM S2 (lkM_of hS hw.1) (L + j) (by rw [hw.n, hlt]) (by omega) _) gX6_writeWord_X6_write rfl (by decide +kernel) rfl rfl (Nat.le_of_ble_eq_true rfl) ⟨by decide, by decide⟩ (by decide) rfl (oM6 hM) (fun S9 H locs hp w => ?_)
      refine lv_iinc (v := nI (j + 1)) hx hb dX6_writeWord_156 hl (k := 3) rfl (nI_1 j) (by decide) rfl (fun ls hl => ?_)
      refine lv_goto (tgt := 134) hx hb dX6_writeWord_159 (by decide) ?_
      have e := wrP.ap (cl := 6) (kl := 15) (cb := 8) (rb := 5) (by decide) S2 (L + j) ((mW 1).getD j 0)
      rw [← hp] at e
      exact ih (j + 1) S9 _ _ _ (by omega) (by rw [take_s (by omega)]; exact hw.tr (by decide) (by decide) (by rw [hlt]; exact e)) w (lv_sub hl [1, 2, 3, 0] rfl)
  exact loop_134 6 0 S _ _ _ (by omega) (wrP.rf hL) w (lv_sub hl [3, 2, 1, 0] rfl)

set_option maxHeartbeats 4000000 in
set_option maxRecDepth 100000 in
/-- writeWord -/
theorem c_X6_writeWord2 (l : Launch) (G : GT) (hM : okM G) (S : PS) (hS : lkM S) (L : Nat) (hL : sI S 6 0 15 = nI L) (h400 : L + 4 ≤ 400) : CtV l G yX6_writeWord wsX6_writeWord (rmK 1 21) [.ref (gA G 6 0), .int 2] S (fun S2 => wrP 6 15 8 5 S S2 L (mW 2)) := by
  refine ofCtV (cc := cX6_writeWord) (nL := 6) RX6 (by decide +kernel) rfl rfl (Nat.le_of_ble_eq_true rfl) ?_
  intro p e s m args below meth c A Q ls C w hl hret
  have hx := C.1
  have hb := C.2.1
  have hown := C.2.2.2.1
  have hts := C.2.2.2.2.1
  refine lv_iload_n hx hb dX6_writeWord_0 rfl (lv_at hl 1 rfl) ?_
  refine lv_if_ne (tgt := 8) hx hb dX6_writeWord_1 (by decide) (fun c_1 => ?_) (fun c_1 => absurd c_1 (by decide))
  refine lv_iload_n hx hb dX6_writeWord_8 rfl (lv_at hl 1 rfl) ?_
  refine lv_iconst (v := 1) hx hb dX6_writeWord_9 (by decide) ?_
  refine lv_icmp_ne (tgt := 18) hx hb dX6_writeWord_10 (by decide) (fun c_10 => ?_) (fun c_10 => absurd c_10 (by decide))
  refine lv_iconst (v := 4) hx hb dX6_writeWord_18 (by decide) ?_
  refine lv_istore_n hx hb dX6_writeWord_19 rfl hl (by decide) rfl (fun ls hl => ?_)
  refine lv_iload_n hx hb dX6_writeWord_20 rfl (lv_at hl 2 rfl) ?_
  refine lv_if_ne (tgt := 54) hx hb dX6_writeWord_21 (by decide) (fun c_21 => ?_) (fun c_21 => absurd c_21 (by decide))
  refine lv_iload_n hx hb dX6_writeWord_54 rfl (lv_at hl 2 rfl) ?_
  refine lv_iconst (v := 1) hx hb dX6_writeWord_55 (by decide) ?_
  refine lv_icmp_ne (tgt := 103) hx hb dX6_writeWord_56 (by decide) (fun c_56 => ?_) (fun c_56 => absurd c_56 (by decide))
  refine lv_bipush (v := 115) hx hb dX6_writeWord_103 (by decide) ?_
  refine lv_iconst (v := 0) hx hb dX6_writeWord_105 (by decide) ?_
  refine csL (n := 2) C w hl dX6_writeWord_106 (c_X6_letter l G S 115 0) gX6_writeWord_X6_letter rfl (by decide +kernel) rfl rfl (Nat.le_of_ble_eq_true rfl) ⟨by decide, by decide⟩ (fun v0 S9 H locs hp w => ?_)
  obtain ⟨rfl, e0⟩ := hp
  rw [e0] at w
  refine lv_bipush (v := 111) hx hb dX6_writeWord_109 (by decide) ?_
  refine lv_iconst (v := 1) hx hb dX6_writeWord_111 (by decide) ?_
  refine csL (n := 2) C w hl dX6_writeWord_112 (c_X6_letter l G S 111 1) gX6_writeWord_X6_letter rfl (by decide +kernel) rfl rfl (Nat.le_of_ble_eq_true rfl) ⟨by decide, by decide⟩ (fun v1 S9 H locs hp w => ?_)
  obtain ⟨rfl, e0⟩ := hp
  rw [e0] at w
  refine lv_lor hx hb dX6_writeWord_115 ?_
  refine lv_bipush (v := 102) hx hb dX6_writeWord_116 (by decide) ?_
  refine lv_iconst (v := 2) hx hb dX6_writeWord_118 (by decide) ?_
  refine csL (n := 2) C w hl dX6_writeWord_119 (c_X6_letter l G S 102 2) gX6_writeWord_X6_letter rfl (by decide +kernel) rfl rfl (Nat.le_of_ble_eq_true rfl) ⟨by decide, by decide⟩ (fun v2 S9 H locs hp w => ?_)
  obtain ⟨rfl, e0⟩ := hp
  rw [e0] at w
  refine lv_lor hx hb dX6_writeWord_122 ?_
  refine lv_bipush (v := 116) hx hb dX6_writeWord_123 (by decide) ?_
  refine lv_iconst (v := 3) hx hb dX6_writeWord_125 (by decide) ?_
  refine csL (n := 2) C w hl dX6_writeWord_126 (c_X6_letter l G S 116 3) gX6_writeWord_X6_letter rfl (by decide +kernel) rfl rfl (Nat.le_of_ble_eq_true rfl) ⟨by decide, by decide⟩ (fun v3 S9 H locs hp w => ?_)
  obtain ⟨rfl, e0⟩ := hp
  rw [e0] at w
  refine lv_lor hx hb dX6_writeWord_129 ?_
  refine lv_lstore_n hx hb dX6_writeWord_130 rfl hl (by decide) rfl (fun ls hl => ?_)
  refine lv_iconst (v := 0) hx hb dX6_writeWord_131 (by decide) ?_
  refine lv_istore hx hb dX6_writeWord_132 hl (by decide) rfl (fun ls hl => ?_)
  have loop_134 : ∀ (n : Nat) (j : Nat) (S2 : PS) (H : Heap) (locs : List Loc) (ls : Array Slot), (j + n = 4) → (wrP 6 15 8 5 S S2 L ((mW 2).take j)) → Wd G A s.heap S2 H locs → lv_has ls 6 [(0, .ref (gA G 6 0)), (2, .int 4), (3, .long lw2), (5, .int (nI j))] → W p l e (rmK 1 21) s m args below meth c H locs 0 0 Q (F0 m 134 ls []) := by
    intro n
    induction n with
    | zero =>
      intro j S2 H locs ls hj hw w hl
      have ht : (mW 2).length = 4 := rfl
      have hlt : ((mW 2).take j).length = j := by rw [List.length_take]; omega
      refine lv_iload hx hb dX6_writeWord_134 (lv_at hl 3 rfl) ?_
      refine lv_iload_n hx hb dX6_writeWord_136 rfl (lv_at hl 1 rfl) ?_
      refine lv_icmp_ge (tgt := 162) hx hb dX6_writeWord_137 (by decide) (fun c_137 => ?_) (fun c_137 => absurd (nI_le (a := 4) (by omega) (by omega)) c_137)
      exact hret _ _ _ _ _ dX6_writeWord_162 w (by have e := List.take_of_length_le (l := mW 2) (i := j) (by omega); rw [e] at hw; exact hw)
    | succ n ih =>
      intro j S2 H locs ls hj hw w hl
      have ht : (mW 2).length = 4 := rfl
      have hlt : ((mW 2).take j).length = j := by rw [List.length_take]; omega
      refine lv_iload hx hb dX6_writeWord_134 (lv_at hl 3 rfl) ?_
      refine lv_iload_n hx hb dX6_writeWord_136 rfl (lv_at hl 1 rfl) ?_
      refine lv_icmp_ge (tgt := 162) hx hb dX6_writeWord_137 (by decide) (fun c_137 => absurd c_137 (nI_ge (b := 4) (by omega) (by omega))) (fun c_137 => ?_)
      refine lv_aload_n hx hb dX6_writeWord_140 rfl (lv_at hl 0 rfl) ?_
      refine lv_lload_n hx hb dX6_writeWord_141 rfl (lv_at hl 2 rfl) ?_
      refine lv_bipush (v := 7) hx hb dX6_writeWord_142 (by decide) ?_
      refine lv_iload hx hb dX6_writeWord_144 (lv_at hl 3 rfl) ?_
      refine lv_imul hx hb dX6_writeWord_146 ?_
      refine lv_lshr hx hb dX6_writeWord_147 rfl ?_
      refine lv_ldc2 (v := (127)) hx hb hown (hts (.constantLong RX6 122 (127)) (by decide +kernel)) dX6_writeWord_148 ?_
      refine lv_land hx hb dX6_writeWord_151 ?_
      refine lv_l2i (v := (mW 2).getD j 0) hx hb dX6_writeWord_152 (lw2_at j (by omega)) ?_
      refine cvV (n := 1) C w hl dX6_writeWord_153 (c_X6_write l G hM S2 (lkM_of hS hw.1) (L + j) (by rw [hw.n, hlt]) (by omega) _) gX6_writeWord_X6_write rfl (by decide +kernel) rfl rfl (Nat.le_of_ble_eq_true rfl) ⟨by decide, by decide⟩ (by decide) rfl (oM6 hM) (fun S9 H locs hp w => ?_)
      refine lv_iinc (v := nI (j + 1)) hx hb dX6_writeWord_156 hl (k := 3) rfl (nI_1 j) (by decide) rfl (fun ls hl => ?_)
      refine lv_goto (tgt := 134) hx hb dX6_writeWord_159 (by decide) ?_
      have e := wrP.ap (cl := 6) (kl := 15) (cb := 8) (rb := 5) (by decide) S2 (L + j) ((mW 2).getD j 0)
      rw [← hp] at e
      exact ih (j + 1) S9 _ _ _ (by omega) (by rw [take_s (by omega)]; exact hw.tr (by decide) (by decide) (by rw [hlt]; exact e)) w (lv_sub hl [1, 2, 3, 0] rfl)
  exact loop_134 4 0 S _ _ _ (by omega) (wrP.rf hL) w (lv_sub hl [3, 2, 1, 0] rfl)

set_option maxHeartbeats 4000000 in
set_option maxRecDepth 100000 in
/-- writeNumber -/
theorem c_X6_writeNumber (l : Launch) (G : GT) (hM : okM G) (S : PS) (hS : lkM S) (L : Nat) (hL : sI S 6 0 15 = nI L) (h400 : L + 20 ≤ 400) (v : Int64) : CtV l G yX6_writeNumber wsX6_writeNumber (rmK 1 21) [.ref (gA G 6 0), .long v] S (fun S2 => wrP 6 15 8 5 S S2 L (numT v)) := by
  refine ofCtV (cc := cX6_writeNumber) (nL := 9) RX6 (by decide +kernel) rfl rfl (Nat.le_of_ble_eq_true rfl) ?_
  intro p e s m args below meth c A Q ls C w hl hret
  have hx := C.1
  have hb := C.2.1
  have hown := C.2.2.2.1
  have hts := C.2.2.2.2.1
  have ha := abs_lt v
  have hdq := fun j (h : j ≤ 18) => dvq v (j := j) h
  generalize hga : v.toInt.natAbs = a at ha hdq
  have join_12 : ∀ (S1 : PS) (H : Heap) (locs : List Loc) (ls : Array Slot), (wrP 6 15 8 5 S S1 L (sgT v)) → Wd G A s.heap S1 H locs → lv_has ls 9 [(0, .ref (gA G 6 0)), (1, .long v)] → W p l e (rmK 1 21) s m args below meth c H locs 0 0 Q (F0 m 12 ls []) := by
    intro S1 H locs ls hw w hl
    have hS1 := lkM_of hS hw.1
    have join_43 : ∀ (j : Nat) (H : Heap) (locs : List Loc) (ls : Array Slot), (j ≤ 18) → (isN a (j + 1)) → Wd G A s.heap S1 H locs → lv_has ls 9 [(0, .ref (gA G 6 0)), (1, .long v), (3, .long (pw j))] → W p l e (rmK 1 21) s m args below meth c H locs 0 0 Q (F0 m 43 ls []) := by
      intro j H locs ls hj hn w hl
      refine lv_lload_n hx hb dX6_writeNumber_43 rfl (lv_at hl 2 rfl) ?_
      refine lv_lstore hx hb dX6_writeNumber_44 hl (by decide) rfl (fun ls hl => ?_)
      have loop_46 : ∀ (m2 : Nat) (t : List Int32) (S3 : PS) (H : Heap) (locs : List Loc) (ls : Array Slot), (m2 ≤ j + 1) → (wrP 6 15 8 5 S S3 L t) → (t ++ dgs a m2 = sgT v ++ dgs a (j + 1)) → Wd G A s.heap S3 H locs → lv_has ls 9 [(0, .ref (gA G 6 0)), (1, .long v), (5, .long (pz m2))] → W p l e (rmK 1 21) s m args below meth c H locs 0 0 Q (F0 m 46 ls []) := by
        intro m2
        induction m2 with
        | zero =>
          intro t S3 H locs ls hm hw3 htx w hl
          have hlen := congrArg List.length htx
          rw [List.length_append, List.length_append, dgs_len, dgs_len] at hlen
          have hsg := sgT_le v
          have hS3 := lkM_of hS hw3.1
          refine lv_lload hx hb dX6_writeNumber_46 (lv_at hl 2 rfl) ?_
          refine lv_lconst (v := 0) hx hb dX6_writeNumber_48 (by decide) ?_
          refine W.lcmp hx hb dX6_writeNumber_49 ?_
          refine lv_if_le (tgt := 97) hx hb dX6_writeNumber_50 (by decide) (fun c_50 => ?_) (fun c_50 => absurd ((lg_cmp_le _ _).mpr (show (0 : Int64) ≤ 0 by decide)) c_50)
          rw [lg_cmp_le] at c_50
          exact hret _ _ _ _ _ dX6_writeNumber_97 w (by rw [numT_of (n := j + 1) (by rw [hga]; exact hn), hga, ← htx]; show wrP 6 15 8 5 S S3 L (t ++ []); rw [List.append_nil]; exact hw3)
        | succ m2 ih =>
          intro t S3 H locs ls hm hw3 htx w hl
          have hlen := congrArg List.length htx
          rw [List.length_append, List.length_append, dgs_len, dgs_len] at hlen
          have hsg := sgT_le v
          have hS3 := lkM_of hS hw3.1
          refine lv_lload hx hb dX6_writeNumber_46 (lv_at hl 2 rfl) ?_
          refine lv_lconst (v := 0) hx hb dX6_writeNumber_48 (by decide) ?_
          refine W.lcmp hx hb dX6_writeNumber_49 ?_
          refine lv_if_le (tgt := 97) hx hb dX6_writeNumber_50 (by decide) (fun c_50 => absurd ((lg_cmp_le _ _).mp c_50) (fun q => absurd ((pz_le (m := m2 + 1) (by omega)).mp q) (by omega))) (fun c_50 => ?_)
          rw [lg_cmp_le] at c_50
          have hl : lv_has _ 9 [(0, .ref (gA G 6 0)), (1, .long v), (5, .long (pw m2))] := hl
          have join_81 : ∀ (x : Int64) (H : Heap) (locs : List Loc) (ls : Array Slot), (x.toInt32 = nI (a / 10 ^ m2 % 10)) → Wd G A s.heap S3 H locs → lv_has ls 9 [(0, .ref (gA G 6 0)), (1, .long v), (5, .long (pw m2))] → W p l e (rmK 1 21) s m args below meth c H locs 0 0 Q (F0 m 81 ls [.long x, .int 48, .ref (gA G 6 0)]) := by
            intro x H locs ls hxx w hl
            refine lv_l2i (v := nI (a / 10 ^ m2 % 10)) hx hb dX6_writeNumber_81 hxx ?_
            refine lv_iadd hx hb dX6_writeNumber_82 ?_
            rw [fg_c]
            refine cvV (n := 1) C w hl dX6_writeNumber_83 (c_X6_write l G hM S3 hS3 (L + t.length) hw3.n (by omega) (nI (48 + a / 10 ^ m2 % 10))) gX6_writeNumber_X6_write rfl (by decide +kernel) rfl rfl (Nat.le_of_ble_eq_true rfl) ⟨by decide, by decide⟩ (by decide) rfl (oM6 hM) (fun S9 H locs hp w => ?_)
            have hw9 : wrP 6 15 8 5 S S9 L (t ++ [nI (48 + a / 10 ^ m2 % 10)]) := by
              rw [hp]
              exact hw3.tr (by decide) (by decide) (wrP.ap (by decide) S3 (L + t.length) _)
            refine lv_lload hx hb dX6_writeNumber_86 (lv_at hl 2 rfl) ?_
            refine lv_ldc2 (v := (10)) hx hb hown (hts (.constantLong RX6 154 (10)) (by decide +kernel)) dX6_writeNumber_88 ?_
            refine lv_ldiv hx hb dX6_writeNumber_91 (by decide) ?_
            rw [pz_s (by omega)]
            refine lv_lstore hx hb dX6_writeNumber_92 hl (by decide) rfl (fun ls hl => ?_)
            refine lv_goto (tgt := 46) hx hb dX6_writeNumber_94 (by decide) ?_
            exact ih _ S9 _ _ _ (by omega) hw9 (by rw [← htx, List.append_assoc]; rfl) w (lv_sub hl [1, 2, 0] rfl)
          refine lv_lload_n hx hb dX6_writeNumber_53 rfl (lv_at hl 1 rfl) ?_
          refine lv_lload hx hb dX6_writeNumber_54 (lv_at hl 2 rfl) ?_
          refine lv_ldiv hx hb dX6_writeNumber_56 (pw_ne (by omega)) ?_
          refine lv_ldc2 (v := (10)) hx hb hown (hts (.constantLong RX6 154 (10)) (by decide +kernel)) dX6_writeNumber_57 ?_
          refine lv_lrem hx hb dX6_writeNumber_60 (by decide) ?_
          rw [show v / pw m2 - v / pw m2 / 10 * 10 = fg v m2 from rfl]
          refine lv_lstore hx hb dX6_writeNumber_61 hl (by decide) rfl (fun ls hl => ?_)
          refine lv_aload_n hx hb dX6_writeNumber_63 rfl (lv_at hl 1 rfl) ?_
          refine lv_bipush (v := 48) hx hb dX6_writeNumber_64 (by decide) ?_
          refine lv_lload hx hb dX6_writeNumber_66 (lv_at hl 0 rfl) ?_
          refine lv_lconst (v := 0) hx hb dX6_writeNumber_68 (by decide) ?_
          refine W.lcmp hx hb dX6_writeNumber_69 ?_
          refine lv_if_ge (tgt := 79) hx hb dX6_writeNumber_70 (by decide) (fun c_70 => ?_) (fun c_70 => ?_)
          · rw [lg_cmp_ge] at c_70
            have hxx : (fg v m2).toInt32 = nI (a / 10 ^ m2 % 10) := by rw [← hga]; exact fg_pos (by omega) c_70
            refine lv_lload hx hb dX6_writeNumber_79 (lv_at hl 0 rfl) ?_
            exact join_81 _ _ _ _ hxx w (lv_sub hl [1, 2, 3] rfl)
          · rw [lg_cmp_ge] at c_70
            have hxx : (-(fg v m2)).toInt32 = nI (a / 10 ^ m2 % 10) := by rw [← hga]; exact fg_neg (by omega) c_70
            refine lv_lload hx hb dX6_writeNumber_73 (lv_at hl 0 rfl) ?_
            refine lv_lneg hx hb dX6_writeNumber_75 ?_
            refine lv_goto (tgt := 81) hx hb dX6_writeNumber_76 (by decide) ?_
            exact join_81 _ _ _ _ hxx w (lv_sub hl [1, 2, 3] rfl)
      exact loop_46 (j + 1) _ S1 _ _ _ (Nat.le_refl _) hw rfl w (lv_sub hl [1, 2, 0] rfl)
    refine lv_lconst (v := 1) hx hb dX6_writeNumber_12 (by decide) ?_
    refine lv_lstore_n hx hb dX6_writeNumber_13 rfl hl (by decide) rfl (fun ls hl => ?_)
    have loop_14 : ∀ (n : Nat) (j : Nat) (H : Heap) (locs : List Loc) (ls : Array Slot), (j + n = 18) → (j = 0 ∨ 10 ^ j ≤ a) → Wd G A s.heap S1 H locs → lv_has ls 9 [(0, .ref (gA G 6 0)), (1, .long v), (3, .long (pw j))] → W p l e (rmK 1 21) s m args below meth c H locs 0 0 Q (F0 m 14 ls []) := by
      intro n
      induction n with
      | zero =>
        intro j H locs ls hj h0 w hl
        have hj18 : j ≤ 18 := by omega
        have hd := hdq j hj18
        refine lv_lload_n hx hb dX6_writeNumber_14 rfl (lv_at hl 1 rfl) ?_
        refine lv_lload_n hx hb dX6_writeNumber_15 rfl (lv_at hl 2 rfl) ?_
        refine lv_ldiv hx hb dX6_writeNumber_16 (pw_ne hj18) ?_
        refine lv_ldc2 (v := (9)) hx hb hown (hts (.constantLong RX6 184 (9)) (by decide +kernel)) dX6_writeNumber_17 ?_
        refine W.lcmp hx hb dX6_writeNumber_20 ?_
        refine lv_if_gt (tgt := 34) hx hb dX6_writeNumber_21 (by decide) (fun c_21 => ?_) (fun c_21 => ?_)
        · rw [lg_cmp_gt] at c_21
          have hbg : 9 < a / 10 ^ j := by rw [Int64.lt_iff_toInt_lt, show (9 : Int64).toInt = 9 from rfl] at c_21; omega
          exact absurd hbg (by rw [show j = 18 by omega]; omega)
        · rw [lg_cmp_gt] at c_21
          refine lv_lload_n hx hb dX6_writeNumber_24 rfl (lv_at hl 1 rfl) ?_
          refine lv_lload_n hx hb dX6_writeNumber_25 rfl (lv_at hl 2 rfl) ?_
          refine lv_ldiv hx hb dX6_writeNumber_26 (pw_ne hj18) ?_
          refine lv_ldc2 (v := (-9)) hx hb hown (hts (.constantLong RX6 186 (-9)) (by decide +kernel)) dX6_writeNumber_27 ?_
          refine W.lcmp hx hb dX6_writeNumber_30 ?_
          refine lv_if_ge (tgt := 43) hx hb dX6_writeNumber_31 (by decide) (fun c_31 => ?_) (fun c_31 => ?_)
          · rw [lg_cmp_ge] at c_31
            have hsm : a / 10 ^ j ≤ 9 := by rw [Int64.lt_iff_toInt_lt, show (9 : Int64).toInt = 9 from rfl] at c_21; rw [Int64.le_iff_toInt_le, show (-9 : Int64).toInt = -9 from rfl] at c_31; omega
            have hN : isN a (j + 1) := ⟨by omega, by rw [Nat.pow_succ, Nat.mul_comm]; exact (Nat.div_lt_iff_lt_mul (Nat.pow_pos (by decide))).mp (by omega), by rcases h0 with q | q; exact Or.inl (by omega); exact Or.inr q⟩
            exact join_43 j _ _ _ (by omega) hN w (lv_sub hl [0, 1, 2] rfl)
          · rw [lg_cmp_ge] at c_31
            have hbg : 9 < a / 10 ^ j := by rw [Int64.le_iff_toInt_le, show (-9 : Int64).toInt = -9 from rfl] at c_31; omega
            exact absurd hbg (by rw [show j = 18 by omega]; omega)
      | succ n ih =>
        intro j H locs ls hj h0 w hl
        have hj18 : j ≤ 18 := by omega
        have hd := hdq j hj18
        refine lv_lload_n hx hb dX6_writeNumber_14 rfl (lv_at hl 1 rfl) ?_
        refine lv_lload_n hx hb dX6_writeNumber_15 rfl (lv_at hl 2 rfl) ?_
        refine lv_ldiv hx hb dX6_writeNumber_16 (pw_ne hj18) ?_
        refine lv_ldc2 (v := (9)) hx hb hown (hts (.constantLong RX6 184 (9)) (by decide +kernel)) dX6_writeNumber_17 ?_
        refine W.lcmp hx hb dX6_writeNumber_20 ?_
        refine lv_if_gt (tgt := 34) hx hb dX6_writeNumber_21 (by decide) (fun c_21 => ?_) (fun c_21 => ?_)
        · rw [lg_cmp_gt] at c_21
          have hbg : 9 < a / 10 ^ j := by rw [Int64.lt_iff_toInt_lt, show (9 : Int64).toInt = 9 from rfl] at c_21; omega
          refine lv_lload_n hx hb dX6_writeNumber_34 rfl (lv_at hl 2 rfl) ?_
          refine lv_ldc2 (v := (10)) hx hb hown (hts (.constantLong RX6 154 (10)) (by decide +kernel)) dX6_writeNumber_35 ?_
          refine lv_lmul hx hb dX6_writeNumber_38 ?_
          rw [pw_s]
          refine lv_lstore_n hx hb dX6_writeNumber_39 rfl hl (by decide) rfl (fun ls hl => ?_)
          refine lv_goto (tgt := 14) hx hb dX6_writeNumber_40 (by decide) ?_
          exact ih (j + 1) _ _ _ (by omega) (Or.inr (by rw [Nat.pow_succ, Nat.mul_comm]; exact (Nat.le_div_iff_mul_le (Nat.pow_pos (by decide))).mp hbg)) w (lv_sub hl [1, 2, 0] rfl)
        · rw [lg_cmp_gt] at c_21
          refine lv_lload_n hx hb dX6_writeNumber_24 rfl (lv_at hl 1 rfl) ?_
          refine lv_lload_n hx hb dX6_writeNumber_25 rfl (lv_at hl 2 rfl) ?_
          refine lv_ldiv hx hb dX6_writeNumber_26 (pw_ne hj18) ?_
          refine lv_ldc2 (v := (-9)) hx hb hown (hts (.constantLong RX6 186 (-9)) (by decide +kernel)) dX6_writeNumber_27 ?_
          refine W.lcmp hx hb dX6_writeNumber_30 ?_
          refine lv_if_ge (tgt := 43) hx hb dX6_writeNumber_31 (by decide) (fun c_31 => ?_) (fun c_31 => ?_)
          · rw [lg_cmp_ge] at c_31
            have hsm : a / 10 ^ j ≤ 9 := by rw [Int64.lt_iff_toInt_lt, show (9 : Int64).toInt = 9 from rfl] at c_21; rw [Int64.le_iff_toInt_le, show (-9 : Int64).toInt = -9 from rfl] at c_31; omega
            have hN : isN a (j + 1) := ⟨by omega, by rw [Nat.pow_succ, Nat.mul_comm]; exact (Nat.div_lt_iff_lt_mul (Nat.pow_pos (by decide))).mp (by omega), by rcases h0 with q | q; exact Or.inl (by omega); exact Or.inr q⟩
            exact join_43 j _ _ _ (by omega) hN w (lv_sub hl [0, 1, 2] rfl)
          · rw [lg_cmp_ge] at c_31
            have hbg : 9 < a / 10 ^ j := by rw [Int64.le_iff_toInt_le, show (-9 : Int64).toInt = -9 from rfl] at c_31; omega
            refine lv_lload_n hx hb dX6_writeNumber_34 rfl (lv_at hl 2 rfl) ?_
            refine lv_ldc2 (v := (10)) hx hb hown (hts (.constantLong RX6 154 (10)) (by decide +kernel)) dX6_writeNumber_35 ?_
            refine lv_lmul hx hb dX6_writeNumber_38 ?_
            rw [pw_s]
            refine lv_lstore_n hx hb dX6_writeNumber_39 rfl hl (by decide) rfl (fun ls hl => ?_)
            refine lv_goto (tgt := 14) hx hb dX6_writeNumber_40 (by decide) ?_
            exact ih (j + 1) _ _ _ (by omega) (Or.inr (by rw [Nat.pow_succ, Nat.mul_comm]; exact (Nat.le_div_iff_mul_le (Nat.pow_pos (by decide))).mp hbg)) w (lv_sub hl [1, 2, 0] rfl)
    exact loop_14 18 0 _ _ _ (by omega) (Or.inl rfl) w (lv_sub hl [1, 2, 0] rfl)
  refine lv_lload_n hx hb dX6_writeNumber_0 rfl (lv_at hl 1 rfl) ?_
  refine lv_lconst (v := 0) hx hb dX6_writeNumber_1 (by decide) ?_
  refine W.lcmp hx hb dX6_writeNumber_2 ?_
  refine lv_if_ge (tgt := 12) hx hb dX6_writeNumber_3 (by decide) (fun c_3 => ?_) (fun c_3 => ?_)
  · rw [lg_cmp_ge] at c_3
    have hws : wrP 6 15 8 5 S S L (sgT v) := by
      unfold sgT
      rw [if_neg (by rw [Int64.le_iff_toInt_le] at c_3; have e : (0 : Int64).toInt = 0 := rfl; omega)]
      exact wrP.rf hL
    exact join_12 _ _ _ _ hws w (lv_sub hl [0, 1] rfl)
  · rw [lg_cmp_ge] at c_3
    have hng : v.toInt < 0 := by rw [Int64.le_iff_toInt_le] at c_3; have e : (0 : Int64).toInt = 0 := rfl; omega
    refine lv_aload_n hx hb dX6_writeNumber_6 rfl (lv_at hl 0 rfl) ?_
    refine lv_bipush (v := 45) hx hb dX6_writeNumber_7 (by decide) ?_
    refine cvV (n := 1) C w hl dX6_writeNumber_9 (c_X6_write l G hM S hS L hL (by omega) 45) gX6_writeNumber_X6_write rfl (by decide +kernel) rfl rfl (Nat.le_of_ble_eq_true rfl) ⟨by decide, by decide⟩ (by decide) rfl (oM6 hM) (fun S9 H locs hp w => ?_)
    have hws : wrP 6 15 8 5 S S9 L (sgT v) := by
      unfold sgT
      rw [if_pos hng, hp]
      exact wrP.ap (by decide) S L 45
    exact join_12 _ _ _ _ hws w (lv_sub hl [0, 1] rfl)
