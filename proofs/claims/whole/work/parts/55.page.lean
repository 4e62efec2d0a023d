set_option maxHeartbeats 4000000 in
set_option maxRecDepth 100000 in
/-- Page.append -/
theorem c_X0_append (l : Launch) (G : GT) (hX : okX G) (S : PS) (hS : lkX S) (L : Nat) (hL : sI S 0 0 1 = nI L) (h263 : L < 263) (c2 : Int32) (hc : inN c2 128) : CtV l G yX0_append wsX0_append (rmK 0 0) [.ref (gA G 0 0), .int c2] S (fun S2 => S2 = uI (uI S 7 1 L c2) 0 0 1 (nI (L + 1))) := by
  refine ofCtV (cc := cX0_append) (nL := 2) RX0 (by decide +kernel) rfl rfl (Nat.le_of_ble_eq_true rfl) ?_
  intro p e s m args below meth c A Q ls C w hl hret
  have hx := C.1
  have hb := C.2.1
  have hown := C.2.2.2.1
  have hts := C.2.2.2.2.1
  have hi0 : ∀ w ∈ wsX00, w ∈ wsX0_append := by decide +kernel
  refine lv_aload_n hx hb dX0_append_0 rfl (lv_at hl 0 rfl) ?_
  refine pgI 0 1 (by decide) rfl (by decide) (Or.inl rfl) rfl C w hi0 (by decide +kernel) dX0_append_1 (oP0 hX) (v := nI L) hL ?_
  refine lv_aload_n hx hb dX0_append_4 rfl (lv_at hl 0 rfl) ?_
  refine pgQ 0 0 7 (by decide) rfl (by decide) rfl rfl C w hi0 (by decide +kernel) dX0_append_5 (oP0 hX) hS.2.2.2.2.2.2.2.2.1 ?_
  refine plen 7 (by decide) C w dX0_append_8 (oP7 hX (by decide)) (oN71 hX) ?_
  refine lv_icmp_ge (tgt := 33) hx hb dX0_append_9 (by decide) (fun c_9 => absurd c_9 (nI_ge (by omega) (by omega))) (fun c_9 => ?_)
  refine lv_aload_n hx hb dX0_append_12 rfl (lv_at hl 0 rfl) ?_
  refine pgQ 0 0 7 (by decide) rfl (by decide) rfl rfl C w hi0 (by decide +kernel) dX0_append_13 (oP0 hX) hS.2.2.2.2.2.2.2.2.1 ?_
  refine lv_aload_n hx hb dX0_append_16 rfl (lv_at hl 0 rfl) ?_
  refine pgI 0 1 (by decide) rfl (by decide) (Or.inl rfl) rfl C w hi0 (by decide +kernel) dX0_append_17 (oP0 hX) (v := nI L) hL ?_
  refine lv_iload_n hx hb dX0_append_20 rfl (lv_at hl 1 rfl) ?_
  refine lv_i2b hx hb dX0_append_21 rfl ?_
  refine psB C w dX0_append_22 (oP7 hX (by decide)) rfl (oN71 hX) (by omega) (by decide) (fun H locs w => ?_)
  have e := byte128 (jn c2) (jn_lt (n := 128) hc)
  rw [← jn_eq hc] at e
  rw [e] at w
  refine lv_aload_n hx hb dX0_append_23 rfl (lv_at hl 0 rfl) ?_
  refine lv_dup hx hb dX0_append_24 rfl ?_
  refine pgI 0 1 (by decide) rfl (by decide) (Or.inl rfl) rfl C w hi0 (by decide +kernel) dX0_append_25 (oP0 hX) (v := nI L) (by rw [sI_uI, if_neg (by simp)]; exact hL) ?_
  refine lv_iconst (v := 1) hx hb dX0_append_28 (by decide) ?_
  refine lv_iadd hx hb dX0_append_29 ?_
  refine ppI 0 1 (by decide) rfl (by decide) rfl rfl tyX0_ok nmX0 rfl (by decide +kernel) C w hi0 (by decide +kernel) dX0_append_30 (oP0 hX) (fun H locs w => ?_)
  rw [nI_1] at w
  exact hret _ _ _ _ _ dX0_append_33 w rfl

set_option maxHeartbeats 4000000 in
set_option maxRecDepth 100000 in
/-- writeWord -/
theorem c_X0_writeWord (l : Launch) (G : GT) (k : SK) (hX : okX G) (S : PS) (hS : lkX S) (L : Nat) (hL : sI S 0 0 1 = nI L) (i : Nat) (hi : i < 6) (h263 : L + sLen.getD i 0 ≤ 263) : CkV l G k yX0_writeWord wsX0_writeWord (rmK 5 106) [.ref (gA G 0 0), .ref (k.1 i)] S (fun S2 => wrP 0 1 7 1 S S2 L (sTx i)) := by
  refine ofCkV (cc := cX0_writeWord) (nL := 3) RX0 (by decide +kernel) rfl rfl (Nat.le_of_ble_eq_true rfl) ?_
  intro p e s m args below meth c A Q ls C hk w hl hret
  have hx := C.1
  have hb := C.2.1
  have hown := C.2.2.2.1
  have hts := C.2.2.2.2.1
  refine lv_iconst (v := 0) hx hb dX0_writeWord_0 (by decide) ?_
  refine lv_istore_n hx hb dX0_writeWord_1 rfl hl (by decide) rfl (fun ls hl => ?_)
  have loop_2 : ∀ (n : Nat) (j : Nat) (S2 : PS) (H : Heap) (locs : List Loc) (ls : Array Slot), (j + n = sLen.getD i 0) → (wrP 0 1 7 1 S S2 L ((sTx i).take j)) → Wd G A s.heap S2 H locs → lv_has ls 3 [(0, .ref (gA G 0 0)), (1, .ref (k.1 i)), (2, .int (nI j))] → W p l e (rmK 5 106) s m args below meth c H locs 0 0 Q (F0 m 2 ls []) := by
    intro n
    induction n with
    | zero =>
      intro j S2 H locs ls hj hw w hl
      have ht := sTx_len i hi
      have hlt : ((sTx i).take j).length = j := by rw [List.length_take]; omega
      have h31 := sLen_lt hi
      refine lv_iload_n hx hb dX0_writeWord_2 rfl (lv_at hl 2 rfl) ?_
      refine lv_aload_n hx hb dX0_writeWord_3 rfl (lv_at hl 1 rfl) ?_
      refine ktI (n := 0) hi C hk w hl dX0_writeWord_4 (c_J0_length_8abf5 l G k S2 i hi) gX0_writeWord_J0_length_8abf5 rfl (by decide +kernel) rfl rfl (Nat.le_of_ble_eq_true rfl) ⟨by decide, by decide⟩ (fun v1 S7 H locs hp w => ?_)
      obtain ⟨rfl, e1⟩ := hp
      rw [e1] at w
      refine lv_icmp_ge (tgt := 25) hx hb dX0_writeWord_7 (by decide) (fun c_7 => ?_) (fun c_7 => absurd (nI_le (by omega) (by omega)) c_7)
      exact hret _ _ _ _ _ dX0_writeWord_25 w (by have e := List.take_of_length_le (l := sTx i) (i := j) (by omega); rw [e] at hw; exact hw)
    | succ n ih =>
      intro j S2 H locs ls hj hw w hl
      have ht := sTx_len i hi
      have hlt : ((sTx i).take j).length = j := by rw [List.length_take]; omega
      have h31 := sLen_lt hi
      refine lv_iload_n hx hb dX0_writeWord_2 rfl (lv_at hl 2 rfl) ?_
      refine lv_aload_n hx hb dX0_writeWord_3 rfl (lv_at hl 1 rfl) ?_
      refine ktI (n := 0) hi C hk w hl dX0_writeWord_4 (c_J0_length_8abf5 l G k S2 i hi) gX0_writeWord_J0_length_8abf5 rfl (by decide +kernel) rfl rfl (Nat.le_of_ble_eq_true rfl) ⟨by decide, by decide⟩ (fun v1 S7 H locs hp w => ?_)
      obtain ⟨rfl, e1⟩ := hp
      rw [e1] at w
      refine lv_icmp_ge (tgt := 25) hx hb dX0_writeWord_7 (by decide) (fun c_7 => absurd c_7 (nI_ge (by omega) (by omega))) (fun c_7 => ?_)
      refine lv_aload_n hx hb dX0_writeWord_10 rfl (lv_at hl 0 rfl) ?_
      refine lv_aload_n hx hb dX0_writeWord_11 rfl (lv_at hl 1 rfl) ?_
      refine lv_iload_n hx hb dX0_writeWord_12 rfl (lv_at hl 2 rfl) ?_
      refine ktI (n := 1) hi C hk w hl dX0_writeWord_13 (c_J0_charAt_5068e l G k S2 i hi j (by omega)) gX0_writeWord_J0_charAt_5068e rfl (by decide +kernel) rfl rfl (Nat.le_of_ble_eq_true rfl) ⟨by decide, by decide⟩ (fun v3 S8 H locs hp w => ?_)
      obtain ⟨rfl, e1⟩ := hp
      rw [e1] at w
      refine cvV (n := 1) C w hl dX0_writeWord_16 (c_X0_append l G hX S2 (lkX_of hS hw.1) (L + j) (by rw [hw.n, hlt]) (by omega) _ (sTx_128 i hi j (by omega))) gX0_writeWord_X0_append rfl (by decide +kernel) rfl rfl (Nat.le_of_ble_eq_true rfl) ⟨by decide, by decide⟩ (by decide) rfl (oP0 hX) (fun S9 H locs hp w => ?_)
      refine lv_iinc (v := nI (j + 1)) hx hb dX0_writeWord_19 hl (k := 2) rfl (nI_1 j) (by decide) rfl (fun ls hl => ?_)
      refine lv_goto (tgt := 2) hx hb dX0_writeWord_22 (by decide) ?_
      have e := wrP.ap (cl := 0) (kl := 1) (cb := 7) (rb := 1) (by decide) S2 (L + j) ((sTx i).getD j 0)
      rw [← hp] at e
      exact ih (j + 1) S9 _ _ _ (by omega) (by rw [take_s (by omega)]; exact hw.tr (by decide) (by decide) (by rw [hlt]; exact e)) w (lv_sub hl [1, 2, 0] rfl)
  exact loop_2 (sLen.getD i 0) 0 S _ _ _ (by omega) (wrP.rf hL) w (lv_sub hl [1, 2, 0] rfl)

set_option maxHeartbeats 4000000 in
set_option maxRecDepth 100000 in
/-- writeNumber -/
theorem c_X0_writeNumber (l : Launch) (G : GT) (hX : okX G) (S : PS) (hS : lkX S) (L : Nat) (hL : sI S 0 0 1 = nI L) (h263 : L + 20 ≤ 263) (v : Int64) : CtV l G yX0_writeNumber wsX0_writeNumber (rmK 1 21) [.ref (gA G 0 0), .long v] S (fun S2 => wrP 0 1 7 1 S S2 L (numT v)) := by
  refine ofCtV (cc := cX0_writeNumber) (nL := 7) RX0 (by decide +kernel) rfl rfl (Nat.le_of_ble_eq_true rfl) ?_
  intro p e s m args below meth c A Q ls C w hl hret
  have hx := C.1
  have hb := C.2.1
  have hown := C.2.2.2.1
  have hts := C.2.2.2.2.1
  have hi0 : ∀ w ∈ wsX00, w ∈ wsX0_writeNumber := by decide +kernel
  have ha := abs_lt v
  generalize hga : v.toInt.natAbs = a at ha
  have join_56 : ∀ (n : Nat) (rr : Int64) (S1 : PS) (H : Heap) (locs : List Loc) (ls : Array Slot), (isN a n) → (n ≤ 19) → (wrP 0 1 7 1 S S1 L []) → (∀ j, j < n → sI S1 7 2 j = nI (48 + a / 10 ^ j % 10)) → Wd G A s.heap S1 H locs → lv_has ls 7 [(0, .ref (gA G 0 0)), (1, .long v), (3, .long rr), (5, .int (nI n))] → W p l e (rmK 1 21) s m args below meth c H locs 0 0 Q (F0 m 56 ls []) := by
    intro n rr S1 H locs ls hn hn19 hw hd w hl
    have hS1 := lkX_of hS hw.1
    have join_68 : ∀ (S2 : PS) (H : Heap) (locs : List Loc) (ls : Array Slot), (wrP 0 1 7 1 S S2 L (sgT v)) → (∀ j, j < n → sI S2 7 2 j = nI (48 + a / 10 ^ j % 10)) → Wd G A s.heap S2 H locs → lv_has ls 7 [(0, .ref (gA G 0 0)), (5, .int (nI n))] → W p l e (rmK 1 21) s m args below meth c H locs 0 0 Q (F0 m 68 ls []) := by
      intro S2 H locs ls hw2 hd2 w hl
      refine lv_iload hx hb dX0_writeNumber_68 (lv_at hl 1 rfl) ?_
      refine lv_iconst (v := 1) hx hb dX0_writeNumber_70 (by decide) ?_
      refine lv_isub hx hb dX0_writeNumber_71 ?_
      refine lv_istore hx hb dX0_writeNumber_72 hl (by decide) rfl (fun ls hl => ?_)
      have loop_74 : ∀ (m2 : Nat) (t : List Int32) (S3 : PS) (H : Heap) (locs : List Loc) (ls : Array Slot), (m2 ≤ n) → (wrP 0 1 7 1 S S3 L t) → (∀ j, j < n → sI S3 7 2 j = nI (48 + a / 10 ^ j % 10)) → (t ++ dgs a m2 = sgT v ++ dgs a n) → Wd G A s.heap S3 H locs → lv_has ls 7 [(0, .ref (gA G 0 0)), (6, .int (nI m2 - 1))] → W p l e (rmK 1 21) s m args below meth c H locs 0 0 Q (F0 m 74 ls []) := by
        intro m2
        induction m2 with
        | zero =>
          intro t S3 H locs ls hm hw3 hd3 htx w hl
          have hlen := congrArg List.length htx
          rw [List.length_append, List.length_append, dgs_len, dgs_len] at hlen
          have hsg := sgT_le v
          have hS3 := lkX_of hS hw3.1
          refine lv_iload hx hb dX0_writeNumber_74 (lv_at hl 1 rfl) ?_
          refine lv_if_lt (tgt := 96) hx hb dX0_writeNumber_76 (by decide) (fun c_76 => ?_) (fun c_76 => absurd (by decide) c_76)
          exact hret _ _ _ _ _ dX0_writeNumber_96 w (by rw [numT_of (n := n) (by rw [hga]; exact hn), hga, ← htx]; show wrP 0 1 7 1 S S3 L (t ++ []); rw [List.append_nil]; exact hw3)
        | succ m2 ih =>
          intro t S3 H locs ls hm hw3 hd3 htx w hl
          have hlen := congrArg List.length htx
          rw [List.length_append, List.length_append, dgs_len, dgs_len] at hlen
          have hsg := sgT_le v
          have hS3 := lkX_of hS hw3.1
          refine lv_iload hx hb dX0_writeNumber_74 (lv_at hl 1 rfl) ?_
          refine lv_if_lt (tgt := 96) hx hb dX0_writeNumber_76 (by decide) (fun c_76 => absurd c_76 (fun q => absurd ((nI_m1 (by omega)).mp q) (by omega))) (fun c_76 => ?_)
          refine lv_aload_n hx hb dX0_writeNumber_79 rfl (lv_at hl 0 rfl) ?_
          refine lv_aload_n hx hb dX0_writeNumber_80 rfl (lv_at hl 0 rfl) ?_
          refine pgQ 0 2 7 (by decide) rfl (by decide) rfl rfl C w hi0 (by decide +kernel) dX0_writeNumber_81 (oP0 hX) (hS3.2.2.2.2.2.2.2.2.2.1) ?_
          refine lv_iload hx hb dX0_writeNumber_84 (lv_at hl 1 rfl) ?_
          refine paB C w dX0_writeNumber_86 (oP7 hX (by decide)) (n := m2) (nI_pred m2) (oN72 hX) (by omega) (by decide) (v := nI (48 + a / 10 ^ m2 % 10)) (hd3 m2 (by omega)) ?_
          refine cvV (n := 1) C w hl dX0_writeNumber_87 (c_X0_append l G hX S3 hS3 (L + t.length) hw3.n (by omega) (nI (48 + a / 10 ^ m2 % 10)) ((inN_nI (by have := dg128 a m2; omega)).mpr (dg128 a m2))) gX0_writeNumber_X0_append rfl (by decide +kernel) rfl rfl (Nat.le_of_ble_eq_true rfl) ⟨by decide, by decide⟩ (by decide) rfl (oP0 hX) (fun S9 H locs hp w => ?_)
          have hw9 : wrP 0 1 7 1 S S9 L (t ++ [nI (48 + a / 10 ^ m2 % 10)]) := by
            rw [hp]
            exact hw3.tr (by decide) (by decide) (wrP.ap (by decide) S3 (L + t.length) _)
          have hd9 : ∀ j, j < n → sI S9 7 2 j = nI (48 + a / 10 ^ j % 10) := fun j hj => by rw [hp, sI_uI, if_neg (by simp), sI_uI, if_neg (by simp)]; exact hd3 j hj
          refine lv_iinc (v := nI m2 - 1) hx hb dX0_writeNumber_90 hl (k := 1) rfl (by rw [nI_pred, Int32.sub_eq_add_neg]; exact congrArg (nI m2 + ·) (show Int32.ofInt (-1) = -1 by decide)) (by decide) rfl (fun ls hl => ?_)
          refine lv_goto (tgt := 74) hx hb dX0_writeNumber_93 (by decide) ?_
          exact ih _ S9 _ _ _ (by omega) hw9 hd9 (by rw [← htx, List.append_assoc]; rfl) w (lv_sub hl [1, 0] rfl)
      exact loop_74 n _ S2 _ _ _ (Nat.le_refl _) hw2 hd2 rfl w (lv_sub hl [1, 0] rfl)
    refine lv_lload_n hx hb dX0_writeNumber_56 rfl (lv_at hl 1 rfl) ?_
    refine lv_lconst (v := 0) hx hb dX0_writeNumber_57 (by decide) ?_
    refine W.lcmp hx hb dX0_writeNumber_58 ?_
    refine lv_if_ge (tgt := 68) hx hb dX0_writeNumber_59 (by decide) (fun c_59 => ?_) (fun c_59 => ?_)
    · rw [lg_cmp_ge] at c_59
      have hws : wrP 0 1 7 1 S S1 L (sgT v) := by
        unfold sgT
        rw [if_neg (by rw [Int64.le_iff_toInt_le] at c_59; have e : (0 : Int64).toInt = 0 := rfl; omega)]
        exact hw
      have hds := hd
      exact join_68 _ _ _ _ hws hds w (lv_sub hl [0, 3] rfl)
    · rw [lg_cmp_ge] at c_59
      have hng : v.toInt < 0 := by rw [Int64.le_iff_toInt_le] at c_59; have e : (0 : Int64).toInt = 0 := rfl; omega
      refine lv_aload_n hx hb dX0_writeNumber_62 rfl (lv_at hl 0 rfl) ?_
      refine lv_bipush (v := 45) hx hb dX0_writeNumber_63 (by decide) ?_
      refine cvV (n := 1) C w hl dX0_writeNumber_65 (c_X0_append l G hX S1 hS1 L hw.n (by omega) 45 (by decide)) gX0_writeNumber_X0_append rfl (by decide +kernel) rfl rfl (Nat.le_of_ble_eq_true rfl) ⟨by decide, by decide⟩ (by decide) rfl (oP0 hX) (fun S9 H locs hp w => ?_)
      have hws : wrP 0 1 7 1 S S9 L (sgT v) := by
        unfold sgT
        rw [if_pos hng, hp]
        exact hw.tr (by decide) (by decide) (wrP.ap (by decide) S1 L 45)
      have hds : ∀ j, j < n → sI S9 7 2 j = nI (48 + a / 10 ^ j % 10) := fun j hj => by rw [hp, sI_uI, if_neg (by simp), sI_uI, if_neg (by simp)]; exact hd j hj
      exact join_68 _ _ _ _ hws hds w (lv_sub hl [0, 3] rfl)
  have join_12 : ∀  (H : Heap) (locs : List Loc) (ls : Array Slot), Wd G A s.heap S H locs → lv_has ls 7 [(0, .ref (gA G 0 0)), (1, .long v)] → W p l e (rmK 1 21) s m args below meth c H locs 0 0 Q (F0 m 12 ls [.long (ng a)]) := by
    intro  H locs ls  w hl
    refine lv_lstore_n hx hb dX0_writeNumber_12 rfl hl (by decide) rfl (fun ls hl => ?_)
    refine lv_iconst (v := 0) hx hb dX0_writeNumber_13 (by decide) ?_
    refine lv_istore hx hb dX0_writeNumber_14 hl (by decide) rfl (fun ls hl => ?_)
    have loop_16 : ∀ (n : Nat) (j : Nat) (S2 : PS) (H : Heap) (locs : List Loc) (ls : Array Slot), (j + n = 18) → (j = 0 ∨ 10 ^ j ≤ a) → (wrP 0 1 7 1 S S2 L []) → (∀ i, i < j → sI S2 7 2 i = nI (48 + a / 10 ^ i % 10)) → Wd G A s.heap S2 H locs → lv_has ls 7 [(0, .ref (gA G 0 0)), (1, .long v), (3, .long (ng (a / 10 ^ j))), (5, .int (nI j))] → W p l e (rmK 1 21) s m args below meth c H locs 0 0 Q (F0 m 16 ls []) := by
      intro n
      induction n with
      | zero =>
        intro j S2 H locs ls hj h0 hw hd w hl
        have hq : a / 10 ^ j ≤ 9223372036854775808 := Nat.le_trans (Nat.div_le_self _ _) ha
        have hpw : a / 10 ^ j / 10 = a / 10 ^ (j + 1) := by rw [Nat.div_div_eq_div_mul, Nat.pow_succ]
        have hS2 := lkX_of hS hw.1
        refine lv_aload_n hx hb dX0_writeNumber_16 rfl (lv_at hl 0 rfl) ?_
        refine pgQ 0 2 7 (by decide) rfl (by decide) rfl rfl C w hi0 (by decide +kernel) dX0_writeNumber_17 (oP0 hX) (hS2.2.2.2.2.2.2.2.2.2.1) ?_
        refine lv_iload hx hb dX0_writeNumber_20 (lv_at hl 3 rfl) ?_
        refine lv_ldc2 (v := (48)) hx hb hown (hts (.constantLong RX0 72 (48)) (by decide +kernel)) dX0_writeNumber_22 ?_
        refine lv_lload_n hx hb dX0_writeNumber_25 rfl (lv_at hl 2 rfl) ?_
        refine lv_ldc2 (v := (10)) hx hb hown (hts (.constantLong RX0 74 (10)) (by decide +kernel)) dX0_writeNumber_26 ?_
        refine lv_lrem hx hb dX0_writeNumber_29 (by decide) ?_
        rw [ng_mod hq]
        refine lv_lsub hx hb dX0_writeNumber_30 ?_
        refine lv_l2i (v := nI (48 + a / 10 ^ j % 10)) hx hb dX0_writeNumber_31 (ng_dg _ (by omega)) ?_
        refine lv_i2b hx hb dX0_writeNumber_32 rfl ?_
        refine psB C w dX0_writeNumber_33 (oP7 hX (by decide)) rfl (oN72 hX) (by omega) (by decide) (fun H locs w => ?_)
        have e := byte128 (48 + a / 10 ^ j % 10) (dg128 a j)
        rw [e] at w
        have hw2 := hw.dg (by decide) (by decide) j (nI (48 + a / 10 ^ j % 10))
        have hd2 : ∀ i, i < j + 1 → sI (uI S2 7 2 j (nI (48 + a / 10 ^ j % 10))) 7 2 i = nI (48 + a / 10 ^ i % 10) := by
          intro i hi
          rw [sI_uI]
          by_cases q : i = j
          · rw [if_pos ⟨rfl, rfl, q⟩, q]
          · rw [if_neg (fun x => q x.2.2)]; exact hd i (by omega)
        generalize uI S2 7 2 j (nI (48 + a / 10 ^ j % 10)) = S5 at w hw2 hd2
        refine lv_lload_n hx hb dX0_writeNumber_34 rfl (lv_at hl 2 rfl) ?_
        refine lv_ldc2 (v := (10)) hx hb hown (hts (.constantLong RX0 74 (10)) (by decide +kernel)) dX0_writeNumber_35 ?_
        refine lv_ldiv hx hb dX0_writeNumber_38 (by decide) ?_
        rw [ng_div hq, hpw]
        refine lv_lstore_n hx hb dX0_writeNumber_39 rfl hl (by decide) rfl (fun ls hl => ?_)
        refine lv_iinc (v := nI (j + 1)) hx hb dX0_writeNumber_40 hl (k := 3) rfl (nI_1 j) (by decide) rfl (fun ls hl => ?_)
        refine lv_lload_n hx hb dX0_writeNumber_43 rfl (lv_at hl 1 rfl) ?_
        refine lv_lconst (v := 0) hx hb dX0_writeNumber_44 (by decide) ?_
        refine W.lcmp hx hb dX0_writeNumber_45 ?_
        refine lv_if_eq (tgt := 56) hx hb dX0_writeNumber_46 (by decide) (fun c_46 => ?_) (fun c_46 => ?_)
        · rw [lg_cmp_eq] at c_46
          have hN : isN a (j + 1) := ⟨by omega, by rw [ng_eq0 (Nat.le_trans (Nat.div_le_self _ _) ha)] at c_46; rcases Nat.div_eq_zero_iff.mp c_46 with q | q; exact absurd q (by have := Nat.pow_pos (n := j + 1) (show 0 < 10 by decide); omega); exact q, by rcases h0 with q | q; exact Or.inl (by omega); exact Or.inr q⟩
          exact join_56 (j + 1) _ _ _ _ _ hN (by omega) hw2 hd2 w (lv_sub hl [2, 3, 1, 0] rfl)
        · rw [lg_cmp_eq] at c_46
          have hge : 10 ^ (j + 1) ≤ a := by
            apply Classical.byContradiction
            intro q
            exact c_46 ((ng_eq0 (Nat.le_trans (Nat.div_le_self _ _) ha)).mpr (Nat.div_eq_of_lt (by omega)))
          refine lv_iload hx hb dX0_writeNumber_49 (lv_at hl 0 rfl) ?_
          refine lv_bipush (v := 19) hx hb dX0_writeNumber_51 (by decide) ?_
          refine lv_icmp_lt (tgt := 16) hx hb dX0_writeNumber_53 (by decide) (fun c_53 => absurd c_53 (nI_nlt (b := 19) (by omega) (by omega))) (fun c_53 => ?_)
          have h19 : j + 1 = 19 := by have := mt (nI_ltI (a := j + 1) (b := 19) (by omega) (by decide)).mpr c_53; omega
          have hN : isN a (j + 1) := ⟨by omega, by rw [h19]; exact Nat.lt_of_le_of_lt ha (by decide), Or.inr (by rw [show j + 1 - 1 = j by omega]; exact Nat.le_trans (Nat.pow_le_pow_right (by decide) (by omega)) hge)⟩
          exact join_56 (j + 1) _ _ _ _ _ hN (by omega) hw2 hd2 w (lv_sub hl [2, 3, 1, 0] rfl)
      | succ n ih =>
        intro j S2 H locs ls hj h0 hw hd w hl
        have hq : a / 10 ^ j ≤ 9223372036854775808 := Nat.le_trans (Nat.div_le_self _ _) ha
        have hpw : a / 10 ^ j / 10 = a / 10 ^ (j + 1) := by rw [Nat.div_div_eq_div_mul, Nat.pow_succ]
        have hS2 := lkX_of hS hw.1
        refine lv_aload_n hx hb dX0_writeNumber_16 rfl (lv_at hl 0 rfl) ?_
        refine pgQ 0 2 7 (by decide) rfl (by decide) rfl rfl C w hi0 (by decide +kernel) dX0_writeNumber_17 (oP0 hX) (hS2.2.2.2.2.2.2.2.2.2.1) ?_
        refine lv_iload hx hb dX0_writeNumber_20 (lv_at hl 3 rfl) ?_
        refine lv_ldc2 (v := (48)) hx hb hown (hts (.constantLong RX0 72 (48)) (by decide +kernel)) dX0_writeNumber_22 ?_
        refine lv_lload_n hx hb dX0_writeNumber_25 rfl (lv_at hl 2 rfl) ?_
        refine lv_ldc2 (v := (10)) hx hb hown (hts (.constantLong RX0 74 (10)) (by decide +kernel)) dX0_writeNumber_26 ?_
        refine lv_lrem hx hb dX0_writeNumber_29 (by decide) ?_
        rw [ng_mod hq]
        refine lv_lsub hx hb dX0_writeNumber_30 ?_
        refine lv_l2i (v := nI (48 + a / 10 ^ j % 10)) hx hb dX0_writeNumber_31 (ng_dg _ (by omega)) ?_
        refine lv_i2b hx hb dX0_writeNumber_32 rfl ?_
        refine psB C w dX0_writeNumber_33 (oP7 hX (by decide)) rfl (oN72 hX) (by omega) (by decide) (fun H locs w => ?_)
        have e := byte128 (48 + a / 10 ^ j % 10) (dg128 a j)
        rw [e] at w
        have hw2 := hw.dg (by decide) (by decide) j (nI (48 + a / 10 ^ j % 10))
        have hd2 : ∀ i, i < j + 1 → sI (uI S2 7 2 j (nI (48 + a / 10 ^ j % 10))) 7 2 i = nI (48 + a / 10 ^ i % 10) := by
          intro i hi
          rw [sI_uI]
          by_cases q : i = j
          · rw [if_pos ⟨rfl, rfl, q⟩, q]
          · rw [if_neg (fun x => q x.2.2)]; exact hd i (by omega)
        generalize uI S2 7 2 j (nI (48 + a / 10 ^ j % 10)) = S5 at w hw2 hd2
        refine lv_lload_n hx hb dX0_writeNumber_34 rfl (lv_at hl 2 rfl) ?_
        refine lv_ldc2 (v := (10)) hx hb hown (hts (.constantLong RX0 74 (10)) (by decide +kernel)) dX0_writeNumber_35 ?_
        refine lv_ldiv hx hb dX0_writeNumber_38 (by decide) ?_
        rw [ng_div hq, hpw]
        refine lv_lstore_n hx hb dX0_writeNumber_39 rfl hl (by decide) rfl (fun ls hl => ?_)
        refine lv_iinc (v := nI (j + 1)) hx hb dX0_writeNumber_40 hl (k := 3) rfl (nI_1 j) (by decide) rfl (fun ls hl => ?_)
        refine lv_lload_n hx hb dX0_writeNumber_43 rfl (lv_at hl 1 rfl) ?_
        refine lv_lconst (v := 0) hx hb dX0_writeNumber_44 (by decide) ?_
        refine W.lcmp hx hb dX0_writeNumber_45 ?_
        refine lv_if_eq (tgt := 56) hx hb dX0_writeNumber_46 (by decide) (fun c_46 => ?_) (fun c_46 => ?_)
        · rw [lg_cmp_eq] at c_46
          have hN : isN a (j + 1) := ⟨by omega, by rw [ng_eq0 (Nat.le_trans (Nat.div_le_self _ _) ha)] at c_46; rcases Nat.div_eq_zero_iff.mp c_46 with q | q; exact absurd q (by have := Nat.pow_pos (n := j + 1) (show 0 < 10 by decide); omega); exact q, by rcases h0 with q | q; exact Or.inl (by omega); exact Or.inr q⟩
          exact join_56 (j + 1) _ _ _ _ _ hN (by omega) hw2 hd2 w (lv_sub hl [2, 3, 1, 0] rfl)
        · rw [lg_cmp_eq] at c_46
          have hge : 10 ^ (j + 1) ≤ a := by
            apply Classical.byContradiction
            intro q
            exact c_46 ((ng_eq0 (Nat.le_trans (Nat.div_le_self _ _) ha)).mpr (Nat.div_eq_of_lt (by omega)))
          refine lv_iload hx hb dX0_writeNumber_49 (lv_at hl 0 rfl) ?_
          refine lv_bipush (v := 19) hx hb dX0_writeNumber_51 (by decide) ?_
          refine lv_icmp_lt (tgt := 16) hx hb dX0_writeNumber_53 (by decide) (fun c_53 => ?_) (fun c_53 => ?_)
          · have h18 : j + 1 < 19 := (nI_ltI (b := 19) (by omega) (by decide)).mp c_53
            exact ih (j + 1) S5 _ _ _ (by omega) (Or.inr hge) hw2 hd2 w (lv_sub hl [2, 3, 1, 0] rfl)
          · have h19 : j + 1 = 19 := by have := mt (nI_ltI (a := j + 1) (b := 19) (by omega) (by decide)).mpr c_53; omega
            have hN : isN a (j + 1) := ⟨by omega, by rw [h19]; exact Nat.lt_of_le_of_lt ha (by decide), Or.inr (by rw [show j + 1 - 1 = j by omega]; exact Nat.le_trans (Nat.pow_le_pow_right (by decide) (by omega)) hge)⟩
            exact join_56 (j + 1) _ _ _ _ _ hN (by omega) hw2 hd2 w (lv_sub hl [2, 3, 1, 0] rfl)
    exact loop_16 18 0 S _ _ _ (by omega) (Or.inl rfl) (wrP.rf hL) (fun i hi => absurd hi (Nat.not_lt_zero _)) w (by rw [Nat.pow_zero, Nat.div_one]; exact lv_sub hl [2, 3, 1, 0] rfl)
  refine lv_lload_n hx hb dX0_writeNumber_0 rfl (lv_at hl 1 rfl) ?_
  refine lv_lconst (v := 0) hx hb dX0_writeNumber_1 (by decide) ?_
  refine W.lcmp hx hb dX0_writeNumber_2 ?_
  refine lv_if_ge (tgt := 10) hx hb dX0_writeNumber_3 (by decide) (fun c_3 => ?_) (fun c_3 => ?_)
  · rw [lg_cmp_ge] at c_3
    refine lv_lload_n hx hb dX0_writeNumber_10 rfl (lv_at hl 1 rfl) ?_
    refine lv_lneg hx hb dX0_writeNumber_11 ?_
    rw [show -v = ng a from by rw [← hga]; exact ng_pos (fun q => by rw [Int64.le_iff_toInt_le] at c_3; exact absurd q (by have e : (0 : Int64).toInt = 0 := rfl; omega))]
    exact join_12 _ _ _ w (lv_sub hl [0, 1] rfl)
  · rw [lg_cmp_ge] at c_3
    refine lv_lload_n hx hb dX0_writeNumber_6 rfl (lv_at hl 1 rfl) ?_
    refine lv_goto (tgt := 12) hx hb dX0_writeNumber_7 (by decide) ?_
    rw [show Value.long v = .long (ng a) from by rw [← hga, ← ng_neg (by rw [Int64.le_iff_toInt_le] at c_3; have e : (0 : Int64).toInt = 0 := rfl; omega)]]
    exact join_12 _ _ _ w (lv_sub hl [0, 1] rfl)

set_option maxHeartbeats 4000000 in
set_option maxRecDepth 100000 in
/-- writeList -/
theorem c_X0_writeList (l : Launch) (G : GT) (hX : okX G) (S : PS) (hS : lkX S) (L : Nat) (hL : sI S 0 0 1 = nI L) (r a b : Nat) (hr : r < 79) (hab : a ≤ b) (hb12 : b ≤ 12) (h263 : L + (21 * (b - a) - 1) ≤ 263) : CtV l G yX0_writeList wsX0_writeList (rmK 2 47) [.ref (gA G 0 0), .ref (gA G 2 r), .int (nI a), .int (nI b)] S (fun S2 => wrP 0 1 7 1 S S2 L (lsT (sJ S 9 r) a (b - a))) := by
  refine ofCtV (cc := cX0_writeList) (nL := 5) RX0 (by decide +kernel) rfl rfl (Nat.le_of_ble_eq_true rfl) ?_
  intro p e s m args below meth c A Q ls C w hl hret
  have hx := C.1
  have hb := C.2.1
  have hown := C.2.2.2.1
  have hts := C.2.2.2.2.1
  have hi2 : ∀ w ∈ wsX20, w ∈ wsX0_writeList := by decide +kernel
  refine lv_iload_n hx hb dX0_writeList_0 rfl (lv_at hl 2 rfl) ?_
  refine lv_istore hx hb dX0_writeList_1 hl (by decide) rfl (fun ls hl => ?_)
  have loop_3 : ∀ (n : Nat) (j : Nat) (S2 : PS) (H : Heap) (locs : List Loc) (ls : Array Slot), (j + n = b - a) → (wrP 0 1 7 1 S S2 L (lsT (sJ S 9 r) a j)) → Wd G A s.heap S2 H locs → lv_has ls 5 [(0, .ref (gA G 0 0)), (1, .ref (gA G 2 r)), (2, .int (nI a)), (3, .int (nI b)), (4, .int (nI (a + j)))] → W p l e (rmK 2 47) s m args below meth c H locs 0 0 Q (F0 m 3 ls []) := by
    intro n
    induction n with
    | zero =>
      intro j S2 H locs ls hj hw w hl
      have hle := lsT_le (sJ S 9 r) a j
      have hS2 := lkX_of hS hw.1
      refine lv_iload hx hb dX0_writeList_3 (lv_at hl 4 rfl) ?_
      refine lv_iload_n hx hb dX0_writeList_5 rfl (lv_at hl 3 rfl) ?_
      refine lv_icmp_ge (tgt := 38) hx hb dX0_writeList_6 (by decide) (fun c_6 => ?_) (fun c_6 => absurd (nI_le (by omega) (by omega)) c_6)
      exact hret _ _ _ _ _ dX0_writeList_38 w (by rw [show b - a = j by omega]; exact hw)
    | succ n ih =>
      intro j S2 H locs ls hj hw w hl
      have hle := lsT_le (sJ S 9 r) a j
      have hS2 := lkX_of hS hw.1
      refine lv_iload hx hb dX0_writeList_3 (lv_at hl 4 rfl) ?_
      refine lv_iload_n hx hb dX0_writeList_5 rfl (lv_at hl 3 rfl) ?_
      refine lv_icmp_ge (tgt := 38) hx hb dX0_writeList_6 (by decide) (fun c_6 => absurd c_6 (nI_ge (by omega) (by omega))) (fun c_6 => ?_)
      have join_21 : ∀ (S3 : PS) (t : List Int32) (H : Heap) (locs : List Loc) (ls : Array Slot), (t = (if j = 0 then [] else [47])) → (wrP 0 1 7 1 S S3 L ((lsT (sJ S 9 r) a j) ++ t)) → Wd G A s.heap S3 H locs → lv_has ls 5 [(0, .ref (gA G 0 0)), (1, .ref (gA G 2 r)), (2, .int (nI a)), (3, .int (nI b)), (4, .int (nI (a + j)))] → W p l e (rmK 2 47) s m args below meth c H locs 0 0 Q (F0 m 21 ls []) := by
        intro S3 t H locs ls ht hw3 w hl
        have hS3 := lkX_of hS hw3.1
        have hln : ((lsT (sJ S 9 r) a j) ++ t).length ≤ 21 * j := by
          rw [List.length_append, ht]
          by_cases q : j = 0
          · rw [if_pos q, q]; exact Nat.zero_le _
          · rw [if_neg q]; show _ + 1 ≤ _; omega
        refine lv_aload_n hx hb dX0_writeList_21 rfl (lv_at hl 0 rfl) ?_
        refine lv_aload_n hx hb dX0_writeList_22 rfl (lv_at hl 1 rfl) ?_
        refine pgQ 2 3 9 (by decide) rfl (by decide) rfl rfl C w hi2 (by decide +kernel) dX0_writeList_23 (oP2 hX (by omega)) (lk2 hS3 hr) ?_
        refine lv_iload hx hb dX0_writeList_26 (lv_at hl 4 rfl) ?_
        refine paJ C w dX0_writeList_28 (oP9 hX hr) (n := a + j) rfl (oN9 hX hr) (by omega) (by decide) (v := sJ S 9 r (a + j)) (by rw [hw3.2.1]) ?_
        refine cvV (n := 1) C w hl dX0_writeList_29 (c_X0_writeNumber l G hX S3 hS3 (L + ((lsT (sJ S 9 r) a j) ++ t).length) hw3.n (by omega) (sJ S 9 r (a + j))) gX0_writeList_X0_writeNumber rfl (by decide +kernel) rfl rfl (Nat.le_of_ble_eq_true rfl) ⟨by decide, by decide⟩ (by decide) rfl (oP0 hX) (fun S9 H locs hp w => ?_)
        have hw9 : wrP 0 1 7 1 S S9 L (lsT (sJ S 9 r) a (j + 1)) := by
          have e := hw3.tr (by decide) (by decide) hp
          rw [List.append_assoc, ht] at e
          exact e
        refine lv_iinc (v := nI (a + (j + 1))) hx hb dX0_writeList_32 hl (k := 4) rfl (nI_1 _) (by decide) rfl (fun ls hl => ?_)
        refine lv_goto (tgt := 3) hx hb dX0_writeList_35 (by decide) ?_
        exact ih (j + 1) S9 _ _ _ (by omega) hw9 w (lv_sub hl [1, 2, 3, 4, 0] rfl)
      refine lv_iload hx hb dX0_writeList_9 (lv_at hl 4 rfl) ?_
      refine lv_iload_n hx hb dX0_writeList_11 rfl (lv_at hl 2 rfl) ?_
      refine lv_icmp_le (tgt := 21) hx hb dX0_writeList_12 (by decide) (fun c_12 => ?_) (fun c_12 => ?_)
      · have h0 : j = 0 := by have := (nI_leI (a := a + j) (b := a) (by omega) (by omega)).mp c_12; omega
        have hte : ([] : List Int32) = (if j = 0 then [] else [47]) := by rw [if_pos h0]
        have hwe : wrP 0 1 7 1 S S2 L ((lsT (sJ S 9 r) a j) ++ []) := by rw [List.append_nil]; exact hw
        exact join_21 _ _ _ _ _ hte hwe w (lv_sub hl [0, 1, 2, 3, 4] rfl)
      · have h0 : ¬ j = 0 := by have := mt (nI_leI (a := a + j) (b := a) (by omega) (by omega)).mpr c_12; omega
        refine lv_aload_n hx hb dX0_writeList_15 rfl (lv_at hl 0 rfl) ?_
        refine lv_bipush (v := 47) hx hb dX0_writeList_16 (by decide) ?_
        refine cvV (n := 1) C w hl dX0_writeList_18 (c_X0_append l G hX S2 hS2 (L + (lsT (sJ S 9 r) a j).length) hw.n (by omega) 47 (by decide)) gX0_writeList_X0_append rfl (by decide +kernel) rfl rfl (Nat.le_of_ble_eq_true rfl) ⟨by decide, by decide⟩ (by decide) rfl (oP0 hX) (fun S8 H locs hp w => ?_)
        have hte : ([47] : List Int32) = (if j = 0 then [] else [47]) := by rw [if_neg h0]
        have hwe : wrP 0 1 7 1 S S8 L ((lsT (sJ S 9 r) a j) ++ [47]) := by
          rw [hp]
          exact hw.tr (by decide) (by decide) (wrP.ap (by decide) S2 _ 47)
        exact join_21 _ _ _ _ _ hte hwe w (lv_sub hl [0, 1, 2, 3, 4] rfl)
  exact loop_3 (b - a) 0 S _ _ _ (by omega) (wrP.rf hL) w (lv_sub hl [1, 2, 3, 4, 0] rfl)
