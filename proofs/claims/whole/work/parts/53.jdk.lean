theorem sLen_lt {i : Nat} (hi : i < 6) : sLen.getD i 0 < 2 ^ 31 := by
  have : ∀ i, i < 6 → sLen.getD i 0 < 2 ^ 31 := by decide
  exact this i hi
theorem sByt_and : ∀ i, i < 6 → ∀ j, j < sLen.getD i 0 → ((((sByt.getD i []).getD j 0) &&& 255).toUInt32 % 65536).toInt32 = (sTx i).getD j 0 := by decide +kernel
theorem sByt_ch : ∀ i, i < 6 → ∀ j, j < sLen.getD i 0 → narrow .char (.int ((sTx i).getD j 0)) = .int ((sTx i).getD j 0) := by decide +kernel

theorem i32shr0 (x : Int32) : x >>> ((0 : Int32) &&& 31) = x := by
  rw [show (0 : Int32) &&& 31 = 0 from rfl]
  simp

set_option maxHeartbeats 4000000 in
set_option maxRecDepth 100000 in
/-- coder -/
theorem c_J0_coder_7d493 (l : Launch) (G : GT) (k : SK) (S : PS) (i : Nat) (hi : i < 6) : CkI l G k yJ0_coder_7d493 wsJ0_coder_7d493 (rmK 0 0) [.ref (k.1 i)] S (fun v S2 => v = 0 ∧ S2 = S) := by
  refine ofCkN (cc := cJ0_coder_7d493) (nL := 1) .byte RJ0 (by decide +kernel) rfl rfl (Nat.le_of_ble_eq_true rfl) ?_
  intro p e s m args below meth c A Q ls C hk w hl hret
  have hx := C.1
  have hb := C.2.1
  have hown := C.2.2.2.1
  have hts := C.2.2.2.2.1
  refine va_gets hx hb hk.2.1 w.2.2 hown (hts (.fieldLink RJ0 38 "java/lang/String" "COMPACT_STRINGS" "Z") (by decide +kernel)) (fun x h => h) dJ0_coder_7d493_0 ?_
  refine lv_if_eq (tgt := 13) hx hb dJ0_coder_7d493_3 (by decide) (fun c_3 => absurd c_3 (by decide)) (fun c_3 => ?_)
  refine lv_aload_n hx hb dJ0_coder_7d493_6 rfl (lv_at hl 0 rfl) ?_
  refine vk_getf hx hb (hk.1.1 i hi).2.1 w.2.2 hown (hts (.fieldLink RJ0 15 "java/lang/String" "coder" "B") (by decide +kernel)) (fun x h => h) dJ0_coder_7d493_7 ?_
  refine lv_goto (tgt := 14) hx hb dJ0_coder_7d493_10 (by decide) ?_
  exact hret _ _ _ _ _ _ dJ0_coder_7d493_14 w rfl ⟨rfl, rfl⟩

set_option maxHeartbeats 4000000 in
set_option maxRecDepth 100000 in
/-- isLatin1 -/
theorem c_J0_isLatin1_aae02 (l : Launch) (G : GT) (k : SK) (S : PS) (i : Nat) (hi : i < 6) : CkI l G k yJ0_isLatin1_aae02 wsJ0_isLatin1_aae02 (rmK 0 0) [.ref (k.1 i)] S (fun v S2 => v = 1 ∧ S2 = S) := by
  refine ofCkN (cc := cJ0_isLatin1_aae02) (nL := 1) .boolean RJ0 (by decide +kernel) rfl rfl (Nat.le_of_ble_eq_true rfl) ?_
  intro p e s m args below meth c A Q ls C hk w hl hret
  have hx := C.1
  have hb := C.2.1
  have hown := C.2.2.2.1
  have hts := C.2.2.2.2.1
  refine va_gets hx hb hk.2.1 w.2.2 hown (hts (.fieldLink RJ0 38 "java/lang/String" "COMPACT_STRINGS" "Z") (by decide +kernel)) (fun x h => h) dJ0_isLatin1_aae02_0 ?_
  refine lv_if_eq (tgt := 17) hx hb dJ0_isLatin1_aae02_3 (by decide) (fun c_3 => absurd c_3 (by decide)) (fun c_3 => ?_)
  refine lv_aload_n hx hb dJ0_isLatin1_aae02_6 rfl (lv_at hl 0 rfl) ?_
  refine vk_getf hx hb (hk.1.1 i hi).2.1 w.2.2 hown (hts (.fieldLink RJ0 15 "java/lang/String" "coder" "B") (by decide +kernel)) (fun x h => h) dJ0_isLatin1_aae02_7 ?_
  refine lv_if_ne (tgt := 17) hx hb dJ0_isLatin1_aae02_10 (by decide) (fun c_10 => absurd rfl c_10) (fun c_10 => ?_)
  refine lv_iconst (v := 1) hx hb dJ0_isLatin1_aae02_13 (by decide) ?_
  refine lv_goto (tgt := 18) hx hb dJ0_isLatin1_aae02_14 (by decide) ?_
  exact hret _ _ _ _ _ _ dJ0_isLatin1_aae02_18 w (by decide) ⟨rfl, rfl⟩

set_option maxHeartbeats 4000000 in
set_option maxRecDepth 100000 in
/-- length -/
theorem c_J0_length_8abf5 (l : Launch) (G : GT) (k : SK) (S : PS) (i : Nat) (hi : i < 6) : CkI l G k yJ0_length_8abf5 wsJ0_length_8abf5 (rmK 1 20) [.ref (k.1 i)] S (fun v S2 => v = nI (sLen.getD i 0) ∧ S2 = S) := by
  refine ofCkN (cc := cJ0_length_8abf5) (nL := 1) .int RJ0 (by decide +kernel) rfl rfl (Nat.le_of_ble_eq_true rfl) ?_
  intro p e s m args below meth c A Q ls C hk w hl hret
  have hx := C.1
  have hb := C.2.1
  have hown := C.2.2.2.1
  have hts := C.2.2.2.2.1
  refine lv_aload_n hx hb dJ0_length_8abf5_0 rfl (lv_at hl 0 rfl) ?_
  refine vk_getf hx hb (hk.1.1 i hi).2.2.1 w.2.2 hown (hts (.fieldLink RJ0 9 "java/lang/String" "value" "[B") (by decide +kernel)) (fun x h => h) dJ0_length_8abf5_1 ?_
  refine va_tlen hx hb (hk.1.1 i hi).2.2.2 w.2.2 (v := nI (sLen.getD i 0)) rfl dJ0_length_8abf5_4 ?_
  refine lv_aload_n hx hb dJ0_length_8abf5_5 rfl (lv_at hl 0 rfl) ?_
  refine ktI (n := 0) hi C hk w hl dJ0_length_8abf5_6 (c_J0_coder_7d493 l G k S i hi) gJ0_length_8abf5_J0_coder_7d493 rfl (by decide +kernel) rfl rfl (Nat.le_of_ble_eq_true rfl) ⟨by decide, by decide⟩ (fun v1 S1 H locs hp w => ?_)
  obtain ⟨rfl, e1⟩ := hp
  rw [e1] at w
  refine lv_ishr hx hb dJ0_length_8abf5_9 ?_
  refine lv_rep (y := nI (sLen.getD i 0)) (i32shr0 _) ?_
  exact hret _ _ _ _ _ _ dJ0_length_8abf5_10 w rfl ⟨rfl, rfl⟩

set_option maxHeartbeats 4000000 in
set_option maxRecDepth 100000 in
/-- checkIndex -/
theorem c_J3a (l : Launch) (G : GT) (k : SK) (S : PS) (j N : Nat) (hj : j < N) (hN : N < 2 ^ 31) : CkI l G k yJ3_checkIndex_8e157 wsJ3_checkIndex_8e157 (rmK 0 0) [.int (nI j), .int (nI N), .null] S (fun v S2 => S2 = S) := by
  refine ofCkN (cc := cJ3_checkIndex_8e157) (nL := 3) .int RJ3 (by decide +kernel) rfl rfl (Nat.le_of_ble_eq_true rfl) ?_
  intro p e s m args below meth c A Q ls C hk w hl hret
  have hx := C.1
  have hb := C.2.1
  have hown := C.2.2.2.1
  have hts := C.2.2.2.2.1
  refine lv_iload_n hx hb dJ3_checkIndex_8e157_0 rfl (lv_at hl 0 rfl) ?_
  refine lv_if_lt (tgt := 9) hx hb dJ3_checkIndex_8e157_1 (by decide) (fun c_1 => absurd c_1 (nI_pos (by omega))) (fun c_1 => ?_)
  refine lv_iload_n hx hb dJ3_checkIndex_8e157_4 rfl (lv_at hl 0 rfl) ?_
  refine lv_iload_n hx hb dJ3_checkIndex_8e157_5 rfl (lv_at hl 1 rfl) ?_
  refine lv_icmp_lt (tgt := 16) hx hb dJ3_checkIndex_8e157_6 (by decide) (fun c_6 => ?_) (fun c_6 => absurd (nI_lt hj hN) c_6)
  refine lv_iload_n hx hb dJ3_checkIndex_8e157_16 rfl (lv_at hl 0 rfl) ?_
  exact hret _ _ _ _ _ _ dJ3_checkIndex_8e157_17 w rfl rfl

set_option maxHeartbeats 4000000 in
set_option maxRecDepth 100000 in
/-- checkIndex -/
theorem c_J3b (l : Launch) (G : GT) (k : SK) (S : PS) (j N : Nat) (hj : j < N) (hN : N < 2 ^ 31) (t : Nat) : CkI l G k yJ3_checkIndex_8e157 wsJ3_checkIndex_8e157 (rmK 0 0) [.int (nI j), .int (nI N), .ref t] S (fun v S2 => S2 = S) := by
  refine ofCkN (cc := cJ3_checkIndex_8e157) (nL := 3) .int RJ3 (by decide +kernel) rfl rfl (Nat.le_of_ble_eq_true rfl) ?_
  intro p e s m args below meth c A Q ls C hk w hl hret
  have hx := C.1
  have hb := C.2.1
  have hown := C.2.2.2.1
  have hts := C.2.2.2.2.1
  refine lv_iload_n hx hb dJ3_checkIndex_8e157_0 rfl (lv_at hl 0 rfl) ?_
  refine lv_if_lt (tgt := 9) hx hb dJ3_checkIndex_8e157_1 (by decide) (fun c_1 => absurd c_1 (nI_pos (by omega))) (fun c_1 => ?_)
  refine lv_iload_n hx hb dJ3_checkIndex_8e157_4 rfl (lv_at hl 0 rfl) ?_
  refine lv_iload_n hx hb dJ3_checkIndex_8e157_5 rfl (lv_at hl 1 rfl) ?_
  refine lv_icmp_lt (tgt := 16) hx hb dJ3_checkIndex_8e157_6 (by decide) (fun c_6 => ?_) (fun c_6 => absurd (nI_lt hj hN) c_6)
  refine lv_iload_n hx hb dJ3_checkIndex_8e157_16 rfl (lv_at hl 0 rfl) ?_
  exact hret _ _ _ _ _ _ dJ3_checkIndex_8e157_17 w rfl rfl

set_option maxHeartbeats 4000000 in
set_option maxRecDepth 100000 in
/-- checkIndex -/
theorem c_J0_checkIndex_df160 (l : Launch) (G : GT) (k : SK) (S : PS) (j N : Nat) (hj : j < N) (hN : N < 2 ^ 31) : CkV l G k yJ0_checkIndex_df160 wsJ0_checkIndex_df160 (rmK 1 22) [.int (nI j), .int (nI N)] S (fun S2 => S2 = S) := by
  refine ofCkV (cc := cJ0_checkIndex_df160) (nL := 2) RJ0 (by decide +kernel) rfl rfl (Nat.le_of_ble_eq_true rfl) ?_
  intro p e s m args below meth c A Q ls C hk w hl hret
  have hx := C.1
  have hb := C.2.1
  have hown := C.2.2.2.1
  have hts := C.2.2.2.2.1
  refine lv_iload_n hx hb dJ0_checkIndex_df160_0 rfl (lv_at hl 0 rfl) ?_
  refine lv_iload_n hx hb dJ0_checkIndex_df160_1 rfl (lv_at hl 1 rfl) ?_
  suffices hh : ∀ f : Value, CkI l G k yJ3_checkIndex_8e157 wsJ3_checkIndex_8e157 (rmK 0 0) [.int (nI j), .int (nI N), f] S (fun _ S2 => S2 = S) → W p l e (rmK 1 22) s m args below meth c s.heap [] 0 0 Q (F0 m 5 ls [f, .int (nI N), .int (nI j)]) by
    rcases hk.2.2.1 with h | ⟨t, h⟩
    · exact va_gets hx hb h w.2.2 hown (hts (.fieldLink RJ0 1053 "jdk/internal/util/Preconditions" "SIOOBE_FORMATTER" "Ljava/util/function/BiFunction;") (by decide +kernel)) (fun x h => h) dJ0_checkIndex_df160_2 (hh _ (c_J3a l G k S j N hj hN))
    · exact va_gets hx hb h w.2.2 hown (hts (.fieldLink RJ0 1053 "jdk/internal/util/Preconditions" "SIOOBE_FORMATTER" "Ljava/util/function/BiFunction;") (by decide +kernel)) (fun x h => h) dJ0_checkIndex_df160_2 (hh _ (c_J3b l G k S j N hj hN t))
  intro f hf
  refine ksI (n := 3) C hk w hl dJ0_checkIndex_df160_5 hf gJ0_checkIndex_df160_J3_checkIndex_8e157 rfl (by decide +kernel) rfl rfl (Nat.le_of_ble_eq_true rfl) ⟨by decide, by decide⟩ (fun v1 S1 H locs hp w => ?_)
  rw [hp] at w
  refine lv_pop hx hb dJ0_checkIndex_df160_8 rfl ?_
  exact hret _ _ _ _ _ dJ0_checkIndex_df160_9 w rfl

set_option maxHeartbeats 4000000 in
set_option maxRecDepth 100000 in
/-- charAt -/
theorem c_J1_charAt_3b067 (l : Launch) (G : GT) (k : SK) (S : PS) (i : Nat) (hi : i < 6) (j : Nat) (hj : j < sLen.getD i 0) : CkI l G k yJ1_charAt_3b067 wsJ1_charAt_3b067 (rmK 2 43) [.ref (k.2 i), .int (nI j)] S (fun v S2 => v = (sTx i).getD j 0 ∧ S2 = S) := by
  refine ofCkN (cc := cJ1_charAt_3b067) (nL := 2) .char RJ1 (by decide +kernel) rfl rfl (Nat.le_of_ble_eq_true rfl) ?_
  intro p e s m args below meth c A Q ls C hk w hl hret
  have hx := C.1
  have hb := C.2.1
  have hown := C.2.2.2.1
  have hts := C.2.2.2.2.1
  refine lv_iload_n hx hb dJ1_charAt_3b067_0 rfl (lv_at hl 1 rfl) ?_
  refine lv_aload_n hx hb dJ1_charAt_3b067_1 rfl (lv_at hl 0 rfl) ?_
  refine va_tlen hx hb (hk.1.1 i hi).2.2.2 w.2.2 (v := nI (sLen.getD i 0)) rfl dJ1_charAt_3b067_2 ?_
  refine ksV (n := 2) C hk w hl dJ1_charAt_3b067_3 (c_J0_checkIndex_df160 l G k S j (sLen.getD i 0) hj (sLen_lt hi)) gJ1_charAt_3b067_J0_checkIndex_df160 rfl (by decide +kernel) rfl rfl (Nat.le_of_ble_eq_true rfl) ⟨by decide, by decide⟩ (fun S1 H locs hp w => ?_)
  rw [hp] at w
  refine lv_aload_n hx hb dJ1_charAt_3b067_6 rfl (lv_at hl 0 rfl) ?_
  refine lv_iload_n hx hb dJ1_charAt_3b067_7 rfl (lv_at hl 1 rfl) ?_
  refine va_tb hx hb (hk.1.1 i hi).2.2.2 w.2.2 (vp_in_nI hj (sLen_lt hi)) (v := .int ((sByt.getD i []).getD j 0)) (by rw [nI_clamp (Nat.lt_trans hj (sLen_lt hi))]) dJ1_charAt_3b067_8 ?_
  refine lv_sipush (v := 255) hx hb dJ1_charAt_3b067_9 (by decide) ?_
  refine lv_iand hx hb dJ1_charAt_3b067_12 ?_
  refine lv_i2c (v := (sTx i).getD j 0) hx hb dJ1_charAt_3b067_13 (sByt_and i hi j hj) ?_
  exact hret _ _ _ _ _ _ dJ1_charAt_3b067_14 w (sByt_ch i hi j hj) ⟨rfl, rfl⟩

set_option maxHeartbeats 4000000 in
set_option maxRecDepth 100000 in
/-- charAt -/
theorem c_J0_charAt_5068e (l : Launch) (G : GT) (k : SK) (S : PS) (i : Nat) (hi : i < 6) (j : Nat) (hj : j < sLen.getD i 0) : CkI l G k yJ0_charAt_5068e wsJ0_charAt_5068e (rmK 4 85) [.ref (k.1 i), .int (nI j)] S (fun v S2 => v = (sTx i).getD j 0 ∧ S2 = S) := by
  refine ofCkN (cc := cJ0_charAt_5068e) (nL := 2) .char RJ0 (by decide +kernel) rfl rfl (Nat.le_of_ble_eq_true rfl) ?_
  intro p e s m args below meth c A Q ls C hk w hl hret
  have hx := C.1
  have hb := C.2.1
  have hown := C.2.2.2.1
  have hts := C.2.2.2.2.1
  refine lv_aload_n hx hb dJ0_charAt_5068e_0 rfl (lv_at hl 0 rfl) ?_
  refine ktI (n := 0) hi C hk w hl dJ0_charAt_5068e_1 (c_J0_isLatin1_aae02 l G k S i hi) gJ0_charAt_5068e_J0_isLatin1_aae02 rfl (by decide +kernel) rfl rfl (Nat.le_of_ble_eq_true rfl) ⟨by decide, by decide⟩ (fun v1 S1 H locs hp w => ?_)
  obtain ⟨rfl, e1⟩ := hp
  rw [e1] at w
  refine lv_if_eq (tgt := 16) hx hb dJ0_charAt_5068e_4 (by decide) (fun c_4 => absurd c_4 (by decide)) (fun c_4 => ?_)
  refine lv_aload_n hx hb dJ0_charAt_5068e_7 rfl (lv_at hl 0 rfl) ?_
  refine vk_getf hx hb (hk.1.1 i hi).2.2.1 w.2.2 hown (hts (.fieldLink RJ0 9 "java/lang/String" "value" "[B") (by decide +kernel)) (fun x h => h) dJ0_charAt_5068e_8 ?_
  refine lv_iload_n hx hb dJ0_charAt_5068e_11 rfl (lv_at hl 1 rfl) ?_
  refine ksI (n := 2) C hk w hl dJ0_charAt_5068e_12 (c_J1_charAt_3b067 l G k S i hi j hj) gJ0_charAt_5068e_J1_charAt_3b067 rfl (by decide +kernel) rfl rfl (Nat.le_of_ble_eq_true rfl) ⟨by decide, by decide⟩ (fun v2 S2 H locs hp w => ?_)
  obtain ⟨rfl, e1⟩ := hp
  rw [e1] at w
  exact hret _ _ _ _ _ _ dJ0_charAt_5068e_15 w (sByt_ch i hi j hj) ⟨rfl, rfl⟩
