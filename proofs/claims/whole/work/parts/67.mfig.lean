theorem wM_nil (h : Nat → Int32) (s : Nat × Bool) : wM h [] s = s := by
  obtain ⟨q, b⟩ := s
  cases b <;> rfl
theorem bI_1 {b : Bool} (h : ¬ bI b = 0) : b = true := by
  cases b with
  | true => rfl
  | false => exact absurd rfl h
theorem uI_pl {S : PS} {T : Nat → Int32} {tl n : Nat} {s : Nat × Bool} (h : mst S T tl n s) (q : Nat) : uI S 6 0 20 (nI q) = stS S (q, s.2) := by
  rw [← stS_pl, stS_self h]
theorem uJ_self (S : PS) (c r k : Nat) {v : Int64} (h : sJ S c r k = v) : uJ S c r k v = S := by
  refine PS_ext (fun _ _ _ => rfl) (fun c' r' k' => ?_) (fun _ _ _ => rfl)
  rw [sJ_uJ]
  by_cases q : c' = c ∧ r' = r ∧ k' = k
  · obtain ⟨rfl, rfl, rfl⟩ := q; rw [if_pos ⟨rfl, rfl, rfl⟩, h]
  · rw [if_neg q]
theorem num_z {h : Nat → Int32} {tl p : Nat} (hn : ¬ noN h p) (h0 : h (mp h p) = 48) : num h tl p = (mp h p + 1, 0, 1) := by
  unfold num
  rw [if_neg hn, if_pos h0]
theorem num_g {h : Nat → Int32} {tl p q : Nat} {V : Int} {b : Bool} (hn : ¬ noN h p) (h0 : ¬ h (mp h p) = 48) (hg : gN0 h tl p = (q, V, b)) : num h tl p = (q, (if h p = 45 then V else -V), if b = true then 2 else 1) := by
  unfold num
  rw [if_neg hn, if_neg h0, hg]
/-- what the reference's loop holds -/
def fgI (h : Nat → Int32) (tl p q : Nat) (V : Int) (b : Bool) : Prop := (h (mp h p) = 48 → q = mp h p + 1 ∧ V = 0 ∧ b = false) ∧ (¬ h (mp h p) = 48 → gN0 h tl p = if b = true then (q, V, true) else gat h (bN h p) (tl - q) q V)
def fgR (h : Nat → Int32) (tl p q : Nat) (V : Int) (b : Bool) : Prop := num h tl p = (q, (if h p = 45 then V else -V), if b = true then 2 else 1)
theorem fgI.z {h : Nat → Int32} {tl p q : Nat} {V : Int} {b : Bool} (k : fgI h tl p q V b) (hn : ¬ noN h p) (h0 : h (mp h p) = 48) : fgR h tl p q V b := by
  obtain ⟨rfl, rfl, rfl⟩ := k.1 h0
  unfold fgR
  rw [num_z hn h0]
  by_cases z : h p = 45
  · rw [if_pos z, if_neg Bool.false_ne_true]
  · rw [if_neg z, if_neg Bool.false_ne_true]; rfl
theorem gat_nd {h : Nat → Int32} {b : Bool} {f q : Nat} {V : Int} (hd : ¬ dig (h q)) : gat h b f q V = (q, V, false) := by
  cases f with
  | zero => rfl
  | succ f => unfold gat; rw [if_neg hd]
theorem fgI.nd {h : Nat → Int32} {tl p q : Nat} {V : Int} {b : Bool} (k : fgI h tl p q V b) (hn : ¬ noN h p) (hd : ¬ dig (h q)) : fgR h tl p q V b := by
  by_cases h0 : h (mp h p) = 48
  · exact k.z hn h0
  · refine num_g hn h0 ?_
    rw [k.2 h0, gat_nd hd]
    cases b <;> rfl
theorem fgI.st {h : Nat → Int32} {tl p q : Nat} {V : Int} {b : Bool} (k : fgI h tl p q V b) (hn : ¬ noN h p) (hb2 : b = true) : fgR h tl p q V b := by
  by_cases h0 : h (mp h p) = 48
  · exact k.z hn h0
  · refine num_g hn h0 ?_
    rw [k.2 h0, if_pos hb2, hb2]
theorem fgI.go {T : Nat → Int32} {tl p q : Nat} {V : Int} (k : fgI (hr T tl) tl p q V false) (h0 : ¬ hr T tl (mp (hr T tl) p) = 48) (hd : dig (hr T tl q)) (hf : lo (bN (hr T tl) p) ≤ 10 * V - ((hr T tl q).toInt - 48)) : fgI (hr T tl) tl p (q + 1) (10 * V - ((hr T tl q).toInt - 48)) false := by
  refine ⟨fun x => absurd x h0, fun _ => ?_⟩
  have hlt := hr_dig hd
  rw [k.2 h0, if_neg Bool.false_ne_true, if_neg Bool.false_ne_true, show tl - q = (tl - (q + 1)) + 1 by omega]
  conv => lhs; unfold gat
  rw [if_pos hd, if_pos hf]
theorem fgI.ov {T : Nat → Int32} {tl p q : Nat} {V : Int} (k : fgI (hr T tl) tl p q V false) (h0 : ¬ hr T tl (mp (hr T tl) p) = 48) (hd : dig (hr T tl q)) (hf : ¬ lo (bN (hr T tl) p) ≤ 10 * V - ((hr T tl q).toInt - 48)) : fgI (hr T tl) tl p q V true := by
  refine ⟨fun x => absurd x h0, fun _ => ?_⟩
  have hlt := hr_dig hd
  rw [k.2 h0, if_neg Bool.false_ne_true, if_pos rfl, show tl - q = (tl - (q + 1)) + 1 by omega]
  conv => lhs; unfold gat
  rw [if_pos hd, if_neg hf]
theorem fgI_0 {h : Nat → Int32} {tl p : Nat} : fgI h tl p (mp h p + 1) (-((h (mp h p)).toInt - 48)) false := by
  refine ⟨fun x => ⟨rfl, by rw [x]; decide, rfl⟩, fun _ => ?_⟩
  rw [if_neg Bool.false_ne_true]
theorem fgR.fM {h : Nat → Int32} {tl q : Nat} {V : Int} {b : Bool} {s : Nat × Bool} (k : fgR h tl s.1 q V b) (hu : s.2 = false) : fM h tl s = (q, b) := by
  rw [fM_u hu, k]
  cases b <;> rfl
theorem fg_sub {y : Int32} (hd : dig y) : (y - 48).toInt = y.toInt - 48 := by
  rw [Int32.toInt_sub, show (48 : Int32).toInt = 48 from rfl, Int.bmod_eq_of_le (by omega) (by omega)]
theorem fg_neg0 {y : Int32} (hd : dig y) : (-(y - 48)).toInt64 = Int64.ofInt (-(y.toInt - 48)) := by
  apply Int64.toInt_inj.mp
  rw [Int32.toInt_toInt64, Int32.toInt_neg, fg_sub hd, Int.bmod_eq_of_le (by omega) (by omega), i64_small (by omega) (by omega)]
theorem stepM {y : Int32} (hd : dig y) (V : Int) : 10 * Int64.ofInt V - (y - 48).toInt64 = Int64.ofInt (10 * V - (y.toInt - 48)) := by
  rw [show (10 : Int64) = Int64.ofInt 10 from rfl, ← Int64.ofInt_mul, ← fg_sub hd, Int64.ofInt_sub]
  congr 1
theorem lo_le (b : Bool) : -9223372036854775808 ≤ lo b := by unfold lo; split <;> decide

set_option maxHeartbeats 4000000 in
set_option maxRecDepth 100000 in
/-- word -/
theorem c_X6_word0 (l : Launch) (G : GT) (hM : okM G) (S : PS) (T : Nat → Int32) (tl n : Nat) (s0 : Nat × Bool) (ht : mst S T tl n s0) (h300 : tl ≤ 300) (hq0 : s0.1 ≤ tl)  : CtV l G yX6_word wsX6_word (rmK 2 41) [.ref (gA G 6 0), .int 0] S (fun S2 => S2 = stS S (wM (hr T tl) (sTx 0) s0)) := by
  refine ofCtV (cc := cX6_word) (nL := 6) RX6 (by decide +kernel) rfl rfl (Nat.le_of_ble_eq_true rfl) ?_
  intro p e s m args below meth c A Q ls C w hl hret
  have hx := C.1
  have hb := C.2.1
  have hown := C.2.2.2.1
  have hts := C.2.2.2.2.1
  refine lv_iload_n hx hb dX6_word_0 rfl (lv_at hl 1 rfl) ?_
  refine lv_if_ne (tgt := 8) hx hb dX6_word_1 (by decide) (fun c_1 => absurd rfl c_1) (fun c_1 => ?_)
  refine lv_iconst (v := 5) hx hb dX6_word_4 (by decide) ?_
  refine lv_goto (tgt := 19) hx hb dX6_word_5 (by decide) ?_
  refine lv_istore_n hx hb dX6_word_19 rfl hl (by decide) rfl (fun ls hl => ?_)
  refine lv_iload_n hx hb dX6_word_20 rfl (lv_at hl 2 rfl) ?_
  refine lv_if_ne (tgt := 61) hx hb dX6_word_21 (by decide) (fun c_21 => absurd rfl c_21) (fun c_21 => ?_)
  refine lv_bipush (v := 104) hx hb dX6_word_24 (by decide) ?_
  refine lv_iconst (v := 0) hx hb dX6_word_26 (by decide) ?_
  refine csL (n := 2) C w hl dX6_word_27 (c_X6_letter l G S 104 0) gX6_word_X6_letter rfl (by decide +kernel) rfl rfl (Nat.le_of_ble_eq_true rfl) ⟨by decide, by decide⟩ (fun v0 S9 H locs hp w => ?_)
  obtain ⟨rfl, e0⟩ := hp
  rw [e0] at w
  refine lv_bipush (v := 97) hx hb dX6_word_30 (by decide) ?_
  refine lv_iconst (v := 1) hx hb dX6_word_32 (by decide) ?_
  refine csL (n := 2) C w hl dX6_word_33 (c_X6_letter l G S 97 1) gX6_word_X6_letter rfl (by decide +kernel) rfl rfl (Nat.le_of_ble_eq_true rfl) ⟨by decide, by decide⟩ (fun v1 S9 H locs hp w => ?_)
  obtain ⟨rfl, e0⟩ := hp
  rw [e0] at w
  refine lv_lor hx hb dX6_word_36 ?_
  refine lv_bipush (v := 114) hx hb dX6_word_37 (by decide) ?_
  refine lv_iconst (v := 2) hx hb dX6_word_39 (by decide) ?_
  refine csL (n := 2) C w hl dX6_word_40 (c_X6_letter l G S 114 2) gX6_word_X6_letter rfl (by decide +kernel) rfl rfl (Nat.le_of_ble_eq_true rfl) ⟨by decide, by decide⟩ (fun v2 S9 H locs hp w => ?_)
  obtain ⟨rfl, e0⟩ := hp
  rw [e0] at w
  refine lv_lor hx hb dX6_word_43 ?_
  refine lv_bipush (v := 100) hx hb dX6_word_44 (by decide) ?_
  refine lv_iconst (v := 3) hx hb dX6_word_46 (by decide) ?_
  refine csL (n := 2) C w hl dX6_word_47 (c_X6_letter l G S 100 3) gX6_word_X6_letter rfl (by decide +kernel) rfl rfl (Nat.le_of_ble_eq_true rfl) ⟨by decide, by decide⟩ (fun v3 S9 H locs hp w => ?_)
  obtain ⟨rfl, e0⟩ := hp
  rw [e0] at w
  refine lv_lor hx hb dX6_word_50 ?_
  refine lv_bipush (v := 47) hx hb dX6_word_51 (by decide) ?_
  refine lv_iconst (v := 4) hx hb dX6_word_53 (by decide) ?_
  refine csL (n := 2) C w hl dX6_word_54 (c_X6_letter l G S 47 4) gX6_word_X6_letter rfl (by decide +kernel) rfl rfl (Nat.le_of_ble_eq_true rfl) ⟨by decide, by decide⟩ (fun v4 S9 H locs hp w => ?_)
  obtain ⟨rfl, e0⟩ := hp
  rw [e0] at w
  refine lv_lor hx hb dX6_word_57 ?_
  refine lv_goto (tgt := 145) hx hb dX6_word_58 (by decide) ?_
  refine lv_lstore_n hx hb dX6_word_145 rfl hl (by decide) rfl (fun ls hl => ?_)
  refine lv_iconst (v := 0) hx hb dX6_word_146 (by decide) ?_
  refine lv_istore hx hb dX6_word_147 hl (by decide) rfl (fun ls hl => ?_)
  have loop_149 : ∀ (f9 : Nat) (j : Nat) (H : Heap) (locs : List Loc) (ls : Array Slot), (j + f9 = 5) → Wd G A s.heap (stS S (wM (hr T tl) ((sTx 0).take j) s0)) H locs → lv_has ls 6 [(0, .ref (gA G 6 0)), (2, .int 5), (3, .long lv0), (5, .int (nI j))] → W p l e (rmK 2 41) s m args below meth c H locs 0 0 Q (F0 m 149 ls []) := by
    intro f9
    induction f9 with
    | zero =>
      intro j H locs ls hj w hl
      have htx : (sTx 0).length = 5 := sTx_len 0 (by decide)
      have hle : (wM (hr T tl) ((sTx 0).take j) s0).1 ≤ tl := wM_le hq0 (fun y hy => sTx_m1 0 (by decide) y (List.mem_of_mem_take hy))
      refine lv_iload hx hb dX6_word_149 (lv_at hl 3 rfl) ?_
      refine lv_iload_n hx hb dX6_word_151 rfl (lv_at hl 1 rfl) ?_
      refine lv_icmp_ge (tgt := 177) hx hb dX6_word_152 (by decide) (fun c_152 => ?_) (fun c_152 => absurd (nI_le (a := 5) (by omega) (by omega)) c_152)
      exact hret _ _ _ _ _ dX6_word_177 w (by rw [List.take_of_length_le (l := sTx 0) (i := j) (by omega)])
    | succ f9 ih =>
      intro j H locs ls hj w hl
      have htx : (sTx 0).length = 5 := sTx_len 0 (by decide)
      have hle : (wM (hr T tl) ((sTx 0).take j) s0).1 ≤ tl := wM_le hq0 (fun y hy => sTx_m1 0 (by decide) y (List.mem_of_mem_take hy))
      refine lv_iload hx hb dX6_word_149 (lv_at hl 3 rfl) ?_
      refine lv_iload_n hx hb dX6_word_151 rfl (lv_at hl 1 rfl) ?_
      refine lv_icmp_ge (tgt := 177) hx hb dX6_word_152 (by decide) (fun c_152 => absurd c_152 (nI_ge (b := 5) (by omega) (by omega))) (fun c_152 => ?_)
      refine lv_aload_n hx hb dX6_word_155 rfl (lv_at hl 0 rfl) ?_
      refine lv_lload_n hx hb dX6_word_156 rfl (lv_at hl 2 rfl) ?_
      refine lv_bipush (v := 7) hx hb dX6_word_157 (by decide) ?_
      refine lv_iload hx hb dX6_word_159 (lv_at hl 3 rfl) ?_
      refine lv_imul hx hb dX6_word_161 ?_
      refine lv_lshr hx hb dX6_word_162 rfl ?_
      refine lv_ldc2 (v := (127)) hx hb hown (hts (.constantLong RX6 122 (127)) (by decide +kernel)) dX6_word_163 ?_
      refine lv_land hx hb dX6_word_166 ?_
      refine lv_l2i (v := (sTx 0).getD j 0) hx hb dX6_word_167 (lv0_at j (by omega)) ?_
      refine cvV (n := 1) C w hl dX6_word_168 (c_X6_take l G hM (stS S (wM (hr T tl) ((sTx 0).take j) s0)) T tl n (wM (hr T tl) ((sTx 0).take j) s0) (ht.st _) h300 hle _) gX6_word_X6_take rfl (by decide +kernel) rfl rfl (Nat.le_of_ble_eq_true rfl) ⟨by decide, by decide⟩ (by decide) rfl (oM6 hM) (fun S9 H locs hp w => ?_)
      refine lv_iinc (v := nI (j + 1)) hx hb dX6_word_171 hl (k := 3) rfl (nI_1 j) (by decide) rfl (fun ls hl => ?_)
      refine lv_goto (tgt := 149) hx hb dX6_word_174 (by decide) ?_
      rw [hp, stS_2, wM_app] at w
      exact ih (j + 1) _ _ _ (by omega) (by rw [take_s (by omega)]; exact w) (lv_sub hl [1, 2, 3, 0] rfl)
  exact loop_149 5 0 _ _ _ (by omega) (by show Wd G A s.heap (stS S (wM (hr T tl) [] s0)) H locs; rw [wM_nil, stS_self ht]; exact w) (lv_sub hl [3, 2, 1, 0] rfl)

set_option maxHeartbeats 4000000 in
set_option maxRecDepth 100000 in
/-- word -/
theorem c_X6_word1 (l : Launch) (G : GT) (hM : okM G) (S : PS) (T : Nat → Int32) (tl n : Nat) (s0 : Nat × Bool) (ht : mst S T tl n s0) (h300 : tl ≤ 300) (hq0 : s0.1 ≤ tl)  : CtV l G yX6_word wsX6_word (rmK 2 41) [.ref (gA G 6 0), .int 1] S (fun S2 => S2 = stS S (wM (hr T tl) (sTx 1) s0)) := by
  refine ofCtV (cc := cX6_word) (nL := 6) RX6 (by decide +kernel) rfl rfl (Nat.le_of_ble_eq_true rfl) ?_
  intro p e s m args below meth c A Q ls C w hl hret
  have hx := C.1
  have hb := C.2.1
  have hown := C.2.2.2.1
  have hts := C.2.2.2.2.1
  refine lv_iload_n hx hb dX6_word_0 rfl (lv_at hl 1 rfl) ?_
  refine lv_if_ne (tgt := 8) hx hb dX6_word_1 (by decide) (fun c_1 => ?_) (fun c_1 => absurd c_1 (by decide))
  refine lv_iload_n hx hb dX6_word_8 rfl (lv_at hl 1 rfl) ?_
  refine lv_iconst (v := 1) hx hb dX6_word_9 (by decide) ?_
  refine lv_icmp_ne (tgt := 18) hx hb dX6_word_10 (by decide) (fun c_10 => absurd rfl c_10) (fun c_10 => ?_)
  refine lv_bipush (v := 7) hx hb dX6_word_13 (by decide) ?_
  refine lv_goto (tgt := 19) hx hb dX6_word_15 (by decide) ?_
  refine lv_istore_n hx hb dX6_word_19 rfl hl (by decide) rfl (fun ls hl => ?_)
  refine lv_iload_n hx hb dX6_word_20 rfl (lv_at hl 2 rfl) ?_
  refine lv_if_ne (tgt := 61) hx hb dX6_word_21 (by decide) (fun c_21 => ?_) (fun c_21 => absurd c_21 (by decide))
  refine lv_iload_n hx hb dX6_word_61 rfl (lv_at hl 2 rfl) ?_
  refine lv_iconst (v := 1) hx hb dX6_word_62 (by decide) ?_
  refine lv_icmp_ne (tgt := 118) hx hb dX6_word_63 (by decide) (fun c_63 => absurd rfl c_63) (fun c_63 => ?_)
  refine lv_bipush (v := 109) hx hb dX6_word_66 (by decide) ?_
  refine lv_iconst (v := 0) hx hb dX6_word_68 (by decide) ?_
  refine csL (n := 2) C w hl dX6_word_69 (c_X6_letter l G S 109 0) gX6_word_X6_letter rfl (by decide +kernel) rfl rfl (Nat.le_of_ble_eq_true rfl) ⟨by decide, by decide⟩ (fun v0 S9 H locs hp w => ?_)
  obtain ⟨rfl, e0⟩ := hp
  rw [e0] at w
  refine lv_bipush (v := 101) hx hb dX6_word_72 (by decide) ?_
  refine lv_iconst (v := 1) hx hb dX6_word_74 (by decide) ?_
  refine csL (n := 2) C w hl dX6_word_75 (c_X6_letter l G S 101 1) gX6_word_X6_letter rfl (by decide +kernel) rfl rfl (Nat.le_of_ble_eq_true rfl) ⟨by decide, by decide⟩ (fun v1 S9 H locs hp w => ?_)
  obtain ⟨rfl, e0⟩ := hp
  rw [e0] at w
  refine lv_lor hx hb dX6_word_78 ?_
  refine lv_bipush (v := 100) hx hb dX6_word_79 (by decide) ?_
  refine lv_iconst (v := 2) hx hb dX6_word_81 (by decide) ?_
  refine csL (n := 2) C w hl dX6_word_82 (c_X6_letter l G S 100 2) gX6_word_X6_letter rfl (by decide +kernel) rfl rfl (Nat.le_of_ble_eq_true rfl) ⟨by decide, by decide⟩ (fun v2 S9 H locs hp w => ?_)
  obtain ⟨rfl, e0⟩ := hp
  rw [e0] at w
  refine lv_lor hx hb dX6_word_85 ?_
  refine lv_bipush (v := 105) hx hb dX6_word_86 (by decide) ?_
  refine lv_iconst (v := 3) hx hb dX6_word_88 (by decide) ?_
  refine csL (n := 2) C w hl dX6_word_89 (c_X6_letter l G S 105 3) gX6_word_X6_letter rfl (by decide +kernel) rfl rfl (Nat.le_of_ble_eq_true rfl) ⟨by decide, by decide⟩ (fun v3 S9 H locs hp w => ?_)
  obtain ⟨rfl, e0⟩ := hp
  rw [e0] at w
  refine lv_lor hx hb dX6_word_92 ?_
  refine lv_bipush (v := 117) hx hb dX6_word_93 (by decide) ?_
  refine lv_iconst (v := 4) hx hb dX6_word_95 (by decide) ?_
  refine csL (n := 2) C w hl dX6_word_96 (c_X6_letter l G S 117 4) gX6_word_X6_letter rfl (by decide +kernel) rfl rfl (Nat.le_of_ble_eq_true rfl) ⟨by decide, by decide⟩ (fun v4 S9 H locs hp w => ?_)
  obtain ⟨rfl, e0⟩ := hp
  rw [e0] at w
  refine lv_lor hx hb dX6_word_99 ?_
  refine lv_bipush (v := 109) hx hb dX6_word_100 (by decide) ?_
  refine lv_iconst (v := 5) hx hb dX6_word_102 (by decide) ?_
  refine csL (n := 2) C w hl dX6_word_103 (c_X6_letter l G S 109 5) gX6_word_X6_letter rfl (by decide +kernel) rfl rfl (Nat.le_of_ble_eq_true rfl) ⟨by decide, by decide⟩ (fun v5 S9 H locs hp w => ?_)
  obtain ⟨rfl, e0⟩ := hp
  rw [e0] at w
  refine lv_lor hx hb dX6_word_106 ?_
  refine lv_bipush (v := 47) hx hb dX6_word_107 (by decide) ?_
  refine lv_bipush (v := 6) hx hb dX6_word_109 (by decide) ?_
  refine csL (n := 2) C w hl dX6_word_111 (c_X6_letter l G S 47 6) gX6_word_X6_letter rfl (by decide +kernel) rfl rfl (Nat.le_of_ble_eq_true rfl) ⟨by decide, by decide⟩ (fun v6 S9 H locs hp w => ?_)
  obtain ⟨rfl, e0⟩ := hp
  rw [e0] at w
  refine lv_lor hx hb dX6_word_114 ?_
  refine lv_goto (tgt := 145) hx hb dX6_word_115 (by decide) ?_
  refine lv_lstore_n hx hb dX6_word_145 rfl hl (by decide) rfl (fun ls hl => ?_)
  refine lv_iconst (v := 0) hx hb dX6_word_146 (by decide) ?_
  refine lv_istore hx hb dX6_word_147 hl (by decide) rfl (fun ls hl => ?_)
  have loop_149 : ∀ (f9 : Nat) (j : Nat) (H : Heap) (locs : List Loc) (ls : Array Slot), (j + f9 = 7) → Wd G A s.heap (stS S (wM (hr T tl) ((sTx 1).take j) s0)) H locs → lv_has ls 6 [(0, .ref (gA G 6 0)), (2, .int 7), (3, .long lv1), (5, .int (nI j))] → W p l e (rmK 2 41) s m args below meth c H locs 0 0 Q (F0 m 149 ls []) := by
    intro f9
    induction f9 with
    | zero =>
      intro j H locs ls hj w hl
      have htx : (sTx 1).length = 7 := sTx_len 1 (by decide)
      have hle : (wM (hr T tl) ((sTx 1).take j) s0).1 ≤ tl := wM_le hq0 (fun y hy => sTx_m1 1 (by decide) y (List.mem_of_mem_take hy))
      refine lv_iload hx hb dX6_word_149 (lv_at hl 3 rfl) ?_
      refine lv_iload_n hx hb dX6_word_151 rfl (lv_at hl 1 rfl) ?_
      refine lv_icmp_ge (tgt := 177) hx hb dX6_word_152 (by decide) (fun c_152 => ?_) (fun c_152 => absurd (nI_le (a := 7) (by omega) (by omega)) c_152)
      exact hret _ _ _ _ _ dX6_word_177 w (by rw [List.take_of_length_le (l := sTx 1) (i := j) (by omega)])
    | succ f9 ih =>
      intro j H locs ls hj w hl
      have htx : (sTx 1).length = 7 := sTx_len 1 (by decide)
      have hle : (wM (hr T tl) ((sTx 1).take j) s0).1 ≤ tl := wM_le hq0 (fun y hy => sTx_m1 1 (by decide) y (List.mem_of_mem_take hy))
      refine lv_iload hx hb dX6_word_149 (lv_at hl 3 rfl) ?_
      refine lv_iload_n hx hb dX6_word_151 rfl (lv_at hl 1 rfl) ?_
      refine lv_icmp_ge (tgt := 177) hx hb dX6_word_152 (by decide) (fun c_152 => absurd c_152 (nI_ge (b := 7) (by omega) (by omega))) (fun c_152 => ?_)
      refine lv_aload_n hx hb dX6_word_155 rfl (lv_at hl 0 rfl) ?_
      refine lv_lload_n hx hb dX6_word_156 rfl (lv_at hl 2 rfl) ?_
      refine lv_bipush (v := 7) hx hb dX6_word_157 (by decide) ?_
      refine lv_iload hx hb dX6_word_159 (lv_at hl 3 rfl) ?_
      refine lv_imul hx hb dX6_word_161 ?_
      refine lv_lshr hx hb dX6_word_162 rfl ?_
      refine lv_ldc2 (v := (127)) hx hb hown (hts (.constantLong RX6 122 (127)) (by decide +kernel)) dX6_word_163 ?_
      refine lv_land hx hb dX6_word_166 ?_
      refine lv_l2i (v := (sTx 1).getD j 0) hx hb dX6_word_167 (lv1_at j (by omega)) ?_
      refine cvV (n := 1) C w hl dX6_word_168 (c_X6_take l G hM (stS S (wM (hr T tl) ((sTx 1).take j) s0)) T tl n (wM (hr T tl) ((sTx 1).take j) s0) (ht.st _) h300 hle _) gX6_word_X6_take rfl (by decide +kernel) rfl rfl (Nat.le_of_ble_eq_true rfl) ⟨by decide, by decide⟩ (by decide) rfl (oM6 hM) (fun S9 H locs hp w => ?_)
      refine lv_iinc (v := nI (j + 1)) hx hb dX6_word_171 hl (k := 3) rfl (nI_1 j) (by decide) rfl (fun ls hl => ?_)
      refine lv_goto (tgt := 149) hx hb dX6_word_174 (by decide) ?_
      rw [hp, stS_2, wM_app] at w
      exact ih (j + 1) _ _ _ (by omega) (by rw [take_s (by omega)]; exact w) (lv_sub hl [1, 2, 3, 0] rfl)
  exact loop_149 7 0 _ _ _ (by omega) (by show Wd G A s.heap (stS S (wM (hr T tl) [] s0)) H locs; rw [wM_nil, stS_self ht]; exact w) (lv_sub hl [3, 2, 1, 0] rfl)

set_option maxHeartbeats 4000000 in
set_option maxRecDepth 100000 in
/-- word -/
theorem c_X6_word2 (l : Launch) (G : GT) (hM : okM G) (S : PS) (T : Nat → Int32) (tl n : Nat) (s0 : Nat × Bool) (ht : mst S T tl n s0) (h300 : tl ≤ 300) (hq0 : s0.1 ≤ tl)  : CtV l G yX6_word wsX6_word (rmK 2 41) [.ref (gA G 6 0), .int 2] S (fun S2 => S2 = stS S (wM (hr T tl) (sTx 2) s0)) := by
  refine ofCtV (cc := cX6_word) (nL := 6) RX6 (by decide +kernel) rfl rfl (Nat.le_of_ble_eq_true rfl) ?_
  intro p e s m args below meth c A Q ls C w hl hret
  have hx := C.1
  have hb := C.2.1
  have hown := C.2.2.2.1
  have hts := C.2.2.2.2.1
  refine lv_iload_n hx hb dX6_word_0 rfl (lv_at hl 1 rfl) ?_
  refine lv_if_ne (tgt := 8) hx hb dX6_word_1 (by decide) (fun c_1 => ?_) (fun c_1 => absurd c_1 (by decide))
  refine lv_iload_n hx hb dX6_word_8 rfl (lv_at hl 1 rfl) ?_
  refine lv_iconst (v := 1) hx hb dX6_word_9 (by decide) ?_
  refine lv_icmp_ne (tgt := 18) hx hb dX6_word_10 (by decide) (fun c_10 => ?_) (fun c_10 => absurd c_10 (by decide))
  refine lv_iconst (v := 4) hx hb dX6_word_18 (by decide) ?_
  refine lv_istore_n hx hb dX6_word_19 rfl hl (by decide) rfl (fun ls hl => ?_)
  refine lv_iload_n hx hb dX6_word_20 rfl (lv_at hl 2 rfl) ?_
  refine lv_if_ne (tgt := 61) hx hb dX6_word_21 (by decide) (fun c_21 => ?_) (fun c_21 => absurd c_21 (by decide))
  refine lv_iload_n hx hb dX6_word_61 rfl (lv_at hl 2 rfl) ?_
  refine lv_iconst (v := 1) hx hb dX6_word_62 (by decide) ?_
  refine lv_icmp_ne (tgt := 118) hx hb dX6_word_63 (by decide) (fun c_63 => ?_) (fun c_63 => absurd c_63 (by decide))
  refine lv_bipush (v := 115) hx hb dX6_word_118 (by decide) ?_
  refine lv_iconst (v := 0) hx hb dX6_word_120 (by decide) ?_
  refine csL (n := 2) C w hl dX6_word_121 (c_X6_letter l G S 115 0) gX6_word_X6_letter rfl (by decide +kernel) rfl rfl (Nat.le_of_ble_eq_true rfl) ⟨by decide, by decide⟩ (fun v0 S9 H locs hp w => ?_)
  obtain ⟨rfl, e0⟩ := hp
  rw [e0] at w
  refine lv_bipush (v := 111) hx hb dX6_word_124 (by decide) ?_
  refine lv_iconst (v := 1) hx hb dX6_word_126 (by decide) ?_
  refine csL (n := 2) C w hl dX6_word_127 (c_X6_letter l G S 111 1) gX6_word_X6_letter rfl (by decide +kernel) rfl rfl (Nat.le_of_ble_eq_true rfl) ⟨by decide, by decide⟩ (fun v1 S9 H locs hp w => ?_)
  obtain ⟨rfl, e0⟩ := hp
  rw [e0] at w
  refine lv_lor hx hb dX6_word_130 ?_
  refine lv_bipush (v := 102) hx hb dX6_word_131 (by decide) ?_
  refine lv_iconst (v := 2) hx hb dX6_word_133 (by decide) ?_
  refine csL (n := 2) C w hl dX6_word_134 (c_X6_letter l G S 102 2) gX6_word_X6_letter rfl (by decide +kernel) rfl rfl (Nat.le_of_ble_eq_true rfl) ⟨by decide, by decide⟩ (fun v2 S9 H locs hp w => ?_)
  obtain ⟨rfl, e0⟩ := hp
  rw [e0] at w
  refine lv_lor hx hb dX6_word_137 ?_
  refine lv_bipush (v := 116) hx hb dX6_word_138 (by decide) ?_
  refine lv_iconst (v := 3) hx hb dX6_word_140 (by decide) ?_
  refine csL (n := 2) C w hl dX6_word_141 (c_X6_letter l G S 116 3) gX6_word_X6_letter rfl (by decide +kernel) rfl rfl (Nat.le_of_ble_eq_true rfl) ⟨by decide, by decide⟩ (fun v3 S9 H locs hp w => ?_)
  obtain ⟨rfl, e0⟩ := hp
  rw [e0] at w
  refine lv_lor hx hb dX6_word_144 ?_
  refine lv_lstore_n hx hb dX6_word_145 rfl hl (by decide) rfl (fun ls hl => ?_)
  refine lv_iconst (v := 0) hx hb dX6_word_146 (by decide) ?_
  refine lv_istore hx hb dX6_word_147 hl (by decide) rfl (fun ls hl => ?_)
  have loop_149 : ∀ (f9 : Nat) (j : Nat) (H : Heap) (locs : List Loc) (ls : Array Slot), (j + f9 = 4) → Wd G A s.heap (stS S (wM (hr T tl) ((sTx 2).take j) s0)) H locs → lv_has ls 6 [(0, .ref (gA G 6 0)), (2, .int 4), (3, .long lw2), (5, .int (nI j))] → W p l e (rmK 2 41) s m args below meth c H locs 0 0 Q (F0 m 149 ls []) := by
    intro f9
    induction f9 with
    | zero =>
      intro j H locs ls hj w hl
      have htx : (sTx 2).length = 4 := sTx_len 2 (by decide)
      have hle : (wM (hr T tl) ((sTx 2).take j) s0).1 ≤ tl := wM_le hq0 (fun y hy => sTx_m1 2 (by decide) y (List.mem_of_mem_take hy))
      refine lv_iload hx hb dX6_word_149 (lv_at hl 3 rfl) ?_
      refine lv_iload_n hx hb dX6_word_151 rfl (lv_at hl 1 rfl) ?_
      refine lv_icmp_ge (tgt := 177) hx hb dX6_word_152 (by decide) (fun c_152 => ?_) (fun c_152 => absurd (nI_le (a := 4) (by omega) (by omega)) c_152)
      exact hret _ _ _ _ _ dX6_word_177 w (by rw [List.take_of_length_le (l := sTx 2) (i := j) (by omega)])
    | succ f9 ih =>
      intro j H locs ls hj w hl
      have htx : (sTx 2).length = 4 := sTx_len 2 (by decide)
      have hle : (wM (hr T tl) ((sTx 2).take j) s0).1 ≤ tl := wM_le hq0 (fun y hy => sTx_m1 2 (by decide) y (List.mem_of_mem_take hy))
      refine lv_iload hx hb dX6_word_149 (lv_at hl 3 rfl) ?_
      refine lv_iload_n hx hb dX6_word_151 rfl (lv_at hl 1 rfl) ?_
      refine lv_icmp_ge (tgt := 177) hx hb dX6_word_152 (by decide) (fun c_152 => absurd c_152 (nI_ge (b := 4) (by omega) (by omega))) (fun c_152 => ?_)
      refine lv_aload_n hx hb dX6_word_155 rfl (lv_at hl 0 rfl) ?_
      refine lv_lload_n hx hb dX6_word_156 rfl (lv_at hl 2 rfl) ?_
      refine lv_bipush (v := 7) hx hb dX6_word_157 (by decide) ?_
      refine lv_iload hx hb dX6_word_159 (lv_at hl 3 rfl) ?_
      refine lv_imul hx hb dX6_word_161 ?_
      refine lv_lshr hx hb dX6_word_162 rfl ?_
      refine lv_ldc2 (v := (127)) hx hb hown (hts (.constantLong RX6 122 (127)) (by decide +kernel)) dX6_word_163 ?_
      refine lv_land hx hb dX6_word_166 ?_
      refine lv_l2i (v := (sTx 2).getD j 0) hx hb dX6_word_167 (lv2_at j (by omega)) ?_
      refine cvV (n := 1) C w hl dX6_word_168 (c_X6_take l G hM (stS S (wM (hr T tl) ((sTx 2).take j) s0)) T tl n (wM (hr T tl) ((sTx 2).take j) s0) (ht.st _) h300 hle _) gX6_word_X6_take rfl (by decide +kernel) rfl rfl (Nat.le_of_ble_eq_true rfl) ⟨by decide, by decide⟩ (by decide) rfl (oM6 hM) (fun S9 H locs hp w => ?_)
      refine lv_iinc (v := nI (j + 1)) hx hb dX6_word_171 hl (k := 3) rfl (nI_1 j) (by decide) rfl (fun ls hl => ?_)
      refine lv_goto (tgt := 149) hx hb dX6_word_174 (by decide) ?_
      rw [hp, stS_2, wM_app] at w
      exact ih (j + 1) _ _ _ (by omega) (by rw [take_s (by omega)]; exact w) (lv_sub hl [1, 2, 3, 0] rfl)
  exact loop_149 4 0 _ _ _ (by omega) (by show Wd G A s.heap (stS S (wM (hr T tl) [] s0)) H locs; rw [wM_nil, stS_self ht]; exact w) (lv_sub hl [3, 2, 1, 0] rfl)

set_option maxHeartbeats 4000000 in
set_option maxRecDepth 100000 in
/-- figure -/
theorem c_X6_figure (l : Launch) (G : GT) (hM : okM G) (S : PS) (T : Nat → Int32) (tl n : Nat) (s0 : Nat × Bool) (ht : mst S T tl n s0) (h300 : tl ≤ 300) (hq0 : s0.1 ≤ tl)  : CtV l G yX6_figure wsX6_figure (rmK 2 45) [.ref (gA G 6 0)] S (fun S2 => ∃ x, S2 = uJ (stS S (fM (hr T tl) tl s0)) 6 0 22 x ∧ (s0.2 = false → (fM (hr T tl) tl s0).2 = false → x = nV (hr T tl) tl s0.1)) := by
  refine ofCtV (cc := cX6_figure) (nL := 7) RX6 (by decide +kernel) rfl rfl (Nat.le_of_ble_eq_true rfl) ?_
  intro p e s m args below meth c A Q ls C w hl hret
  have hx := C.1
  have hb := C.2.1
  have hown := C.2.2.2.1
  have hts := C.2.2.2.2.1
  have hi6 : ∀ w ∈ wsX60, w ∈ wsX6_figure := by decide +kernel
  refine lv_aload_n hx hb dX6_figure_0 rfl (lv_at hl 0 rfl) ?_
  refine pgI 6 21 (by decide) rfl (by decide) (Or.inr rfl) rfl C w hi6 (by decide +kernel) dX6_figure_1 (oM6 hM) (v := bI s0.2) ht.2.2.2.2.2 ?_
  refine lv_if_eq (tgt := 8) hx hb dX6_figure_4 (by decide) (fun c_4 => ?_) (fun c_4 => ?_)
  · have hun : s0.2 = false := bI_0.mp c_4
    have join_22 : ∀ (v1 : Int32) (H : Heap) (locs : List Loc) (ls : Array Slot), (v1 = bI (bN (hr T tl) s0.1)) → Wd G A s.heap S H locs → lv_has ls 7 [(0, .ref (gA G 6 0))] → W p l e (rmK 2 45) s m args below meth c H locs 0 0 Q (F0 m 22 ls [.int v1]) := by
      intro v1 H locs ls hv1 w hl
      subst hv1
      refine lv_istore_n hx hb dX6_figure_22 rfl hl (by decide) rfl (fun ls hl => ?_)
      have join_41 : ∀  (H : Heap) (locs : List Loc) (ls : Array Slot), Wd G A s.heap (stS S ((mp (hr T tl) s0.1), false)) H locs → lv_has ls 7 [(0, .ref (gA G 6 0)), (1, .int (bI (bN (hr T tl) s0.1)))] → W p l e (rmK 2 45) s m args below meth c H locs 0 0 Q (F0 m 41 ls []) := by
        intro  H locs ls  w hl
        have hml : (mp (hr T tl) s0.1) ≤ tl := mp_le (T := T) hq0
        have htm := ht.st ((mp (hr T tl) s0.1), false)
        have join_61 : ∀  (H : Heap) (locs : List Loc) (ls : Array Slot), (noN (hr T tl) s0.1) → Wd G A s.heap (stS S ((mp (hr T tl) s0.1), false)) H locs → lv_has ls 7 [(0, .ref (gA G 6 0)), (1, .int (bI (bN (hr T tl) s0.1)))] → W p l e (rmK 2 45) s m args below meth c H locs 0 0 Q (F0 m 61 ls []) := by
          intro  H locs ls hn w hl
          refine lv_aload_n hx hb dX6_figure_61 rfl (lv_at hl 0 rfl) ?_
          refine lv_iconst (v := 1) hx hb dX6_figure_62 (by decide) ?_
          refine ppZ 6 21 (by decide) rfl (by decide) rfl rfl tyX6_ok nmX6 rfl (by decide +kernel) C w hi6 (by decide +kernel) dX6_figure_63 (oM6 hM) (Or.inr rfl) (fun H locs w => ?_)
          have w : Wd G A s.heap (stS S ((mp (hr T tl) s0.1), true)) H locs := by rw [← stS_sk S ((mp (hr T tl) s0.1), false) true]; exact w
          exact hret _ _ _ _ _ dX6_figure_66 w ⟨_, by rw [fM_u hun, num_0 hn]; exact (uJ_self (stS S ((mp (hr T tl) s0.1), true)) 6 0 22 rfl).symm, fun _ y => by rw [fM_u hun, num_0 hn] at y; exact absurd (show true = false from y) (by decide)⟩
        have join_67 : ∀  (H : Heap) (locs : List Loc) (ls : Array Slot), (¬ noN (hr T tl) s0.1) → (dig (hr T tl (mp (hr T tl) s0.1))) → Wd G A s.heap (stS S ((mp (hr T tl) s0.1), false)) H locs → lv_has ls 7 [(0, .ref (gA G 6 0)), (1, .int (bI (bN (hr T tl) s0.1)))] → W p l e (rmK 2 45) s m args below meth c H locs 0 0 Q (F0 m 67 ls []) := by
          intro  H locs ls hn hdm w hl
          have join_81 : ∀ (z1 : Int32) (H : Heap) (locs : List Loc) (ls : Array Slot), (z1 = bI (decide (hr T tl (mp (hr T tl) s0.1) = 48))) → Wd G A s.heap (stS S ((mp (hr T tl) s0.1), false)) H locs → lv_has ls 7 [(0, .ref (gA G 6 0)), (1, .int (bI (bN (hr T tl) s0.1)))] → W p l e (rmK 2 45) s m args below meth c H locs 0 0 Q (F0 m 81 ls [.int z1]) := by
            intro z1 H locs ls hz1 w hl
            subst hz1
            refine lv_istore_n hx hb dX6_figure_81 rfl hl (by decide) rfl (fun ls hl => ?_)
            refine lv_aload_n hx hb dX6_figure_82 rfl (lv_at hl 1 rfl) ?_
            refine cvI (n := 0) C w hl dX6_figure_83 (c_X6_here l G hM (stS S ((mp (hr T tl) s0.1), false)) T tl n ((mp (hr T tl) s0.1), false) htm h300 hml) gX6_figure_X6_here rfl (by decide +kernel) rfl rfl (Nat.le_of_ble_eq_true rfl) ⟨by decide, by decide⟩ (by decide) rfl (oM6 hM) (fun v5 S9 H locs hp w => ?_)
            obtain ⟨rfl, e0⟩ := hp
            rw [e0] at w
            refine lv_bipush (v := 48) hx hb dX6_figure_86 (by decide) ?_
            refine lv_isub hx hb dX6_figure_88 ?_
            refine lv_ineg hx hb dX6_figure_89 ?_
            refine lv_i2l (v := Int64.ofInt (-((hr T tl (mp (hr T tl) s0.1)).toInt - 48))) hx hb dX6_figure_90 (fg_neg0 hdm) ?_
            refine lv_lstore_n hx hb dX6_figure_91 rfl hl (by decide) rfl (fun ls hl => ?_)
            refine lv_aload_n hx hb dX6_figure_92 rfl (lv_at hl 2 rfl) ?_
            refine lv_dup hx hb dX6_figure_93 rfl ?_
            refine pgI 6 20 (by decide) rfl (by decide) (Or.inl rfl) rfl C w hi6 (by decide +kernel) dX6_figure_94 (oM6 hM) (v := nI (mp (hr T tl) s0.1)) htm.2.2.2.2.1 ?_
            refine lv_iconst (v := 1) hx hb dX6_figure_97 (by decide) ?_
            refine lv_iadd hx hb dX6_figure_98 ?_
            refine ppI 6 20 (by decide) rfl (by decide) rfl rfl tyX6_ok nmX6 rfl (by decide +kernel) C w hi6 (by decide +kernel) dX6_figure_99 (oM6 hM) (fun H locs w => ?_)
            have w : Wd G A s.heap (stS S ((mp (hr T tl) s0.1) + 1, false)) H locs := by rw [nI_1, stS_pl] at w; exact w
            have join_202 : ∀ (q : Nat) (V : Int) (b2 : Bool) (H : Heap) (locs : List Loc) (ls : Array Slot), (fgR (hr T tl) tl s0.1 q V b2) → Wd G A s.heap (stS S (q, b2)) H locs → lv_has ls 7 [(0, .ref (gA G 6 0)), (1, .int (bI (bN (hr T tl) s0.1))), (3, .long (Int64.ofInt V))] → W p l e (rmK 2 45) s m args below meth c H locs 0 0 Q (F0 m 202 ls []) := by
              intro q V b2 H locs ls hR w hl
              have hfm := hR.fM hun
              refine lv_aload_n hx hb dX6_figure_202 rfl (lv_at hl 0 rfl) ?_
              refine lv_iload_n hx hb dX6_figure_203 rfl (lv_at hl 1 rfl) ?_
              refine lv_if_eq (tgt := 211) hx hb dX6_figure_204 (by decide) (fun c_204 => ?_) (fun c_204 => ?_)
              · have h45 : ¬ hr T tl s0.1 = 45 := of_decide_eq_false (bI_0.mp c_204)
                refine lv_lload_n hx hb dX6_figure_211 rfl (lv_at hl 2 rfl) ?_
                refine lv_lneg hx hb dX6_figure_212 ?_
                refine ppJ 6 22 (by decide) rfl (by decide) rfl rfl tyX6_ok nmX6 rfl (by decide +kernel) C w hi6 (by decide +kernel) dX6_figure_213 (oM6 hM) (fun H locs w => ?_)
                exact hret _ _ _ _ _ dX6_figure_216 w ⟨_, by rw [hfm], fun _ _ => by show _ = Int64.ofInt (num (hr T tl) tl s0.1).2.1; rw [hR]; first | (rw [if_pos h45]) | (show _ = Int64.ofInt (if _ then _ else _); rw [if_neg h45, Int64.ofInt_neg])⟩
              · have h45 : hr T tl s0.1 = 45 := of_decide_eq_true (bI_1 c_204)
                refine lv_lload_n hx hb dX6_figure_207 rfl (lv_at hl 2 rfl) ?_
                refine lv_goto (tgt := 213) hx hb dX6_figure_208 (by decide) ?_
                refine ppJ 6 22 (by decide) rfl (by decide) rfl rfl tyX6_ok nmX6 rfl (by decide +kernel) C w hi6 (by decide +kernel) dX6_figure_213 (oM6 hM) (fun H locs w => ?_)
                exact hret _ _ _ _ _ dX6_figure_216 w ⟨_, by rw [hfm], fun _ _ => by show _ = Int64.ofInt (num (hr T tl) tl s0.1).2.1; rw [hR]; first | (rw [if_pos h45]) | (show _ = Int64.ofInt (if _ then _ else _); rw [if_neg h45, Int64.ofInt_neg])⟩
            have loop_102 : ∀ (f9 : Nat) (q : Nat) (V : Int) (b2 : Bool) (H : Heap) (locs : List Loc) (ls : Array Slot), (q ≤ tl) → (b2 = false → tl ≤ q + f9) → (V ≤ 0) → (lo (bN (hr T tl) s0.1) ≤ V) → (fgI (hr T tl) tl s0.1 q V b2) → Wd G A s.heap (stS S (q, b2)) H locs → lv_has ls 7 [(0, .ref (gA G 6 0)), (1, .int (bI (bN (hr T tl) s0.1))), (2, .int (bI (decide (hr T tl (mp (hr T tl) s0.1) = 48)))), (3, .long (Int64.ofInt V))] → W p l e (rmK 2 45) s m args below meth c H locs 0 0 Q (F0 m 102 ls []) := by
              intro f9
              induction f9 with
              | zero =>
                intro q V b2 H locs ls hq hfu hV hV2 hI w hl
                have hte := ht.st (q, b2)
                have hlo := lo_le (bN (hr T tl) s0.1)
                have hVi : (Int64.ofInt V).toInt = V := i64_small (by omega) (by omega)
                have join_202 : ∀ (q : Nat) (V : Int) (b2 : Bool) (H : Heap) (locs : List Loc) (ls : Array Slot), (fgR (hr T tl) tl s0.1 q V b2) → Wd G A s.heap (stS S (q, b2)) H locs → lv_has ls 7 [(0, .ref (gA G 6 0)), (1, .int (bI (bN (hr T tl) s0.1))), (3, .long (Int64.ofInt V))] → W p l e (rmK 2 45) s m args below meth c H locs 0 0 Q (F0 m 202 ls []) := by
                  intro q V b2 H locs ls hR w hl
                  have hfm := hR.fM hun
                  refine lv_aload_n hx hb dX6_figure_202 rfl (lv_at hl 0 rfl) ?_
                  refine lv_iload_n hx hb dX6_figure_203 rfl (lv_at hl 1 rfl) ?_
                  refine lv_if_eq (tgt := 211) hx hb dX6_figure_204 (by decide) (fun c_204 => ?_) (fun c_204 => ?_)
                  · have h45 : ¬ hr T tl s0.1 = 45 := of_decide_eq_false (bI_0.mp c_204)
                    refine lv_lload_n hx hb dX6_figure_211 rfl (lv_at hl 2 rfl) ?_
                    refine lv_lneg hx hb dX6_figure_212 ?_
                    refine ppJ 6 22 (by decide) rfl (by decide) rfl rfl tyX6_ok nmX6 rfl (by decide +kernel) C w hi6 (by decide +kernel) dX6_figure_213 (oM6 hM) (fun H locs w => ?_)
                    exact hret _ _ _ _ _ dX6_figure_216 w ⟨_, by rw [hfm], fun _ _ => by show _ = Int64.ofInt (num (hr T tl) tl s0.1).2.1; rw [hR]; first | (rw [if_pos h45]) | (show _ = Int64.ofInt (if _ then _ else _); rw [if_neg h45, Int64.ofInt_neg])⟩
                  · have h45 : hr T tl s0.1 = 45 := of_decide_eq_true (bI_1 c_204)
                    refine lv_lload_n hx hb dX6_figure_207 rfl (lv_at hl 2 rfl) ?_
                    refine lv_goto (tgt := 213) hx hb dX6_figure_208 (by decide) ?_
                    refine ppJ 6 22 (by decide) rfl (by decide) rfl rfl tyX6_ok nmX6 rfl (by decide +kernel) C w hi6 (by decide +kernel) dX6_figure_213 (oM6 hM) (fun H locs w => ?_)
                    exact hret _ _ _ _ _ dX6_figure_216 w ⟨_, by rw [hfm], fun _ _ => by show _ = Int64.ofInt (num (hr T tl) tl s0.1).2.1; rw [hR]; first | (rw [if_pos h45]) | (show _ = Int64.ofInt (if _ then _ else _); rw [if_neg h45, Int64.ofInt_neg])⟩
                refine lv_aload_n hx hb dX6_figure_102 rfl (lv_at hl 0 rfl) ?_
                refine cvI (n := 0) C w hl dX6_figure_103 (c_X6_isFigure l G hM (stS S (q, b2)) T tl n (q, b2) hte h300 hq) gX6_figure_X6_isFigure rfl (by decide +kernel) rfl rfl (Nat.le_of_ble_eq_true rfl) ⟨by decide, by decide⟩ (by decide) rfl (oM6 hM) (fun v5 S9 H locs hp w => ?_)
                obtain ⟨q5, e0⟩ := hp
                rw [e0] at w
                refine lv_if_eq (tgt := 202) hx hb dX6_figure_106 (by decide) (fun c_106 => ?_) (fun c_106 => ?_)
                · have hR := hI.nd hn (no_of q5 c_106)
                  exact join_202 _ _ _ _ _ _ hR w (lv_sub hl [0, 1, 3] rfl)
                · have hdq : dig (hr T tl q) := yes_of q5 c_106
                  refine lv_iload_n hx hb dX6_figure_109 rfl (lv_at hl 2 rfl) ?_
                  refine lv_if_ne (tgt := 202) hx hb dX6_figure_110 (by decide) (fun c_110 => ?_) (fun c_110 => ?_)
                  · have hR := hI.z hn (of_decide_eq_true (bI_1 c_110))
                    exact join_202 _ _ _ _ _ _ hR w (lv_sub hl [0, 1, 3] rfl)
                  · have h0 := of_decide_eq_false (bI_0.mp c_110)
                    refine lv_aload_n hx hb dX6_figure_113 rfl (lv_at hl 0 rfl) ?_
                    refine pgI 6 21 (by decide) rfl (by decide) (Or.inr rfl) rfl C w hi6 (by decide +kernel) dX6_figure_114 (oM6 hM) (v := bI b2) hte.2.2.2.2.2 ?_
                    refine lv_if_ne (tgt := 202) hx hb dX6_figure_117 (by decide) (fun c_117 => ?_) (fun c_117 => absurd c_117 (fun y => absurd (hr_dig hdq) (by have := hfu (bI_0.mp y); omega)))
                    have hR := hI.st hn (bI_1 c_117)
                    exact join_202 _ _ _ _ _ _ hR w (lv_sub hl [0, 1, 3] rfl)
              | succ f9 ih =>
                intro q V b2 H locs ls hq hfu hV hV2 hI w hl
                have hte := ht.st (q, b2)
                have hlo := lo_le (bN (hr T tl) s0.1)
                have hVi : (Int64.ofInt V).toInt = V := i64_small (by omega) (by omega)
                have join_202 : ∀ (q : Nat) (V : Int) (b2 : Bool) (H : Heap) (locs : List Loc) (ls : Array Slot), (fgR (hr T tl) tl s0.1 q V b2) → Wd G A s.heap (stS S (q, b2)) H locs → lv_has ls 7 [(0, .ref (gA G 6 0)), (1, .int (bI (bN (hr T tl) s0.1))), (3, .long (Int64.ofInt V))] → W p l e (rmK 2 45) s m args below meth c H locs 0 0 Q (F0 m 202 ls []) := by
                  intro q V b2 H locs ls hR w hl
                  have hfm := hR.fM hun
                  refine lv_aload_n hx hb dX6_figure_202 rfl (lv_at hl 0 rfl) ?_
                  refine lv_iload_n hx hb dX6_figure_203 rfl (lv_at hl 1 rfl) ?_
                  refine lv_if_eq (tgt := 211) hx hb dX6_figure_204 (by decide) (fun c_204 => ?_) (fun c_204 => ?_)
                  · have h45 : ¬ hr T tl s0.1 = 45 := of_decide_eq_false (bI_0.mp c_204)
                    refine lv_lload_n hx hb dX6_figure_211 rfl (lv_at hl 2 rfl) ?_
                    refine lv_lneg hx hb dX6_figure_212 ?_
                    refine ppJ 6 22 (by decide) rfl (by decide) rfl rfl tyX6_ok nmX6 rfl (by decide +kernel) C w hi6 (by decide +kernel) dX6_figure_213 (oM6 hM) (fun H locs w => ?_)
                    exact hret _ _ _ _ _ dX6_figure_216 w ⟨_, by rw [hfm], fun _ _ => by show _ = Int64.ofInt (num (hr T tl) tl s0.1).2.1; rw [hR]; first | (rw [if_pos h45]) | (show _ = Int64.ofInt (if _ then _ else _); rw [if_neg h45, Int64.ofInt_neg])⟩
                  · have h45 : hr T tl s0.1 = 45 := of_decide_eq_true (bI_1 c_204)
                    refine lv_lload_n hx hb dX6_figure_207 rfl (lv_at hl 2 rfl) ?_
                    refine lv_goto (tgt := 213) hx hb dX6_figure_208 (by decide) ?_
                    refine ppJ 6 22 (by decide) rfl (by decide) rfl rfl tyX6_ok nmX6 rfl (by decide +kernel) C w hi6 (by decide +kernel) dX6_figure_213 (oM6 hM) (fun H locs w => ?_)
                    exact hret _ _ _ _ _ dX6_figure_216 w ⟨_, by rw [hfm], fun _ _ => by show _ = Int64.ofInt (num (hr T tl) tl s0.1).2.1; rw [hR]; first | (rw [if_pos h45]) | (show _ = Int64.ofInt (if _ then _ else _); rw [if_neg h45, Int64.ofInt_neg])⟩
                refine lv_aload_n hx hb dX6_figure_102 rfl (lv_at hl 0 rfl) ?_
                refine cvI (n := 0) C w hl dX6_figure_103 (c_X6_isFigure l G hM (stS S (q, b2)) T tl n (q, b2) hte h300 hq) gX6_figure_X6_isFigure rfl (by decide +kernel) rfl rfl (Nat.le_of_ble_eq_true rfl) ⟨by decide, by decide⟩ (by decide) rfl (oM6 hM) (fun v5 S9 H locs hp w => ?_)
                obtain ⟨q5, e0⟩ := hp
                rw [e0] at w
                refine lv_if_eq (tgt := 202) hx hb dX6_figure_106 (by decide) (fun c_106 => ?_) (fun c_106 => ?_)
                · have hR := hI.nd hn (no_of q5 c_106)
                  exact join_202 _ _ _ _ _ _ hR w (lv_sub hl [0, 1, 3] rfl)
                · have hdq : dig (hr T tl q) := yes_of q5 c_106
                  refine lv_iload_n hx hb dX6_figure_109 rfl (lv_at hl 2 rfl) ?_
                  refine lv_if_ne (tgt := 202) hx hb dX6_figure_110 (by decide) (fun c_110 => ?_) (fun c_110 => ?_)
                  · have hR := hI.z hn (of_decide_eq_true (bI_1 c_110))
                    exact join_202 _ _ _ _ _ _ hR w (lv_sub hl [0, 1, 3] rfl)
                  · have h0 := of_decide_eq_false (bI_0.mp c_110)
                    refine lv_aload_n hx hb dX6_figure_113 rfl (lv_at hl 0 rfl) ?_
                    refine pgI 6 21 (by decide) rfl (by decide) (Or.inr rfl) rfl C w hi6 (by decide +kernel) dX6_figure_114 (oM6 hM) (v := bI b2) hte.2.2.2.2.2 ?_
                    refine lv_if_ne (tgt := 202) hx hb dX6_figure_117 (by decide) (fun c_117 => ?_) (fun c_117 => ?_)
                    · have hR := hI.st hn (bI_1 c_117)
                      exact join_202 _ _ _ _ _ _ hR w (lv_sub hl [0, 1, 3] rfl)
                    · have hb2 : b2 = false := bI_0.mp c_117
                      refine lv_aload_n hx hb dX6_figure_120 rfl (lv_at hl 0 rfl) ?_
                      refine cvI (n := 0) C w hl dX6_figure_121 (c_X6_here l G hM (stS S (q, b2)) T tl n (q, b2) hte h300 hq) gX6_figure_X6_here rfl (by decide +kernel) rfl rfl (Nat.le_of_ble_eq_true rfl) ⟨by decide, by decide⟩ (by decide) rfl (oM6 hM) (fun v5 S9 H locs hp w => ?_)
                      obtain ⟨rfl, e0⟩ := hp
                      rw [e0] at w
                      refine lv_bipush (v := 48) hx hb dX6_figure_124 (by decide) ?_
                      refine lv_isub hx hb dX6_figure_126 ?_
                      refine lv_istore hx hb dX6_figure_127 hl (by decide) rfl (fun ls hl => ?_)
                      have join_166 : ∀ (b3 : Bool) (H : Heap) (locs : List Loc) (ls : Array Slot), (b3 = decide (¬ lo (bN (hr T tl) s0.1) ≤ 10 * V - ((hr T tl q).toInt - 48))) → Wd G A s.heap (stS S (q, b2)) H locs → lv_has ls 7 [(0, .ref (gA G 6 0)), (1, .int (bI (bN (hr T tl) s0.1))), (2, .int (bI (decide (hr T tl (mp (hr T tl) s0.1) = 48)))), (3, .long (Int64.ofInt V)), (5, .int (hr T tl q - 48))] → W p l e (rmK 2 45) s m args below meth c H locs 0 0 Q (F0 m 166 ls [.int (bI b3)]) := by
                        intro b3 H locs ls hb3 w hl
                        refine lv_istore hx hb dX6_figure_166 hl (by decide) rfl (fun ls hl => ?_)
                        refine lv_aload_n hx hb dX6_figure_168 rfl (lv_at hl 1 rfl) ?_
                        refine lv_iload hx hb dX6_figure_169 (lv_at hl 0 rfl) ?_
                        refine ppZ 6 21 (by decide) rfl (by decide) rfl rfl tyX6_ok nmX6 rfl (by decide +kernel) C w hi6 (by decide +kernel) dX6_figure_171 (oM6 hM) (bI_01 b3) (fun H locs w => ?_)
                        have w : Wd G A s.heap (stS S (q, b3)) H locs := by rw [← stS_sk S (q, b2) b3]; exact w
                        refine lv_iload hx hb dX6_figure_174 (lv_at hl 0 rfl) ?_
                        refine lv_if_ne (tgt := 199) hx hb dX6_figure_176 (by decide) (fun c_176 => ?_) (fun c_176 => ?_)
                        · have hbt := bI_1 c_176
                          have hnf : ¬ lo (bN (hr T tl) s0.1) ≤ 10 * V - ((hr T tl q).toInt - 48) := of_decide_eq_true (hb3.symm.trans hbt)
                          have k1 := hq
                          have k2 : b3 = false → tl ≤ q + f9 := fun y => absurd (y.symm.trans hbt) Bool.false_ne_true
                          have k3 := hV
                          have k4 := hV2
                          have k5 : fgI (hr T tl) tl s0.1 q V b3 := by rw [hb2] at hI; rw [hbt]; exact hI.ov h0 hdq hnf
                          refine lv_goto (tgt := 102) hx hb dX6_figure_199 (by decide) ?_
                          exact ih _ _ _ _ _ _ k1 k2 k3 k4 k5 w (lv_sub hl [1, 2, 3, 4] rfl)
                        · have hbf : b3 = false := bI_0.mp c_176
                          have hft : lo (bN (hr T tl) s0.1) ≤ 10 * V - ((hr T tl q).toInt - 48) := Classical.byContradiction (fun y => absurd (hb3.trans (decide_eq_true y)) (by rw [hbf]; decide))
                          have k5 : fgI (hr T tl) tl s0.1 (q + 1) (10 * V - ((hr T tl q).toInt - 48)) b3 := by rw [hb2] at hI; rw [hbf]; exact hI.go h0 hdq hft
                          have k1 : q + 1 ≤ tl := hr_dig hdq
                          have k2 : b3 = false → tl ≤ q + 1 + f9 := fun _ => by have := hfu hb2; omega
                          have k3 : 10 * V - ((hr T tl q).toInt - 48) ≤ 0 := by have := hdq.1; omega
                          have k4 := hft
                          refine lv_ldc2 (v := (10)) hx hb hown (hts (.constantLong RX6 154 (10)) (by decide +kernel)) dX6_figure_179 ?_
                          refine lv_lload_n hx hb dX6_figure_182 rfl (lv_at hl 4 rfl) ?_
                          refine lv_lmul hx hb dX6_figure_183 ?_
                          refine lv_iload hx hb dX6_figure_184 (lv_at hl 5 rfl) ?_
                          refine lv_i2l hx hb dX6_figure_186 rfl ?_
                          refine lv_lsub hx hb dX6_figure_187 ?_
                          rw [stepM hdq]
                          refine lv_lstore_n hx hb dX6_figure_188 rfl hl (by decide) rfl (fun ls hl => ?_)
                          refine lv_aload_n hx hb dX6_figure_189 rfl (lv_at hl 2 rfl) ?_
                          refine lv_dup hx hb dX6_figure_190 rfl ?_
                          refine pgI 6 20 (by decide) rfl (by decide) (Or.inl rfl) rfl C w hi6 (by decide +kernel) dX6_figure_191 (oM6 hM) (v := nI q) (ht.st (q, b3)).2.2.2.2.1 ?_
                          refine lv_iconst (v := 1) hx hb dX6_figure_194 (by decide) ?_
                          refine lv_iadd hx hb dX6_figure_195 ?_
                          refine ppI 6 20 (by decide) rfl (by decide) rfl rfl tyX6_ok nmX6 rfl (by decide +kernel) C w hi6 (by decide +kernel) dX6_figure_196 (oM6 hM) (fun H locs w => ?_)
                          have w : Wd G A s.heap (stS S (q + 1, b3)) H locs := by rw [nI_1, stS_pl] at w; exact w
                          refine lv_goto (tgt := 102) hx hb dX6_figure_199 (by decide) ?_
                          exact ih _ _ _ _ _ _ k1 k2 k3 k4 k5 w (lv_sub hl [2, 3, 4, 0] rfl)
                      have join_158 : ∀ (li : Int32) (H : Heap) (locs : List Loc) (ls : Array Slot), (li.toInt = if (bN (hr T tl) s0.1) = true then 8 else 7) → (¬ V < -922337203685477580) → (V = -922337203685477580) → Wd G A s.heap (stS S (q, b2)) H locs → lv_has ls 7 [(0, .ref (gA G 6 0)), (1, .int (bI (bN (hr T tl) s0.1))), (2, .int (bI (decide (hr T tl (mp (hr T tl) s0.1) = 48)))), (3, .long (Int64.ofInt V)), (5, .int (hr T tl q - 48))] → W p l e (rmK 2 45) s m args below meth c H locs 0 0 Q (F0 m 158 ls [.int li, .int (hr T tl q - 48)]) := by
                        intro li H locs ls hli c_134 c_142 w hl
                        refine lv_icmp_le (tgt := 165) hx hb dX6_figure_158 (by decide) (fun c_158 => ?_) (fun c_158 => ?_)
                        · rw [Int32.le_iff_toInt_le, fg_sub hdq, hli] at c_158
                          have hbb : false = decide (¬ lo (bN (hr T tl) s0.1) ≤ 10 * V - ((hr T tl q).toInt - 48)) := (decide_eq_false (fun y => ((more_M (V := V) (f := ((hr T tl q).toInt - 48)) (b := (bN (hr T tl) s0.1)) (by omega) (by omega)).mpr y).elim c_134 (fun z => absurd z.2 (by omega)))).symm
                          refine lv_iconst (v := 0) hx hb dX6_figure_165 (by decide) ?_
                          exact join_166 _ _ _ _ hbb w (lv_sub hl [0, 1, 2, 3, 4] rfl)
                        · rw [Int32.le_iff_toInt_le, fg_sub hdq, hli] at c_158
                          have hbb : true = decide (¬ lo (bN (hr T tl) s0.1) ≤ 10 * V - ((hr T tl q).toInt - 48)) := (decide_eq_true ((more_M (V := V) (f := ((hr T tl q).toInt - 48)) (b := (bN (hr T tl) s0.1)) (by omega) (by omega)).mp (Or.inr ⟨c_142, by omega⟩))).symm
                          refine lv_iconst (v := 1) hx hb dX6_figure_161 (by decide) ?_
                          refine lv_goto (tgt := 166) hx hb dX6_figure_162 (by decide) ?_
                          exact join_166 _ _ _ _ hbb w (lv_sub hl [0, 1, 2, 3, 4] rfl)
                      refine lv_lload_n hx hb dX6_figure_129 rfl (lv_at hl 4 rfl) ?_
                      refine lv_ldc2 (v := (-922337203685477580)) hx hb hown (hts (.constantLong RX6 152 (-922337203685477580)) (by decide +kernel)) dX6_figure_130 ?_
                      refine W.lcmp hx hb dX6_figure_133 ?_
                      refine lv_if_lt (tgt := 161) hx hb dX6_figure_134 (by decide) (fun c_134 => ?_) (fun c_134 => ?_)
                      · rw [lg_cmp_lt] at c_134
                        rw [Int64.lt_iff_toInt_lt, hVi, show (-922337203685477580 : Int64).toInt = -922337203685477580 from by decide] at c_134
                        have hbb : true = decide (¬ lo (bN (hr T tl) s0.1) ≤ 10 * V - ((hr T tl q).toInt - 48)) := (decide_eq_true ((more_M (V := V) (f := ((hr T tl q).toInt - 48)) (b := (bN (hr T tl) s0.1)) (by omega) (by omega)).mp (Or.inl c_134))).symm
                        refine lv_iconst (v := 1) hx hb dX6_figure_161 (by decide) ?_
                        refine lv_goto (tgt := 166) hx hb dX6_figure_162 (by decide) ?_
                        exact join_166 _ _ _ _ hbb w (lv_sub hl [1, 2, 3, 4, 0] rfl)
                      · rw [lg_cmp_lt] at c_134
                        rw [Int64.lt_iff_toInt_lt, hVi, show (-922337203685477580 : Int64).toInt = -922337203685477580 from by decide] at c_134
                        refine lv_lload_n hx hb dX6_figure_137 rfl (lv_at hl 4 rfl) ?_
                        refine lv_ldc2 (v := (-922337203685477580)) hx hb hown (hts (.constantLong RX6 152 (-922337203685477580)) (by decide +kernel)) dX6_figure_138 ?_
                        refine W.lcmp hx hb dX6_figure_141 ?_
                        refine lv_if_ne (tgt := 165) hx hb dX6_figure_142 (by decide) (fun c_142 => ?_) (fun c_142 => ?_)
                        · rw [lg_cmp_eq] at c_142
                          rw [← Int64.toInt_inj, hVi, show (-922337203685477580 : Int64).toInt = -922337203685477580 from by decide] at c_142
                          have hbb : false = decide (¬ lo (bN (hr T tl) s0.1) ≤ 10 * V - ((hr T tl q).toInt - 48)) := (decide_eq_false (fun y => ((more_M (V := V) (f := ((hr T tl q).toInt - 48)) (b := (bN (hr T tl) s0.1)) (by omega) (by omega)).mpr y).elim c_134 (fun z => c_142 z.1))).symm
                          refine lv_iconst (v := 0) hx hb dX6_figure_165 (by decide) ?_
                          exact join_166 _ _ _ _ hbb w (lv_sub hl [1, 2, 3, 4, 0] rfl)
                        · rw [lg_cmp_eq] at c_142
                          rw [← Int64.toInt_inj, hVi, show (-922337203685477580 : Int64).toInt = -922337203685477580 from by decide] at c_142
                          refine lv_iload hx hb dX6_figure_145 (lv_at hl 0 rfl) ?_
                          refine lv_iload_n hx hb dX6_figure_147 rfl (lv_at hl 2 rfl) ?_
                          refine lv_if_eq (tgt := 156) hx hb dX6_figure_148 (by decide) (fun c_148 => ?_) (fun c_148 => ?_)
                          · have hlm : (7 : Int32).toInt = if (bN (hr T tl) s0.1) = true then 8 else 7 := by rw [bI_0.mp c_148]; rfl
                            refine lv_bipush (v := 7) hx hb dX6_figure_156 (by decide) ?_
                            exact join_158 _ _ _ _ hlm c_134 c_142 w (lv_sub hl [1, 2, 3, 4, 0] rfl)
                          · have hlm : (8 : Int32).toInt = if (bN (hr T tl) s0.1) = true then 8 else 7 := by rw [bI_1 c_148]; rfl
                            refine lv_bipush (v := 8) hx hb dX6_figure_151 (by decide) ?_
                            refine lv_goto (tgt := 158) hx hb dX6_figure_153 (by decide) ?_
                            exact join_158 _ _ _ _ hlm c_134 c_142 w (lv_sub hl [1, 2, 3, 4, 0] rfl)
            exact loop_102 (tl - ((mp (hr T tl) s0.1) + 1)) ((mp (hr T tl) s0.1) + 1) _ false _ _ _ (hr_dig hdm) (fun _ => by omega) (by have := hdm.1; omega) (by have := hdm.2; unfold lo; split <;> omega) fgI_0 w (lv_sub hl [2, 3, 1, 0] rfl)
          refine lv_aload_n hx hb dX6_figure_67 rfl (lv_at hl 0 rfl) ?_
          refine cvI (n := 0) C w hl dX6_figure_68 (c_X6_here l G hM (stS S ((mp (hr T tl) s0.1), false)) T tl n ((mp (hr T tl) s0.1), false) htm h300 hml) gX6_figure_X6_here rfl (by decide +kernel) rfl rfl (Nat.le_of_ble_eq_true rfl) ⟨by decide, by decide⟩ (by decide) rfl (oM6 hM) (fun v5 S9 H locs hp w => ?_)
          obtain ⟨rfl, e0⟩ := hp
          rw [e0] at w
          refine lv_bipush (v := 48) hx hb dX6_figure_71 (by decide) ?_
          refine lv_icmp_ne (tgt := 80) hx hb dX6_figure_73 (by decide) (fun c_73 => ?_) (fun c_73 => ?_)
          · have hzb : 0 = bI (decide (hr T tl (mp (hr T tl) s0.1) = 48)) := by rw [decide_eq_false c_73]; rfl
            refine lv_iconst (v := 0) hx hb dX6_figure_80 (by decide) ?_
            exact join_81 _ _ _ _ hzb w (lv_sub hl [0, 1] rfl)
          · have hzb : 1 = bI (decide (hr T tl (mp (hr T tl) s0.1) = 48)) := by rw [decide_eq_true c_73]; rfl
            refine lv_iconst (v := 1) hx hb dX6_figure_76 (by decide) ?_
            refine lv_goto (tgt := 81) hx hb dX6_figure_77 (by decide) ?_
            exact join_81 _ _ _ _ hzb w (lv_sub hl [0, 1] rfl)
        refine lv_aload_n hx hb dX6_figure_41 rfl (lv_at hl 0 rfl) ?_
        refine cvI (n := 0) C w hl dX6_figure_42 (c_X6_isFigure l G hM (stS S ((mp (hr T tl) s0.1), false)) T tl n ((mp (hr T tl) s0.1), false) htm h300 hml) gX6_figure_X6_isFigure rfl (by decide +kernel) rfl rfl (Nat.le_of_ble_eq_true rfl) ⟨by decide, by decide⟩ (by decide) rfl (oM6 hM) (fun v5 S9 H locs hp w => ?_)
        obtain ⟨q5, e0⟩ := hp
        rw [e0] at w
        refine lv_if_eq (tgt := 61) hx hb dX6_figure_45 (by decide) (fun c_45 => ?_) (fun c_45 => ?_)
        · have hnn : noN (hr T tl) s0.1 := Or.inl (no_of q5 c_45)
          exact join_61 _ _ _ hnn w (lv_sub hl [0, 1] rfl)
        · have hd0 : dig (hr T tl (mp (hr T tl) s0.1)) := yes_of q5 c_45
          refine lv_iload_n hx hb dX6_figure_48 rfl (lv_at hl 1 rfl) ?_
          refine lv_if_eq (tgt := 67) hx hb dX6_figure_49 (by decide) (fun c_49 => ?_) (fun c_49 => ?_)
          · have hnn : ¬ noN (hr T tl) s0.1 := fun y => y.elim (fun z => z hd0) (fun z => absurd z.1 (of_decide_eq_false (bI_0.mp c_49)))
            exact join_67 _ _ _ hnn hd0 w (lv_sub hl [0, 1] rfl)
          · have h45 := of_decide_eq_true (bI_1 c_49)
            refine lv_aload_n hx hb dX6_figure_52 rfl (lv_at hl 0 rfl) ?_
            refine cvI (n := 0) C w hl dX6_figure_53 (c_X6_here l G hM (stS S ((mp (hr T tl) s0.1), false)) T tl n ((mp (hr T tl) s0.1), false) htm h300 hml) gX6_figure_X6_here rfl (by decide +kernel) rfl rfl (Nat.le_of_ble_eq_true rfl) ⟨by decide, by decide⟩ (by decide) rfl (oM6 hM) (fun v5 S9 H locs hp w => ?_)
            obtain ⟨rfl, e0⟩ := hp
            rw [e0] at w
            refine lv_bipush (v := 48) hx hb dX6_figure_56 (by decide) ?_
            refine lv_icmp_ne (tgt := 67) hx hb dX6_figure_58 (by decide) (fun c_58 => ?_) (fun c_58 => ?_)
            · have hnn : ¬ noN (hr T tl) s0.1 := fun y => y.elim (fun z => z hd0) (fun z => c_58 z.2)
              exact join_67 _ _ _ hnn hd0 w (lv_sub hl [0, 1] rfl)
            · have hnn : noN (hr T tl) s0.1 := Or.inr ⟨h45, c_58⟩
              exact join_61 _ _ _ hnn w (lv_sub hl [0, 1] rfl)
      refine lv_aload_n hx hb dX6_figure_23 rfl (lv_at hl 1 rfl) ?_
      refine lv_dup hx hb dX6_figure_24 rfl ?_
      refine pgI 6 20 (by decide) rfl (by decide) (Or.inl rfl) rfl C w hi6 (by decide +kernel) dX6_figure_25 (oM6 hM) (v := nI s0.1) ht.2.2.2.2.1 ?_
      refine lv_iload_n hx hb dX6_figure_28 rfl (lv_at hl 0 rfl) ?_
      refine lv_if_eq (tgt := 36) hx hb dX6_figure_29 (by decide) (fun c_29 => ?_) (fun c_29 => ?_)
      · have hmv : nI s0.1 + 0 = nI (mp (hr T tl) s0.1) := by rw [mp_0 (of_decide_eq_false (bI_0.mp c_29))]; exact nI_add _ 0
        refine lv_iconst (v := 0) hx hb dX6_figure_36 (by decide) ?_
        refine lv_iadd hx hb dX6_figure_37 ?_
        refine ppI 6 20 (by decide) rfl (by decide) rfl rfl tyX6_ok nmX6 rfl (by decide +kernel) C w hi6 (by decide +kernel) dX6_figure_38 (oM6 hM) (fun H locs w => ?_)
        rw [hmv, uI_pl ht, hun] at w
        exact join_41 _ _ _ w (lv_sub hl [1, 0] rfl)
      · have hmv : nI s0.1 + 1 = nI (mp (hr T tl) s0.1) := by rw [mp_1 (of_decide_eq_true (bI_1 c_29))]; exact nI_1 _
        refine lv_iconst (v := 1) hx hb dX6_figure_32 (by decide) ?_
        refine lv_goto (tgt := 37) hx hb dX6_figure_33 (by decide) ?_
        refine lv_iadd hx hb dX6_figure_37 ?_
        refine ppI 6 20 (by decide) rfl (by decide) rfl rfl tyX6_ok nmX6 rfl (by decide +kernel) C w hi6 (by decide +kernel) dX6_figure_38 (oM6 hM) (fun H locs w => ?_)
        rw [hmv, uI_pl ht, hun] at w
        exact join_41 _ _ _ w (lv_sub hl [1, 0] rfl)
    refine lv_aload_n hx hb dX6_figure_8 rfl (lv_at hl 0 rfl) ?_
    refine cvI (n := 0) C w hl dX6_figure_9 (c_X6_here l G hM S T tl n s0 ht h300 hq0) gX6_figure_X6_here rfl (by decide +kernel) rfl rfl (Nat.le_of_ble_eq_true rfl) ⟨by decide, by decide⟩ (by decide) rfl (oM6 hM) (fun v5 S9 H locs hp w => ?_)
    obtain ⟨rfl, e0⟩ := hp
    rw [e0] at w
    refine lv_bipush (v := 45) hx hb dX6_figure_12 (by decide) ?_
    refine lv_icmp_ne (tgt := 21) hx hb dX6_figure_14 (by decide) (fun c_14 => ?_) (fun c_14 => ?_)
    · have hvb : 0 = bI (bN (hr T tl) s0.1) := by show 0 = bI (decide (hr T tl s0.1 = 45)); rw [decide_eq_false c_14]; rfl
      refine lv_iconst (v := 0) hx hb dX6_figure_21 (by decide) ?_
      exact join_22 _ _ _ _ hvb w (lv_sub hl [0] rfl)
    · have hvb : 1 = bI (bN (hr T tl) s0.1) := by show 1 = bI (decide (hr T tl s0.1 = 45)); rw [decide_eq_true c_14]; rfl
      refine lv_iconst (v := 1) hx hb dX6_figure_17 (by decide) ?_
      refine lv_goto (tgt := 22) hx hb dX6_figure_18 (by decide) ?_
      exact join_22 _ _ _ _ hvb w (lv_sub hl [0] rfl)
  · have hst : s0.2 = true := bI_1 c_4
    exact hret _ _ _ _ _ dX6_figure_7 w ⟨_, by rw [fM_s hst, stS_self ht, uJ_self S 6 0 22 rfl], fun y => absurd (y.symm.trans hst) Bool.false_ne_true⟩

set_option maxHeartbeats 4000000 in
set_option maxRecDepth 100000 in
/-- level -/
theorem c_X6_level (l : Launch) (G : GT) (hM : okM G) (S : PS) (T : Nat → Int32) (tl n : Nat) (s0 : Nat × Bool) (ht : mst S T tl n s0) (hn60 : n < 60) (kx : Nat) (hkx : kx < 12) : CtV l G yX6_level wsX6_level (rmK 0 0) [.ref (gA G 6 0), .int (nI kx)] S (fun S2 => S2 = if s0.2 = true then S else uJ S 9 0 (12 * n + kx) (sJ S 6 0 22)) := by
  refine ofCtV (cc := cX6_level) (nL := 2) RX6 (by decide +kernel) rfl rfl (Nat.le_of_ble_eq_true rfl) ?_
  intro p e s m args below meth c A Q ls C w hl hret
  have hx := C.1
  have hb := C.2.1
  have hown := C.2.2.2.1
  have hts := C.2.2.2.2.1
  have hi6 : ∀ w ∈ wsX60, w ∈ wsX6_level := by decide +kernel
  refine lv_aload_n hx hb dX6_level_0 rfl (lv_at hl 0 rfl) ?_
  refine pgI 6 21 (by decide) rfl (by decide) (Or.inr rfl) rfl C w hi6 (by decide +kernel) dX6_level_1 (oM6 hM) (v := bI s0.2) ht.2.2.2.2.2 ?_
  refine lv_if_ne (tgt := 25) hx hb dX6_level_4 (by decide) (fun c_4 => ?_) (fun c_4 => ?_)
  · have hst := bI_1 c_4
    exact hret _ _ _ _ _ dX6_level_25 w (by first | rw [if_pos hst] | rw [if_neg (fun y => absurd (hun.symm.trans y) Bool.false_ne_true)])
  · have hun : s0.2 = false := bI_0.mp c_4
    refine lv_aload_n hx hb dX6_level_7 rfl (lv_at hl 0 rfl) ?_
    refine pgQ 6 4 9 (by decide) rfl (by decide) rfl rfl C w hi6 (by decide +kernel) dX6_level_8 (oM6 hM) (ht.1.2.2.2.1) ?_
    refine lv_bipush (v := 12) hx hb dX6_level_11 (by decide) ?_
    refine lv_aload_n hx hb dX6_level_13 rfl (lv_at hl 0 rfl) ?_
    refine pgI 6 0 (by decide) rfl (by decide) (Or.inl rfl) rfl C w hi6 (by decide +kernel) dX6_level_14 (oM6 hM) (v := nI n) ht.2.2.2.1 ?_
    refine lv_imul hx hb dX6_level_17 ?_
    refine lv_iload_n hx hb dX6_level_18 rfl (lv_at hl 1 rfl) ?_
    refine lv_iadd hx hb dX6_level_19 ?_
    rw [ix12]
    refine lv_aload_n hx hb dX6_level_20 rfl (lv_at hl 0 rfl) ?_
    refine pgJ 6 22 (by decide) rfl (by decide) rfl rfl C w hi6 (by decide +kernel) dX6_level_21 (oM6 hM) rfl ?_
    refine psJ C w dX6_level_24 (oM9 hM (by decide)) (n := 12 * n + kx) rfl (nM90 hM) (by omega) (by decide) (fun H locs w => ?_)
    exact hret _ _ _ _ _ dX6_level_25 w (by first | rw [if_pos hst] | rw [if_neg (fun y => absurd (hun.symm.trans y) Bool.false_ne_true)])
