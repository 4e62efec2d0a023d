/-- read: its answer -/
def spRead (n : Nat) (ok : Prop) (pl : Nat) (v : Int32) (full new fail : Prop) : Prop := if n = 60 then v = -4 ∧ full else ((ok ∧ v = nI n ∧ new) ∨ (¬ ok ∧ v = -100 - nI pl ∧ fail))
theorem rdC_b {h : Nat → Int32} {tl : Nat} (q : h 0 = 91) : rdC h tl = ((bentC h tl 0).1, (bentC h tl 0).2.1, 3, (bentC h tl 0).2.2.1.length, (bentC h tl 0).2.2.1 ++ (bentC h tl 0).2.2.2) := if_pos q
theorem rdC_p {h : Nat → Int32} {tl : Nat} (q : ¬ h 0 = 91) : rdC h tl = ((plainC h tl 0).1, (plainC h tl 0).2.1, (plainC h tl 0).2.2.1, (if (plainC h tl 0).2.2.1 = 0 then 0 else 1), (plainC h tl 0).2.2.2) := if_neg q

set_option maxHeartbeats 4000000 in
set_option maxRecDepth 100000 in
/-- parse -/
theorem c_X3_parse (l : Launch) (G : GT) (k : SK) (hX : okX G) (S : PS) (hS : lkX S) (T : Nat → Int32) (tl : Nat) (hT : sI S 7 0 = T) (htl : sI S 3 0 1 = nI tl) (h300 : tl ≤ 300) (r : Nat) (hr9 : r < 79) : CkI l G k yX3_parse wsX3_parse (rmK 7 151) [.ref (gA G 3 0), .ref (gA G 2 r)] S (fun v S2 => sI S2 3 0 2 = nI (rdC (hr T tl) tl).1 ∧ frP S S2 r ∧ ((v = 1 ∧ ((rdC (hr T tl) tl).2.1 = true ∧ (rdC (hr T tl) tl).1 = tl) ∧ hsL S2 r (rdC (hr T tl) tl).2.2.1 (rdC (hr T tl) tl).2.2.2.1 (rdC (hr T tl) tl).2.2.2.2) ∨ (v = 0 ∧ ¬ ((rdC (hr T tl) tl).2.1 = true ∧ (rdC (hr T tl) tl).1 = tl)))) := by
  refine ofCkN (cc := cX3_parse) (nL := 3) .boolean RX3 (by decide +kernel) rfl rfl (Nat.le_of_ble_eq_true rfl) ?_
  intro p e s m args below meth c A Q ls C hk w hl hret
  have hx := C.1
  have hb := C.2.1
  have hown := C.2.2.2.1
  have hts := C.2.2.2.2.1
  have hi3 : ∀ w ∈ wsX30, w ∈ wsX3_parse := by decide +kernel
  have join_27 : ∀ (v3 : Int32) (S3 : PS) (H : Heap) (locs : List Loc) (ls : Array Slot), (sI S3 3 0 2 = nI (rdC (hr T tl) tl).1) → (frP S S3 r) → ((v3 = 1 ∧ (rdC (hr T tl) tl).2.1 = true ∧ hsL S3 r (rdC (hr T tl) tl).2.2.1 (rdC (hr T tl) tl).2.2.2.1 (rdC (hr T tl) tl).2.2.2.2) ∨ (v3 = 0 ∧ ¬ (rdC (hr T tl) tl).2.1 = true)) → ((rdC (hr T tl) tl).1 ≤ tl) → Wd G A s.heap S3 H locs → lv_has ls 3 [(0, .ref (gA G 3 0)), (1, .ref (gA G 2 r))] → W p l e (rmK 7 151) s m args below meth c H locs 0 0 Q (F0 m 27 ls [.int v3]) := by
    intro v3 S3 H locs ls h1 h2 h3 h4 w hl
    have htl3 : sI S3 3 0 1 = nI tl := by rw [h2.2.1 3 0 1 (by simp) (by simp)]; exact htl
    refine lv_istore_n hx hb dX3_parse_27 rfl hl (by decide) rfl (fun ls hl => ?_)
    refine lv_iload_n hx hb dX3_parse_28 rfl (lv_at hl 0 rfl) ?_
    refine lv_if_eq (tgt := 47) hx hb dX3_parse_29 (by decide) (fun c_29 => ?_) (fun c_29 => ?_)
    · have hno : ¬ ((rdC (hr T tl) tl).2.1 = true ∧ (rdC (hr T tl) tl).1 = tl) := fun x => h3.elim (fun y => absurd (y.1.symm.trans c_29) (by decide)) (fun y => y.2 x.1)
      refine lv_iconst (v := 0) hx hb dX3_parse_47 (by decide) ?_
      exact hret _ _ _ _ _ _ dX3_parse_48 w (by decide) ⟨h1, h2, by first | exact Or.inr ⟨rfl, hno⟩ | exact Or.inl ⟨rfl, hyy, hye.2⟩⟩
    · have hye := (h3.elim (fun y => y.2) (fun y => absurd y.1 c_29) : (rdC (hr T tl) tl).2.1 = true ∧ hsL S3 r (rdC (hr T tl) tl).2.2.1 (rdC (hr T tl) tl).2.2.2.1 (rdC (hr T tl) tl).2.2.2.2)
      refine lv_aload_n hx hb dX3_parse_32 rfl (lv_at hl 1 rfl) ?_
      refine pgI 3 2 (by decide) rfl (by decide) (Or.inl rfl) rfl C w hi3 (by decide +kernel) dX3_parse_33 (oP3 hX) (v := nI (rdC (hr T tl) tl).1) h1 ?_
      refine lv_aload_n hx hb dX3_parse_36 rfl (lv_at hl 1 rfl) ?_
      refine pgI 3 1 (by decide) rfl (by decide) (Or.inl rfl) rfl C w hi3 (by decide +kernel) dX3_parse_37 (oP3 hX) (v := nI tl) htl3 ?_
      refine lv_icmp_ne (tgt := 47) hx hb dX3_parse_40 (by decide) (fun c_40 => ?_) (fun c_40 => ?_)
      · have hno : ¬ ((rdC (hr T tl) tl).2.1 = true ∧ (rdC (hr T tl) tl).1 = tl) := fun x => c_40 (by rw [x.2])
        refine lv_iconst (v := 0) hx hb dX3_parse_47 (by decide) ?_
        exact hret _ _ _ _ _ _ dX3_parse_48 w (by decide) ⟨h1, h2, by first | exact Or.inr ⟨rfl, hno⟩ | exact Or.inl ⟨rfl, hyy, hye.2⟩⟩
      · have hyy : ((rdC (hr T tl) tl).2.1 = true ∧ (rdC (hr T tl) tl).1 = tl) := ⟨hye.1, (nI_eq (by omega) (by omega)).mp c_40⟩
        refine lv_iconst (v := 1) hx hb dX3_parse_43 (by decide) ?_
        refine lv_goto (tgt := 48) hx hb dX3_parse_44 (by decide) ?_
        exact hret _ _ _ _ _ _ dX3_parse_48 w (by decide) ⟨h1, h2, by first | exact Or.inr ⟨rfl, hno⟩ | exact Or.inl ⟨rfl, hyy, hye.2⟩⟩
  refine lv_aload_n hx hb dX3_parse_0 rfl (lv_at hl 0 rfl) ?_
  refine lv_iconst (v := 0) hx hb dX3_parse_1 (by decide) ?_
  refine ppI 3 2 (by decide) rfl (by decide) rfl rfl tyX3_ok nmX3 rfl (by decide +kernel) C w hi3 (by decide +kernel) dX3_parse_2 (oP3 hX) (fun H locs w => ?_)
  have w : Wd G A s.heap (uI S 3 0 2 (nI 0)) H locs := w
  have ht : tpX (uI S 3 0 2 (nI 0)) T tl 0 := ⟨hS, by rw [← hT]; exact funext fun j => by rw [sI_uI, if_neg (by simp)], by rw [sI_uI, if_neg (by simp)]; exact htl, by rw [sI_uI, if_pos ⟨rfl, rfl, rfl⟩]⟩
  refine lv_aload_n hx hb dX3_parse_5 rfl (lv_at hl 0 rfl) ?_
  refine lv_bipush (v := 91) hx hb dX3_parse_6 (by decide) ?_
  refine cvI (n := 1) C w hl dX3_parse_8 (c_X3_isNext l G hX (uI S 3 0 2 (nI 0)) T tl 0 ht h300 (Nat.zero_le _) 91 (by decide)) gX3_parse_X3_isNext rfl (by decide +kernel) rfl rfl (Nat.le_of_ble_eq_true rfl) ⟨by decide, by decide⟩ (by decide) rfl (oP3 hX) (fun v1 S9 H locs hp w => ?_)
  obtain ⟨q1, e0⟩ := hp
  rw [e0] at w
  refine lv_if_eq (tgt := 22) hx hb dX3_parse_11 (by decide) (fun c_11 => ?_) (fun c_11 => ?_)
  · have hn91 := no_of q1 c_11
    refine lv_aload_n hx hb dX3_parse_22 rfl (lv_at hl 0 rfl) ?_
    refine lv_aload_n hx hb dX3_parse_23 rfl (lv_at hl 1 rfl) ?_
    refine kvI (n := 1) C hk w hl dX3_parse_24 (c_X3_parsePlain l G k hX (uI S 3 0 2 (nI 0)) T tl 0 ht h300 (Nat.zero_le _) r hr9) gX3_parse_X3_parsePlain rfl (by decide +kernel) rfl rfl (Nat.le_of_ble_eq_true rfl) ⟨by decide, by decide⟩ (by decide) rfl (oP3 hX) (fun v2 S2 H locs hp w => ?_)
    have hE := rdC_p (tl := tl) hn91
    replace hp : sI S2 3 0 2 = nI (rdC (hr T tl) tl).1 ∧ frP (uI S 3 0 2 (nI 0)) S2 r ∧ ((v2 = 1 ∧ (rdC (hr T tl) tl).2.1 = true ∧ hsL S2 r (rdC (hr T tl) tl).2.2.1 (rdC (hr T tl) tl).2.2.2.1 (rdC (hr T tl) tl).2.2.2.2) ∨ (v2 = 0 ∧ ¬ (rdC (hr T tl) tl).2.1 = true)) ∧ (rdC (hr T tl) tl).1 ≤ tl := by rw [hE]; exact hp
    exact join_27 _ _ _ _ _ hp.1 ((frP_pl S r (nI 0)).tr hp.2.1) hp.2.2.1 hp.2.2.2 w (lv_sub hl [0, 1] rfl)
  · have h91 := yes_of q1 c_11
    refine lv_aload_n hx hb dX3_parse_14 rfl (lv_at hl 0 rfl) ?_
    refine lv_aload_n hx hb dX3_parse_15 rfl (lv_at hl 1 rfl) ?_
    refine kvI (n := 1) C hk w hl dX3_parse_16 (c_X3_parseBent l G k hX (uI S 3 0 2 (nI 0)) T tl 0 ht h300 (Nat.zero_le _) r hr9 h91) gX3_parse_X3_parseBent rfl (by decide +kernel) rfl rfl (Nat.le_of_ble_eq_true rfl) ⟨by decide, by decide⟩ (by decide) rfl (oP3 hX) (fun v2 S2 H locs hp w => ?_)
    have hE := rdC_b (tl := tl) h91
    replace hp : sI S2 3 0 2 = nI (rdC (hr T tl) tl).1 ∧ frP (uI S 3 0 2 (nI 0)) S2 r ∧ ((v2 = 1 ∧ (rdC (hr T tl) tl).2.1 = true ∧ hsL S2 r (rdC (hr T tl) tl).2.2.1 (rdC (hr T tl) tl).2.2.2.1 (rdC (hr T tl) tl).2.2.2.2) ∨ (v2 = 0 ∧ ¬ (rdC (hr T tl) tl).2.1 = true)) ∧ (rdC (hr T tl) tl).1 ≤ tl := by rw [hE]; exact hp
    refine lv_goto (tgt := 27) hx hb dX3_parse_19 (by decide) ?_
    exact join_27 _ _ _ _ _ hp.1 ((frP_pl S r (nI 0)).tr hp.2.1) hp.2.2.1 hp.2.2.2 w (lv_sub hl [0, 1] rfl)

theorem frP.N {S S4 : PS} {n : Nat} {q : Int32} (h : frP S S4 n) (hq : sI S4 3 0 2 = q) : eqN (uI (uI S 3 0 1 0) 3 0 2 q) (uI S4 3 0 1 0) n := by
  refine ⟨h.1, fun c r k z => ?_, fun c r k z y => h.2.2 c r k y⟩
  rw [sI_uI, sI_uI]
  by_cases z1 : c = 3 ∧ r = 0 ∧ k = 1
  · rw [if_pos z1, if_neg (fun x => by omega), sI_uI, if_pos z1]
  · rw [if_neg z1]
    by_cases z2 : c = 3 ∧ r = 0 ∧ k = 2
    · rw [if_pos z2, z2.1, z2.2.1, z2.2.2]; exact hq
    · rw [if_neg z2, sI_uI, if_neg z1]; exact h.2.1 c r k z z2

set_option maxHeartbeats 4000000 in
set_option maxRecDepth 100000 in
/-- read -/
theorem c_X5_read (l : Launch) (G : GT) (k : SK) (hX : okX G) (S : PS) (hS : lkX S) (n : Nat) (hn : sI S 5 0 1 = nI n) (hn60 : n ≤ 60) (T : Nat → Int32) (tl : Nat) (hT : sI S 7 0 = T) (htl : sI S 3 0 1 = nI tl) (h300 : tl ≤ 300) : CkI l G k yX5_read wsX5_read (rmK 8 173) [.ref (gA G 5 0)] S (fun v S2 => spRead n ((rdC (hr T tl) tl).2.1 = true ∧ (rdC (hr T tl) tl).1 = tl) (rdC (hr T tl) tl).1 v (S2 = uI S 3 0 1 0) (∃ x, nw (uI (uI S 3 0 1 0) 3 0 2 x) S2 n (rdC (hr T tl) tl).2.2.1 (nI (rdC (hr T tl) tl).2.2.2.1) (rdC (hr T tl) tl).2.2.2.2.length (fun k => (rdC (hr T tl) tl).2.2.2.2.getD k 0)) (∃ x, eqN (uI (uI S 3 0 1 0) 3 0 2 x) S2 n)) := by
  refine ofCkN (cc := cX5_read) (nL := 2) .int RX5 (by decide +kernel) rfl rfl (Nat.le_of_ble_eq_true rfl) ?_
  intro p e s m args below meth c A Q ls C hk w hl hret
  have hx := C.1
  have hb := C.2.1
  have hown := C.2.2.2.1
  have hts := C.2.2.2.2.1
  have hi3 : ∀ w ∈ wsX30, w ∈ wsX5_read := by decide +kernel
  have hi5 : ∀ w ∈ wsX50, w ∈ wsX5_read := by decide +kernel
  refine lv_aload_n hx hb dX5_read_0 rfl (lv_at hl 0 rfl) ?_
  refine cvI (n := 0) C w hl dX5_read_1 (c_X5_isFull l G hX S n hn hn60) gX5_read_X5_isFull rfl (by decide +kernel) rfl rfl (Nat.le_of_ble_eq_true rfl) ⟨by decide, by decide⟩ (by decide) rfl (oP5 hX) (fun v8 S8 H locs hp w => ?_)
  obtain ⟨qF, e0⟩ := hp
  rw [e0] at w
  refine lv_if_eq (tgt := 18) hx hb dX5_read_4 (by decide) (fun c_4 => ?_) (fun c_4 => ?_)
  · have hnf := no_of qF c_4
    refine lv_aload_n hx hb dX5_read_18 rfl (lv_at hl 0 rfl) ?_
    refine pgQ 5 2 3 (by decide) rfl (by decide) rfl rfl C w hi5 (by decide +kernel) dX5_read_19 (oP5 hX) (hS.2.2.2.1) ?_
    refine lv_aload_n hx hb dX5_read_22 rfl (lv_at hl 0 rfl) ?_
    refine pgQ 5 0 10 (by decide) rfl (by decide) rfl rfl C w hi5 (by decide +kernel) dX5_read_23 (oP5 hX) hS.2.2.1 ?_
    refine lv_aload_n hx hb dX5_read_26 rfl (lv_at hl 0 rfl) ?_
    refine pgI 5 1 (by decide) rfl (by decide) (Or.inl rfl) rfl C w hi5 (by decide +kernel) dX5_read_27 (oP5 hX) (v := nI n) hn ?_
    refine paQ C w dX5_read_30 (oP10 hX (by decide)) rfl (oN100 hX) (by omega) (by decide) (r1 := n) (lk10 hS (by omega)) ?_
    refine kvI (n := 1) C hk w hl dX5_read_31 (c_X3_parse l G k hX S hS T tl hT htl h300 n (by omega)) gX5_read_X3_parse rfl (by decide +kernel) rfl rfl (Nat.le_of_ble_eq_true rfl) ⟨by decide, by decide⟩ (by decide) rfl (oP3 hX) (fun v2 S4 H locs hp w => ?_)
    obtain ⟨hp1, hp2, hp3⟩ := hp
    have hN := hp2.N hp1
    refine lv_istore_n hx hb dX5_read_34 rfl hl (by decide) rfl (fun ls hl => ?_)
    refine lv_aload_n hx hb dX5_read_35 rfl (lv_at hl 1 rfl) ?_
    refine pgQ 5 2 3 (by decide) rfl (by decide) rfl rfl C w hi5 (by decide +kernel) dX5_read_36 (oP5 hX) (by rw [hp2.1]; exact hS.2.2.2.1) ?_
    refine lv_iconst (v := 0) hx hb dX5_read_39 (by decide) ?_
    refine ppI 3 1 (by decide) rfl (by decide) rfl rfl tyX3_ok nmX3 rfl (by decide +kernel) C w hi3 (by decide +kernel) dX5_read_40 (oP3 hX) (fun H locs w => ?_)
    refine lv_iload_n hx hb dX5_read_43 rfl (lv_at hl 0 rfl) ?_
    refine lv_if_eq (tgt := 54) hx hb dX5_read_44 (by decide) (fun c_44 => ?_) (fun c_44 => ?_)
    · have hno := (hp3.elim (fun y => absurd (y.1.symm.trans c_44) (by decide)) (fun y => y.2) : ¬ ((rdC (hr T tl) tl).2.1 = true ∧ (rdC (hr T tl) tl).1 = tl))
      refine lv_bipush (v := (-100)) hx hb dX5_read_54 (by decide) ?_
      refine lv_aload_n hx hb dX5_read_56 rfl (lv_at hl 1 rfl) ?_
      refine pgQ 5 2 3 (by decide) rfl (by decide) rfl rfl C w hi5 (by decide +kernel) dX5_read_57 (oP5 hX) (by show sQ S4 5 0 2 = _; rw [hp2.1]; exact hS.2.2.2.1) ?_
      refine pgI 3 2 (by decide) rfl (by decide) (Or.inl rfl) rfl C w hi3 (by decide +kernel) dX5_read_60 (oP3 hX) (v := nI (rdC (hr T tl) tl).1) (by rw [sI_uI, if_neg (by simp)]; exact hp1) ?_
      refine lv_isub hx hb dX5_read_63 ?_
      exact hret _ _ _ _ _ _ dX5_read_64 w rfl (by unfold spRead; rw [if_neg hnf]; first | exact Or.inr ⟨hno, rfl, _, hN⟩ | exact Or.inl ⟨hye.1, e5, _, hnw⟩)
    · have hye := (hp3.elim (fun y => y.2) (fun y => absurd y.1 c_44) : ((rdC (hr T tl) tl).2.1 = true ∧ (rdC (hr T tl) tl).1 = tl) ∧ hsL S4 n (rdC (hr T tl) tl).2.2.1 (rdC (hr T tl) tl).2.2.2.1 (rdC (hr T tl) tl).2.2.2.2)
      refine lv_aload_n hx hb dX5_read_47 rfl (lv_at hl 1 rfl) ?_
      refine cvI (n := 0) C w hl dX5_read_48 (c_X5_takeNumber l G hX (uI S4 3 0 1 0) n (by rw [hN.2.1 5 0 1 (by simp), sI_uI, if_neg (by simp), sI_uI, if_neg (by simp)]; exact hn) hn60) gX5_read_X5_takeNumber rfl (by decide +kernel) rfl rfl (Nat.le_of_ble_eq_true rfl) ⟨by decide, by decide⟩ (by decide) rfl (oP5 hX) (fun v5 S5 H locs hp w => ?_)
      obtain ⟨e5, e6⟩ := hp
      rw [e6] at w
      have hnw := nw_of (a := (rdC (hr T tl) tl).2.2.1) (b := nI (rdC (hr T tl) tl).2.2.2.1) (z := (rdC (hr T tl) tl).2.2.2.2.length) (g := fun k => (rdC (hr T tl) tl).2.2.2.2.getD k 0) hN (by rw [sI_uI, if_neg (by simp), sI_uI, if_neg (by simp)]; exact hn) (by rw [sI_uI, if_neg (by simp)]; exact hye.2.1) (by rw [sI_uI, if_neg (by simp)]; exact hye.2.2.1) (by rw [sI_uI, if_neg (by simp)]; exact hye.2.2.2.1) hye.2.2.2.2
      refine lv_goto (tgt := 64) hx hb dX5_read_51 (by decide) ?_
      exact hret _ _ _ _ _ _ dX5_read_64 w rfl (by unfold spRead; rw [if_neg hnf]; first | exact Or.inr ⟨hno, rfl, _, hN⟩ | exact Or.inl ⟨hye.1, e5, _, hnw⟩)
  · have hf := yes_of qF c_4
    refine lv_aload_n hx hb dX5_read_7 rfl (lv_at hl 0 rfl) ?_
    refine pgQ 5 2 3 (by decide) rfl (by decide) rfl rfl C w hi5 (by decide +kernel) dX5_read_8 (oP5 hX) (hS.2.2.2.1) ?_
    refine lv_iconst (v := 0) hx hb dX5_read_11 (by decide) ?_
    refine ppI 3 1 (by decide) rfl (by decide) rfl rfl tyX3_ok nmX3 rfl (by decide +kernel) C w hi3 (by decide +kernel) dX5_read_12 (oP3 hX) (fun H locs w => ?_)
    refine lv_bipush (v := (-4)) hx hb dX5_read_15 (by decide) ?_
    exact hret _ _ _ _ _ _ dX5_read_17 w rfl (by unfold spRead; rw [if_pos hf]; exact ⟨rfl, rfl⟩)
