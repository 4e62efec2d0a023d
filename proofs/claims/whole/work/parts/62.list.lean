set_option maxHeartbeats 4000000 in
set_option maxRecDepth 100000 in
/-- parseList -/
theorem c_X3_parseList (l : Launch) (G : GT) (hX : okX G) (S : PS) (T : Nat → Int32) (tl q0 : Nat) (ht : tpX S T tl q0) (h300 : tl ≤ 300) (hq0 : q0 ≤ tl) (r a : Nat) (hr9 : r < 79) (ha6 : a ≤ 6) : CtI l G yX3_parseList wsX3_parseList (rmK 2 51) [.ref (gA G 3 0), .ref (gA G 2 r), .int (nI a)] S (fun v S2 => pcP S S2 r a (rowC (hr T tl) tl q0).1 ∧ ((v = -1 ∧ ¬ (rowC (hr T tl) tl q0).2.1 = true) ∨ (v = nI (rowC (hr T tl) tl q0).2.2.length ∧ (rowC (hr T tl) tl q0).2.1 = true ∧ (rowC (hr T tl) tl q0).2.2.length ≤ 6 ∧ ∀ k, k < (rowC (hr T tl) tl q0).2.2.length → sJ S2 9 r (a + k) = (rowC (hr T tl) tl q0).2.2.getD k 0)) ∧ (rowC (hr T tl) tl q0).1 ≤ tl) := by
  refine ofCtI (cc := cX3_parseList) (nL := 5) RX3 (by decide +kernel) rfl rfl (Nat.le_of_ble_eq_true rfl) ?_
  intro p e s m args below meth c A Q ls C w hl hret
  have hx := C.1
  have hb := C.2.1
  have hown := C.2.2.2.1
  have hts := C.2.2.2.2.1
  have hi3 : ∀ w ∈ wsX30, w ∈ wsX3_parseList := by decide +kernel
  
  refine lv_iconst (v := 0) hx hb dX3_parseList_0 (by decide) ?_
  refine lv_istore_n hx hb dX3_parseList_1 rfl hl (by decide) rfl (fun ls hl => ?_)
  have join_16 : ∀ (mo : Int32) (H : Heap) (locs : List Loc) (ls : Array Slot), ((mo = 1 ∧ 0 < 6 ∧ (rowC (hr T tl) tl q0) = ((lsC (hr T tl) tl 6 q0).1, (lsC (hr T tl) tl 6 q0).2.1, [] ++ (lsC (hr T tl) tl 6 q0).2.2)) ∨ (mo = 0 ∧ (rowC (hr T tl) tl q0) = (q0, true, []))) → Wd G A s.heap S H locs → lv_has ls 5 [(0, .ref (gA G 3 0)), (1, .ref (gA G 2 r)), (2, .int (nI a)), (3, .int (nI 0))] → W p l e (rmK 2 51) s m args below meth c H locs 0 0 Q (F0 m 16 ls [.int mo]) := by
    intro mo H locs ls hR0 w hl
    refine lv_istore hx hb dX3_parseList_16 hl (by decide) rfl (fun ls hl => ?_)
    have loop_18 : ∀ (n : Nat) (f q : Nat) (mo : Int32) (L0 : List Int64) (S2 : PS) (H : Heap) (locs : List Loc) (ls : Array Slot), (f + n = 6) → (L0.length = f) → (q ≤ tl) → (pcP S S2 r a q) → (∀ k, k < f → sJ S2 9 r (a + k) = L0.getD k 0) → ((mo = 1 ∧ 0 < n ∧ (rowC (hr T tl) tl q0) = ((lsC (hr T tl) tl n q).1, (lsC (hr T tl) tl n q).2.1, L0 ++ (lsC (hr T tl) tl n q).2.2)) ∨ (mo = 0 ∧ (rowC (hr T tl) tl q0) = (q, true, L0))) → Wd G A s.heap S2 H locs → lv_has ls 5 [(0, .ref (gA G 3 0)), (1, .ref (gA G 2 r)), (2, .int (nI a)), (3, .int (nI f)), (4, .int mo)] → W p l e (rmK 2 51) s m args below meth c H locs 0 0 Q (F0 m 18 ls []) := by
      intro n
      induction n with
      | zero =>
        intro f q mo L0 S2 H locs ls hf hL hq hpc hlv hR w hl
        refine lv_iload hx hb dX3_parseList_18 (lv_at hl 4 rfl) ?_
        refine lv_if_eq (tgt := 85) hx hb dX3_parseList_20 (by decide) (fun c_20 => ?_) (fun c_20 => absurd (hR.elim (fun x => absurd x.2.1 (by omega)) (fun x => x.1)) c_20)
        have hE := (hR.elim (fun x => absurd x.2.1 (by omega)) (fun x => x.2) : (rowC (hr T tl) tl q0) = (q, true, L0))
        refine lv_iload_n hx hb dX3_parseList_85 rfl (lv_at hl 3 rfl) ?_
        exact hret _ _ _ _ _ _ dX3_parseList_86 w (by rw [hE]; exact ⟨hpc, Or.inr ⟨by rw [hL], rfl, by show L0.length ≤ 6; omega, fun k hk => hlv k (by have : k < L0.length := hk; omega)⟩, hq⟩)
      | succ n ih =>
        intro f q mo L0 S2 H locs ls hf hL hq hpc hlv hR w hl
        refine lv_iload hx hb dX3_parseList_18 (lv_at hl 4 rfl) ?_
        refine lv_if_eq (tgt := 85) hx hb dX3_parseList_20 (by decide) (fun c_20 => ?_) (fun c_20 => ?_)
        · have hE : (rowC (hr T tl) tl q0) = (q, true, L0) := hR.elim (fun x => absurd (x.1.symm.trans c_20) (by decide)) (fun x => x.2)
          refine lv_iload_n hx hb dX3_parseList_85 rfl (lv_at hl 3 rfl) ?_
          exact hret _ _ _ _ _ _ dX3_parseList_86 w (by rw [hE]; exact ⟨hpc, Or.inr ⟨by rw [hL], rfl, by show L0.length ≤ 6; omega, fun k hk => hlv k (by have : k < L0.length := hk; omega)⟩, hq⟩)
        · have hE2 := (hR.elim (fun x => x.2.2) (fun x => absurd x.1 c_20) : (rowC (hr T tl) tl q0) = ((lsC (hr T tl) tl (n + 1) q).1, (lsC (hr T tl) tl (n + 1) q).2.1, L0 ++ (lsC (hr T tl) tl (n + 1) q).2.2))
          rw [lsC_s] at hE2
          refine lv_iload_n hx hb dX3_parseList_23 rfl (lv_at hl 3 rfl) ?_
          refine lv_bipush (v := 6) hx hb dX3_parseList_24 (by decide) ?_
          refine lv_icmp_ge (tgt := 85) hx hb dX3_parseList_26 (by decide) (fun c_26 => absurd c_26 (nI_ge (b := 6) (by omega) (by omega))) (fun c_26 => ?_)
          refine lv_aload_n hx hb dX3_parseList_29 rfl (lv_at hl 0 rfl) ?_
          refine lv_aload_n hx hb dX3_parseList_30 rfl (lv_at hl 1 rfl) ?_
          refine lv_iload_n hx hb dX3_parseList_31 rfl (lv_at hl 2 rfl) ?_
          refine lv_iload_n hx hb dX3_parseList_32 rfl (lv_at hl 3 rfl) ?_
          refine lv_iadd hx hb dX3_parseList_33 ?_
          rw [nI_add]
          refine cvI (n := 2) C w hl dX3_parseList_34 (c_X3_parseNumber l G hX S2 T tl q (hpc.tp ht) h300 hq r (a + f) hr9 (by omega)) gX3_parseList_X3_parseNumber rfl (by decide +kernel) rfl rfl (Nat.le_of_ble_eq_true rfl) ⟨by decide, by decide⟩ (by decide) rfl (oP3 hX) (fun v3 S3 H locs hp w => ?_)
          have hnl := num_le (T := T) hq
          refine lv_if_ne (tgt := 42) hx hb dX3_parseList_37 (by decide) (fun c_37 => ?_) (fun c_37 => ?_)
          · have hnz : ¬ (num (hr T tl) tl q).2.2 = 0 := fun x => by rw [if_pos x] at hp; exact absurd hp.1 c_37
            rw [if_neg hnz] at hp hE2
            have hS3 := hp.2
            have hpc3 : pcP S S3 r a (num (hr T tl) tl q).1 := by rw [hS3]; exact hpc.nm _ _ (by omega) _
            have hlv3 : ∀ k, k < f + 1 → sJ S3 9 r (a + k) = (L0 ++ [(nV (hr T tl) tl q)]).getD k 0 := by
              intro k hk
              rw [hS3, sJ_uJ]
              by_cases z : k = f
              · rw [if_pos ⟨rfl, rfl, by omega⟩, z, ← hL, getD_last]
              · rw [if_neg (fun y => z (by omega)), getD_snoc (by omega)]; exact hlv k (by omega)
            refine lv_iinc (v := nI (f + 1)) hx hb dX3_parseList_42 hl (k := 3) rfl (nI_1 f) (by decide) rfl (fun ls hl => ?_)
            
            have join_65 : ∀ (mo2 : Int32) (H : Heap) (locs : List Loc) (ls : Array Slot), ((mo2 = 1 ∧ 0 < n ∧ hr T tl (num (hr T tl) tl q).1 = 47) ∨ (mo2 = 0 ∧ ¬ (0 < n ∧ hr T tl (num (hr T tl) tl q).1 = 47))) → Wd G A s.heap S3 H locs → lv_has ls 5 [(0, .ref (gA G 3 0)), (1, .ref (gA G 2 r)), (2, .int (nI a)), (3, .int (nI (f + 1)))] → W p l e (rmK 2 51) s m args below meth c H locs 0 0 Q (F0 m 65 ls [.int mo2]) := by
              intro mo2 H locs ls hmo w hl
              refine lv_istore hx hb dX3_parseList_65 hl (by decide) rfl (fun ls hl => ?_)
              refine lv_iload hx hb dX3_parseList_67 (lv_at hl 0 rfl) ?_
              refine lv_if_eq (tgt := 18) hx hb dX3_parseList_69 (by decide) (fun c_69 => ?_) (fun c_69 => ?_)
              · have hno := (hmo.elim (fun x => absurd (x.1.symm.trans c_69) (by decide)) (fun x => x.2) : ¬ (0 < n ∧ hr T tl (num (hr T tl) tl q).1 = 47))
                rw [if_neg hno] at hE2
                have hqn := hnl.1
                have hpcn := hpc3
                have hlvn := hlv3
                have hRn : (mo2 = 1 ∧ 0 < n ∧ (rowC (hr T tl) tl q0) = ((lsC (hr T tl) tl n (num (hr T tl) tl q).1).1, (lsC (hr T tl) tl n (num (hr T tl) tl q).1).2.1, (L0 ++ [(nV (hr T tl) tl q)]) ++ (lsC (hr T tl) tl n (num (hr T tl) tl q).1).2.2)) ∨ (mo2 = 0 ∧ (rowC (hr T tl) tl q0) = ((num (hr T tl) tl q).1, true, (L0 ++ [(nV (hr T tl) tl q)]))) := Or.inr ⟨c_69, hE2⟩
                exact ih (f + 1) _ mo2 (L0 ++ [(nV (hr T tl) tl q)]) _ _ _ _ (by omega) (by rw [List.length_append, hL]; rfl) hqn hpcn hlvn hRn w (lv_sub hl [1, 2, 3, 4, 0] rfl)
              · have hye := (hmo.elim (fun x => x) (fun x => absurd x.1 c_69) : mo2 = 1 ∧ 0 < n ∧ hr T tl (num (hr T tl) tl q).1 = 47)
                rw [if_pos hye.2] at hE2
                have hqn : (num (hr T tl) tl q).1 + 1 ≤ tl := by
                  apply Classical.byContradiction
                  intro x
                  have := hye.2.2
                  rw [hr_end (by omega)] at this
                  exact absurd this (by decide)
                have hpcn := hpc3.pl ((num (hr T tl) tl q).1 + 1)
                have hlvn := hlv3
                have hRn : (mo2 = 1 ∧ 0 < n ∧ (rowC (hr T tl) tl q0) = ((lsC (hr T tl) tl n ((num (hr T tl) tl q).1 + 1)).1, (lsC (hr T tl) tl n ((num (hr T tl) tl q).1 + 1)).2.1, (L0 ++ [(nV (hr T tl) tl q)]) ++ (lsC (hr T tl) tl n ((num (hr T tl) tl q).1 + 1)).2.2)) ∨ (mo2 = 0 ∧ (rowC (hr T tl) tl q0) = (((num (hr T tl) tl q).1 + 1), true, (L0 ++ [(nV (hr T tl) tl q)]))) := Or.inl ⟨hye.1, hye.2.1, by rw [List.append_assoc]; exact hE2⟩
                refine lv_aload_n hx hb dX3_parseList_72 rfl (lv_at hl 1 rfl) ?_
                refine lv_dup hx hb dX3_parseList_73 rfl ?_
                refine pgI 3 2 (by decide) rfl (by decide) (Or.inl rfl) rfl C w hi3 (by decide +kernel) dX3_parseList_74 (oP3 hX) (v := nI (num (hr T tl) tl q).1) (hpc3.tp ht).2.2.2 ?_
                refine lv_iconst (v := 1) hx hb dX3_parseList_77 (by decide) ?_
                refine lv_iadd hx hb dX3_parseList_78 ?_
                refine ppI 3 2 (by decide) rfl (by decide) rfl rfl tyX3_ok nmX3 rfl (by decide +kernel) C w hi3 (by decide +kernel) dX3_parseList_79 (oP3 hX) (fun H locs w => ?_)
                rw [nI_1] at w
                refine lv_goto (tgt := 18) hx hb dX3_parseList_82 (by decide) ?_
                exact ih (f + 1) _ mo2 (L0 ++ [(nV (hr T tl) tl q)]) _ _ _ _ (by omega) (by rw [List.length_append, hL]; rfl) hqn hpcn hlvn hRn w (lv_sub hl [1, 2, 3, 4, 0] rfl)
            refine lv_iload_n hx hb dX3_parseList_45 rfl (lv_at hl 0 rfl) ?_
            refine lv_bipush (v := 6) hx hb dX3_parseList_46 (by decide) ?_
            refine lv_icmp_ge (tgt := 64) hx hb dX3_parseList_48 (by decide) (fun c_48 => ?_) (fun c_48 => ?_)
            · have hm1 : ((0 : Int32) = 1 ∧ 0 < n ∧ hr T tl (num (hr T tl) tl q).1 = 47) ∨ ((0 : Int32) = 0 ∧ ¬ (0 < n ∧ hr T tl (num (hr T tl) tl q).1 = 47)) := Or.inr ⟨rfl, fun x => by have := (nI_leI (a := 6) (b := f + 1) (by omega) (by omega)).mp c_48; omega⟩
              refine lv_iconst (v := 0) hx hb dX3_parseList_64 (by decide) ?_
              exact join_65 _ _ _ _ hm1 w (lv_sub hl [1, 2, 3, 0] rfl)
            · have hn1 : 0 < n := by have := mt (nI_leI (a := 6) (b := f + 1) (by omega) (by omega)).mpr c_48; omega
              refine lv_aload_n hx hb dX3_parseList_51 rfl (lv_at hl 1 rfl) ?_
              refine lv_bipush (v := 47) hx hb dX3_parseList_52 (by decide) ?_
              refine cvI (n := 1) C w hl dX3_parseList_54 (c_X3_isNext l G hX S3 T tl (num (hr T tl) tl q).1 (hpc3.tp ht) h300 hnl.1 47 (by decide)) gX3_parseList_X3_isNext rfl (by decide +kernel) rfl rfl (Nat.le_of_ble_eq_true rfl) ⟨by decide, by decide⟩ (by decide) rfl (oP3 hX) (fun v5 S9 H locs hp w => ?_)
              obtain ⟨q5, e0⟩ := hp
              rw [e0] at w
              refine lv_if_eq (tgt := 64) hx hb dX3_parseList_57 (by decide) (fun c_57 => ?_) (fun c_57 => ?_)
              · have hm1 : ((0 : Int32) = 1 ∧ 0 < n ∧ hr T tl (num (hr T tl) tl q).1 = 47) ∨ ((0 : Int32) = 0 ∧ ¬ (0 < n ∧ hr T tl (num (hr T tl) tl q).1 = 47)) := Or.inr ⟨rfl, fun x => no_of q5 c_57 x.2⟩
                refine lv_iconst (v := 0) hx hb dX3_parseList_64 (by decide) ?_
                exact join_65 _ _ _ _ hm1 w (lv_sub hl [1, 2, 3, 0] rfl)
              · have hm1 : ((1 : Int32) = 1 ∧ 0 < n ∧ hr T tl (num (hr T tl) tl q).1 = 47) ∨ ((1 : Int32) = 0 ∧ ¬ (0 < n ∧ hr T tl (num (hr T tl) tl q).1 = 47)) := Or.inl ⟨rfl, hn1, yes_of q5 c_57⟩
                refine lv_iconst (v := 1) hx hb dX3_parseList_60 (by decide) ?_
                refine lv_goto (tgt := 65) hx hb dX3_parseList_61 (by decide) ?_
                exact join_65 _ _ _ _ hm1 w (lv_sub hl [1, 2, 3, 0] rfl)
          · have hz : (num (hr T tl) tl q).2.2 = 0 := Classical.byContradiction fun x => by rw [if_neg x] at hp; rw [hp.1] at c_37; exact absurd c_37 (by decide)
            rw [if_pos hz] at hp hE2
            have hE3 : (rowC (hr T tl) tl q0) = ((num (hr T tl) tl q).1, false, L0 ++ []) := hE2
            refine lv_iconst (v := (-1)) hx hb dX3_parseList_40 (by decide) ?_
            exact hret _ _ _ _ _ _ dX3_parseList_41 w (by rw [hE3, hp.2]; exact ⟨hpc.pl _, Or.inl ⟨rfl, Bool.false_ne_true⟩, hnl.1⟩)
    exact loop_18 6 0 q0 mo [] S _ _ _ (by omega) rfl hq0 (pcP.rf ht.2.2.2) (fun k hk => absurd hk (Nat.not_lt_zero _)) hR0 w (lv_sub hl [1, 2, 3, 4, 0] rfl)
  refine lv_aload_n hx hb dX3_parseList_2 rfl (lv_at hl 1 rfl) ?_
  refine lv_bipush (v := 93) hx hb dX3_parseList_3 (by decide) ?_
  refine cvI (n := 1) C w hl dX3_parseList_5 (c_X3_isNext l G hX S T tl q0 ht h300 hq0 93 (by decide)) gX3_parseList_X3_isNext rfl (by decide +kernel) rfl rfl (Nat.le_of_ble_eq_true rfl) ⟨by decide, by decide⟩ (by decide) rfl (oP3 hX) (fun v1 S9 H locs hp w => ?_)
  obtain ⟨q1, e0⟩ := hp
  rw [e0] at w
  refine lv_if_ne (tgt := 15) hx hb dX3_parseList_8 (by decide) (fun c_8 => ?_) (fun c_8 => ?_)
  · have hb3 := yes_of q1 c_8
    have hR1 : ((0 : Int32) = 1 ∧ 0 < 6 ∧ (rowC (hr T tl) tl q0) = ((lsC (hr T tl) tl 6 q0).1, (lsC (hr T tl) tl 6 q0).2.1, [] ++ (lsC (hr T tl) tl 6 q0).2.2)) ∨ ((0 : Int32) = 0 ∧ (rowC (hr T tl) tl q0) = (q0, true, [])) := Or.inr ⟨rfl, if_pos hb3⟩
    refine lv_iconst (v := 0) hx hb dX3_parseList_15 (by decide) ?_
    exact join_16 _ _ _ _ hR1 w (lv_sub hl [1, 2, 3, 0] rfl)
  · have hb3 := no_of q1 (Classical.byContradiction fun x => absurd c_8 x)
    have hR1 : ((1 : Int32) = 1 ∧ 0 < 6 ∧ (rowC (hr T tl) tl q0) = ((lsC (hr T tl) tl 6 q0).1, (lsC (hr T tl) tl 6 q0).2.1, [] ++ (lsC (hr T tl) tl 6 q0).2.2)) ∨ ((1 : Int32) = 0 ∧ (rowC (hr T tl) tl q0) = (q0, true, [])) := Or.inl ⟨rfl, by decide, if_neg hb3⟩
    refine lv_iconst (v := 1) hx hb dX3_parseList_11 (by decide) ?_
    refine lv_goto (tgt := 16) hx hb dX3_parseList_12 (by decide) ?_
    exact join_16 _ _ _ _ hR1 w (lv_sub hl [1, 2, 3, 0] rfl)
