theorem sumS_z {W : Nat → Int64} {m : Int} {u : Bool} {n : Nat} {v : Int64} (h1 : decide (0 < W n) = u → v = W n) (h2 : ¬ decide (0 < W n) = u → v = 0) : sumS W m u n + v.toInt * m = sumS W m u (n + 1) := by
  rw [show sumS W m u (n + 1) = sumS W m u n + (if decide (0 < W n) = u then (W n).toInt * m else 0) from rfl]
  by_cases h : decide (0 < W n) = u
  · rw [if_pos h, h1 h]
  · rw [if_neg h, h2 h]; simp

set_option maxHeartbeats 4000000 in
set_option maxRecDepth 100000 in
/-- safe -/
theorem c_X6_safe (l : Launch) (G : GT) (hM : okM G) (S : PS) (nr z : Nat) (hpl : plM S nr z) (q : Int32) : CtI l G yX6_safe wsX6_safe (rmK 2 45) [.ref (gA G 6 0), .int q] S (fun v S2 => spSafe (∀ k, k < z → (in64 (sumS (fun x => sJ S 9 1 (12 * x + k)) q.toInt true nr) ∧ in64 (sumS (fun x => sJ S 9 1 (12 * x + k)) q.toInt false nr))) q v (eqH S S2)) := by
  refine ofCtI (cc := cX6_safe) (nL := 8) RX6 (by decide +kernel) rfl rfl (Nat.le_of_ble_eq_true rfl) ?_
  intro p e s m args below meth c A Q ls C w hl hret
  have hx := C.1
  have hb := C.2.1
  have hown := C.2.2.2.1
  have hts := C.2.2.2.2.1
  have hi6 : ∀ w ∈ wsX60, w ∈ wsX6_safe := by decide +kernel
  have hpl0 := hpl
  refine lv_iload_n hx hb dX6_safe_0 rfl (lv_at hl 1 rfl) ?_
  refine lv_i2l hx hb dX6_safe_1 rfl ?_
  refine lv_lconst (v := 0) hx hb dX6_safe_2 (by decide) ?_
  refine lv_ldc2 (v := (1000000)) hx hb hown (hts (.constantLong RX6 211 (1000000)) (by decide +kernel)) dX6_safe_3 ?_
  refine csI (n := 3) C w hl dX6_safe_6 (c_X6_in l G S _ _ _) gX6_safe_X6_in rfl (by decide +kernel) rfl rfl (Nat.le_of_ble_eq_true rfl) ⟨by decide, by decide⟩ (fun v7 S7 H locs hp w => ?_)
  obtain ⟨q2, e0⟩ := hp
  rw [e0] at w
  replace q2 := imp_of (in_c (m := 1000001) rfl) q2
  refine lv_if_ne (tgt := 15) hx hb dX6_safe_9 (by decide) (fun c_9 => ?_) (fun c_9 => ?_)
  · have hq := yes_of q2 c_9
    have hqq : 0 ≤ q.toInt ∧ q.toInt ≤ 1000000 := ⟨hq.1, by have := hq.2; omega⟩
    refine lv_iconst (v := 1) hx hb dX6_safe_15 (by decide) ?_
    refine lv_istore_n hx hb dX6_safe_16 rfl hl (by decide) rfl (fun ls hl => ?_)
    refine lv_iconst (v := 0) hx hb dX6_safe_17 (by decide) ?_
    refine lv_istore_n hx hb dX6_safe_18 rfl hl (by decide) rfl (fun ls hl => ?_)
    have loop_19 : ∀ (n2 : Nat) (k : Nat) (f : Int32) (S1 : PS) (H : Heap) (locs : List Loc) (ls : Array Slot), k + n2 = z → eqH S S1 → ((f = 1 ∧ (∀ j, j < k → (in64 (sumS (fun x => sJ S 9 1 (12 * x + j)) q.toInt true nr) ∧ in64 (sumS (fun x => sJ S 9 1 (12 * x + j)) q.toInt false nr)))) ∨ (f = 0 ∧ ¬ (∀ j, j < k → (in64 (sumS (fun x => sJ S 9 1 (12 * x + j)) q.toInt true nr) ∧ in64 (sumS (fun x => sJ S 9 1 (12 * x + j)) q.toInt false nr))))) → Wd G A s.heap S1 H locs → lv_has ls 8 [(0, .ref (gA G 6 0)), (1, .int q), (2, .int f), (3, .int (nI k))] → W p l e (rmK 2 45) s m args below meth c H locs 0 0 Q (F0 m 19 ls []) := by
      intro n2
      induction n2 with
      | zero =>
        intro k f S1 H locs ls hk hE hf w hl
        have hpl := hpl0.of hE
        have h12 := hpl.n12
        have hz12 := hpl.z12
        refine lv_iload_n hx hb dX6_safe_19 rfl (lv_at hl 3 rfl) ?_
        refine lv_aload_n hx hb dX6_safe_20 rfl (lv_at hl 0 rfl) ?_
        refine pgI 6 7 (by decide) rfl (by decide) (Or.inl rfl) rfl C w hi6 (by decide +kernel) dX6_safe_21 (oM6 hM) (v := nI z) hpl.z ?_
        refine lv_icmp_ge (tgt := 138) hx hb dX6_safe_24 (by decide) (fun c_24 => ?_) (fun c_24 => absurd (nI_le (by omega) (by omega)) c_24)
        refine lv_iload_n hx hb dX6_safe_138 rfl (lv_at hl 2 rfl) ?_
        refine lv_if_eq (tgt := 146) hx hb dX6_safe_139 (by decide) (fun c_139 => ?_) (fun c_139 => ?_)
        · refine lv_iconst (v := 0) hx hb dX6_safe_146 (by decide) ?_
          exact hret _ _ _ _ _ _ dX6_safe_147 w (by rw [show z = k by omega]; unfold spSafe; rw [if_pos hq]; first | exact ⟨Or.inl ⟨rfl, yes_of hf c_139⟩, hE⟩ | exact ⟨Or.inr ⟨rfl, no_of hf c_139⟩, hE⟩)
        · refine lv_iconst (v := 1) hx hb dX6_safe_142 (by decide) ?_
          refine lv_goto (tgt := 147) hx hb dX6_safe_143 (by decide) ?_
          exact hret _ _ _ _ _ _ dX6_safe_147 w (by rw [show z = k by omega]; unfold spSafe; rw [if_pos hq]; first | exact ⟨Or.inl ⟨rfl, yes_of hf c_139⟩, hE⟩ | exact ⟨Or.inr ⟨rfl, no_of hf c_139⟩, hE⟩)
      | succ n2 ih =>
        intro k f S1 H locs ls hk hE hf w hl
        have hpl := hpl0.of hE
        have h12 := hpl.n12
        have hz12 := hpl.z12
        refine lv_iload_n hx hb dX6_safe_19 rfl (lv_at hl 3 rfl) ?_
        refine lv_aload_n hx hb dX6_safe_20 rfl (lv_at hl 0 rfl) ?_
        refine pgI 6 7 (by decide) rfl (by decide) (Or.inl rfl) rfl C w hi6 (by decide +kernel) dX6_safe_21 (oM6 hM) (v := nI z) hpl.z ?_
        refine lv_icmp_ge (tgt := 138) hx hb dX6_safe_24 (by decide) (fun c_24 => absurd c_24 (nI_ge (by omega) (by omega))) (fun c_24 => ?_)
        refine lv_iconst (v := 0) hx hb dX6_safe_27 (by decide) ?_
        refine lv_istore hx hb dX6_safe_28 hl (by decide) rfl (fun ls hl => ?_)
        have loop_30 : ∀ (n3 : Nat) (sd : Nat) (f : Int32) (S2 : PS) (H : Heap) (locs : List Loc) (ls : Array Slot), sd + n3 = 2 → eqH S S2 → ((f = 1 ∧ ((∀ j, j < k → (in64 (sumS (fun x => sJ S 9 1 (12 * x + j)) q.toInt true nr) ∧ in64 (sumS (fun x => sJ S 9 1 (12 * x + j)) q.toInt false nr))) ∧ (1 ≤ sd → in64 (sumS (fun x => sJ S 9 1 (12 * x + k)) q.toInt true nr)) ∧ (2 ≤ sd → in64 (sumS (fun x => sJ S 9 1 (12 * x + k)) q.toInt false nr)))) ∨ (f = 0 ∧ ¬ ((∀ j, j < k → (in64 (sumS (fun x => sJ S 9 1 (12 * x + j)) q.toInt true nr) ∧ in64 (sumS (fun x => sJ S 9 1 (12 * x + j)) q.toInt false nr))) ∧ (1 ≤ sd → in64 (sumS (fun x => sJ S 9 1 (12 * x + k)) q.toInt true nr)) ∧ (2 ≤ sd → in64 (sumS (fun x => sJ S 9 1 (12 * x + k)) q.toInt false nr))))) → Wd G A s.heap S2 H locs → lv_has ls 8 [(0, .ref (gA G 6 0)), (1, .int q), (2, .int f), (3, .int (nI k)), (4, .int (nI sd))] → W p l e (rmK 2 45) s m args below meth c H locs 0 0 Q (F0 m 30 ls []) := by
          intro n3
          induction n3 with
          | zero =>
            intro sd f S2 H locs ls hsd hE hf w hl
            have hpl := hpl0.of hE
            refine lv_iload hx hb dX6_safe_30 (lv_at hl 4 rfl) ?_
            refine lv_iconst (v := 2) hx hb dX6_safe_32 (by decide) ?_
            refine lv_icmp_ge (tgt := 132) hx hb dX6_safe_33 (by decide) (fun c_33 => ?_) (fun c_33 => absurd (nI_le (a := 2) (by omega) (by omega)) c_33)
            have es : sd = 2 := by omega
            subst es
            refine lv_iinc (v := nI (k + 1)) hx hb dX6_safe_132 hl (k := 3) rfl (nI_1 k) (by decide) rfl (fun ls hl => ?_)
            refine lv_goto (tgt := 19) hx hb dX6_safe_135 (by decide) ?_
            exact ih (k + 1) _ _ _ _ _ (by omega) hE (imp_of ⟨fun x => lt_s x.1 ⟨x.2.1 (by decide), x.2.2 (by decide)⟩, fun x => ⟨fun j hj => x j (by omega), fun _ => (x k (by omega)).1, fun _ => (x k (by omega)).2⟩⟩ hf) w (lv_sub hl [1, 2, 3, 0] rfl)
          | succ n3 ih3 =>
            intro sd f S2 H locs ls hsd hE hf w hl
            have hpl := hpl0.of hE
            refine lv_iload hx hb dX6_safe_30 (lv_at hl 4 rfl) ?_
            refine lv_iconst (v := 2) hx hb dX6_safe_32 (by decide) ?_
            refine lv_icmp_ge (tgt := 132) hx hb dX6_safe_33 (by decide) (fun c_33 => absurd c_33 (nI_ge (b := 2) (by omega) (by omega))) (fun c_33 => ?_)
            refine lv_aload_n hx hb dX6_safe_36 rfl (lv_at hl 0 rfl) ?_
            refine cvV (n := 0) C w hl dX6_safe_37 (c_X6_zero l G hM S2) gX6_safe_X6_zero rfl (by decide +kernel) rfl rfl (Nat.le_of_ble_eq_true rfl) ⟨by decide, by decide⟩ (by decide) rfl (oM6 hM) (fun S3 H locs hp w => ?_)
            subst hp
            refine lv_iconst (v := 0) hx hb dX6_safe_40 (by decide) ?_
            refine lv_istore hx hb dX6_safe_41 hl (by decide) rfl (fun ls hl => ?_)
            have loop_43 : ∀ (n4 : Nat) (r : Nat) (H : Heap) (locs : List Loc) (ls : Array Slot), r + n4 = nr → Wd G A s.heap (wm S2 (sumS (fun x => sJ S 9 1 (12 * x + k)) q.toInt (decide (sd = 0)) r)) H locs → lv_has ls 8 [(0, .ref (gA G 6 0)), (1, .int q), (2, .int f), (3, .int (nI k)), (4, .int (nI sd)), (5, .int (nI r))] → W p l e (rmK 2 45) s m args below meth c H locs 0 0 Q (F0 m 43 ls []) := by
              intro n4
              induction n4 with
              | zero =>
                intro r H locs ls hr w hl
                refine lv_iload hx hb dX6_safe_43 (lv_at hl 5 rfl) ?_
                refine lv_aload_n hx hb dX6_safe_45 rfl (lv_at hl 0 rfl) ?_
                refine pgI 6 8 (by decide) rfl (by decide) (Or.inl rfl) rfl C w hi6 (by decide +kernel) dX6_safe_46 (oM6 hM) (v := nI nr) hpl.n ?_
                refine lv_icmp_ge (tgt := 109) hx hb dX6_safe_49 (by decide) (fun c_49 => ?_) (fun c_49 => absurd (nI_le (by omega) (by omega)) c_49)
                have er : r = nr := by omega
                subst er
                refine lv_iload_n hx hb dX6_safe_109 rfl (lv_at hl 2 rfl) ?_
                refine lv_if_eq (tgt := 124) hx hb dX6_safe_110 (by decide) (fun c_110 => ?_) (fun c_110 => ?_)
                · refine lv_iconst (v := 0) hx hb dX6_safe_124 (by decide) ?_
                  refine lv_istore_n hx hb dX6_safe_125 rfl hl (by decide) rfl (fun ls hl => ?_)
                  refine lv_iinc (v := nI (sd + 1)) hx hb dX6_safe_126 hl (k := 4) rfl (nI_1 sd) (by decide) rfl (fun ls hl => ?_)
                  refine lv_goto (tgt := 30) hx hb dX6_safe_129 (by decide) ?_
                  refine ih3 (sd + 1) _ _ _ _ _ (by omega) (hE.tr (eqH_wm _ _)) ?_ w (lv_sub hl [2, 3, 1, 4, 0] rfl)
                  have hs2 : sd = 0 ∨ sd = 1 := by omega
                  rcases hs2 with rfl | rfl
                  · first
                      | exact Or.inr ⟨rfl, fun x => no_of hf c_110 ⟨x.1, fun h => absurd h (by decide), fun h => absurd h (by decide)⟩⟩
                      | exact Or.inr ⟨rfl, fun x => no_of q6 c_117 (x.2.1 (by decide))⟩
                      | exact Or.inl ⟨rfl, (yes_of hf c_110).1, fun _ => yes_of q6 c_117, fun h => absurd h (by decide)⟩
                  · first
                      | exact Or.inr ⟨rfl, fun x => no_of hf c_110 ⟨x.1, fun _ => x.2.1 (by decide), fun h => absurd h (by decide)⟩⟩
                      | exact Or.inr ⟨rfl, fun x => no_of q6 c_117 (x.2.2 (by decide))⟩
                      | exact Or.inl ⟨rfl, (yes_of hf c_110).1, fun _ => (yes_of hf c_110).2.1 (by decide), fun _ => yes_of q6 c_117⟩
                · refine lv_aload_n hx hb dX6_safe_113 rfl (lv_at hl 0 rfl) ?_
                  refine cvI (n := 0) C w hl dX6_safe_114 (c_X6_fits l G hM _ _ (sJ_wm_0 S2 _) (sJ_wm_1 S2 _) (by have := sumS_bd (W := fun x => sJ S 9 1 (12 * x + k)) (u := (decide (sd = 0))) hqq r; omega) (by have := sumS_bd (W := fun x => sJ S 9 1 (12 * x + k)) (u := (decide (sd = 0))) hqq r; omega)) gX6_safe_X6_fits rfl (by decide +kernel) rfl rfl (Nat.le_of_ble_eq_true rfl) ⟨by decide, by decide⟩ (by decide) rfl (oM6 hM) (fun v6 S6 H locs hp w => ?_)
                  obtain ⟨q6, e0⟩ := hp
                  rw [e0] at w
                  refine lv_if_eq (tgt := 124) hx hb dX6_safe_117 (by decide) (fun c_117 => ?_) (fun c_117 => ?_)
                  · refine lv_iconst (v := 0) hx hb dX6_safe_124 (by decide) ?_
                    refine lv_istore_n hx hb dX6_safe_125 rfl hl (by decide) rfl (fun ls hl => ?_)
                    refine lv_iinc (v := nI (sd + 1)) hx hb dX6_safe_126 hl (k := 4) rfl (nI_1 sd) (by decide) rfl (fun ls hl => ?_)
                    refine lv_goto (tgt := 30) hx hb dX6_safe_129 (by decide) ?_
                    refine ih3 (sd + 1) _ _ _ _ _ (by omega) (hE.tr (eqH_wm _ _)) ?_ w (lv_sub hl [2, 3, 1, 4, 0] rfl)
                    have hs2 : sd = 0 ∨ sd = 1 := by omega
                    rcases hs2 with rfl | rfl
                    · first
                        | exact Or.inr ⟨rfl, fun x => no_of hf c_110 ⟨x.1, fun h => absurd h (by decide), fun h => absurd h (by decide)⟩⟩
                        | exact Or.inr ⟨rfl, fun x => no_of q6 c_117 (x.2.1 (by decide))⟩
                        | exact Or.inl ⟨rfl, (yes_of hf c_110).1, fun _ => yes_of q6 c_117, fun h => absurd h (by decide)⟩
                    · first
                        | exact Or.inr ⟨rfl, fun x => no_of hf c_110 ⟨x.1, fun _ => x.2.1 (by decide), fun h => absurd h (by decide)⟩⟩
                        | exact Or.inr ⟨rfl, fun x => no_of q6 c_117 (x.2.2 (by decide))⟩
                        | exact Or.inl ⟨rfl, (yes_of hf c_110).1, fun _ => (yes_of hf c_110).2.1 (by decide), fun _ => yes_of q6 c_117⟩
                  · refine lv_iconst (v := 1) hx hb dX6_safe_120 (by decide) ?_
                    refine lv_goto (tgt := 125) hx hb dX6_safe_121 (by decide) ?_
                    refine lv_istore_n hx hb dX6_safe_125 rfl hl (by decide) rfl (fun ls hl => ?_)
                    refine lv_iinc (v := nI (sd + 1)) hx hb dX6_safe_126 hl (k := 4) rfl (nI_1 sd) (by decide) rfl (fun ls hl => ?_)
                    refine lv_goto (tgt := 30) hx hb dX6_safe_129 (by decide) ?_
                    refine ih3 (sd + 1) _ _ _ _ _ (by omega) (hE.tr (eqH_wm _ _)) ?_ w (lv_sub hl [2, 3, 1, 4, 0] rfl)
                    have hs2 : sd = 0 ∨ sd = 1 := by omega
                    rcases hs2 with rfl | rfl
                    · first
                        | exact Or.inr ⟨rfl, fun x => no_of hf c_110 ⟨x.1, fun h => absurd h (by decide), fun h => absurd h (by decide)⟩⟩
                        | exact Or.inr ⟨rfl, fun x => no_of q6 c_117 (x.2.1 (by decide))⟩
                        | exact Or.inl ⟨rfl, (yes_of hf c_110).1, fun _ => yes_of q6 c_117, fun h => absurd h (by decide)⟩
                    · first
                        | exact Or.inr ⟨rfl, fun x => no_of hf c_110 ⟨x.1, fun _ => x.2.1 (by decide), fun h => absurd h (by decide)⟩⟩
                        | exact Or.inr ⟨rfl, fun x => no_of q6 c_117 (x.2.2 (by decide))⟩
                        | exact Or.inl ⟨rfl, (yes_of hf c_110).1, fun _ => (yes_of hf c_110).2.1 (by decide), fun _ => yes_of q6 c_117⟩
              | succ n4 ih4 =>
                intro r H locs ls hr w hl
                refine lv_iload hx hb dX6_safe_43 (lv_at hl 5 rfl) ?_
                refine lv_aload_n hx hb dX6_safe_45 rfl (lv_at hl 0 rfl) ?_
                refine pgI 6 8 (by decide) rfl (by decide) (Or.inl rfl) rfl C w hi6 (by decide +kernel) dX6_safe_46 (oM6 hM) (v := nI nr) hpl.n ?_
                refine lv_icmp_ge (tgt := 109) hx hb dX6_safe_49 (by decide) (fun c_49 => absurd c_49 (nI_ge (by omega) (by omega))) (fun c_49 => ?_)
                refine lv_aload_n hx hb dX6_safe_52 rfl (lv_at hl 0 rfl) ?_
                refine pgQ 6 9 9 (by decide) rfl (by decide) rfl rfl C w hi6 (by decide +kernel) dX6_safe_53 (oM6 hM) (hpl.lk.2.2.2.2.1) ?_
                refine lv_bipush (v := 12) hx hb dX6_safe_56 (by decide) ?_
                refine lv_iload hx hb dX6_safe_58 (lv_at hl 5 rfl) ?_
                refine lv_imul hx hb dX6_safe_60 ?_
                refine lv_iload_n hx hb dX6_safe_61 rfl (lv_at hl 3 rfl) ?_
                refine lv_iadd hx hb dX6_safe_62 ?_
                refine paJ C w dX6_safe_63 (oM9 hM (by decide)) (n := 12 * r + k) (ix12 _ _) (nM91 hM) (by omega) (by decide) (v := sJ S 9 1 (12 * r + k)) (by rw [sJ_wm_n (by decide)]; exact hE.j9 _ _) ?_
                refine lv_lstore hx hb dX6_safe_64 hl (by decide) rfl (fun ls hl => ?_)
                have join_98 : ∀ (v : Int64) (H : Heap) (locs : List Loc) (ls : Array Slot), (decide (0 < sJ S 9 1 (12 * r + k)) = (decide (sd = 0)) → v = sJ S 9 1 (12 * r + k)) → (¬ decide (0 < sJ S 9 1 (12 * r + k)) = (decide (sd = 0)) → v = 0) → Wd G A s.heap (wm S2 (sumS (fun x => sJ S 9 1 (12 * x + k)) q.toInt (decide (sd = 0)) r)) H locs → lv_has ls 8 [(0, .ref (gA G 6 0)), (1, .int q), (2, .int f), (3, .int (nI k)), (4, .int (nI sd)), (5, .int (nI r)), (6, .long (sJ S 9 1 (12 * r + k)))] → W p l e (rmK 2 45) s m args below meth c H locs 0 0 Q (F0 m 98 ls [.long v, .ref (gA G 6 0)]) := by
                  intro v H locs ls hv1 hv2 w hl
                  refine lv_iload_n hx hb dX6_safe_98 rfl (lv_at hl 1 rfl) ?_
                  refine lv_i2l hx hb dX6_safe_99 rfl ?_
                  refine cvV (n := 2) C w hl dX6_safe_100 (c_X6_add l G hM (wm S2 (sumS (fun x => sJ S 9 1 (12 * x + k)) q.toInt (decide (sd = 0)) r)) _ (sJ_wm_0 S2 _) (sJ_wm_1 S2 _) _ _ (add_bd _ _ hqq) (c_bd hqq)) gX6_safe_X6_add rfl (by decide +kernel) rfl rfl (Nat.le_of_ble_eq_true rfl) ⟨by decide, by decide⟩ (by decide) rfl (oM6 hM) (fun S3 H locs hp w => ?_)
                  rw [wm_wm, Int32.toInt_toInt64] at hp
                  subst hp
                  refine lv_iinc (v := nI (r + 1)) hx hb dX6_safe_103 hl (k := 5) rfl (nI_1 r) (by decide) rfl (fun ls hl => ?_)
                  refine lv_goto (tgt := 43) hx hb dX6_safe_106 (by decide) ?_
                  rw [sumS_z (W := fun x => sJ S 9 1 (12 * x + k)) (n := r) hv1 hv2] at w
                  exact ih4 (r + 1) _ _ _ (by omega) w (lv_sub hl [1, 2, 3, 4, 5, 0] rfl)
                refine lv_aload_n hx hb dX6_safe_66 rfl (lv_at hl 1 rfl) ?_
                refine lv_iload hx hb dX6_safe_67 (lv_at hl 5 rfl) ?_
                refine lv_if_ne (tgt := 76) hx hb dX6_safe_69 (by decide) (fun c_69 => ?_) (fun c_69 => ?_)
                · have hs8 : decide (sd = 0) = false := decide_eq_false (fun x => c_69 (by rw [x]; rfl))
                  refine lv_iconst (v := 0) hx hb dX6_safe_76 (by decide) ?_
                  refine lv_lload hx hb dX6_safe_77 (lv_at hl 0 rfl) ?_
                  refine lv_lconst (v := 0) hx hb dX6_safe_79 (by decide) ?_
                  refine W.lcmp hx hb dX6_safe_80 ?_
                  refine lv_if_le (tgt := 88) hx hb dX6_safe_81 (by decide) (fun c_81 => ?_) (fun c_81 => ?_)
                  · rw [lg_cmp_le] at c_81
                    have hw8 : decide (0 < sJ S 9 1 (12 * r + k)) = false := decide_eq_false (Int64.not_lt.mpr c_81)
                    refine lv_iconst (v := 0) hx hb dX6_safe_88 (by decide) ?_
                    refine lv_icmp_ne (tgt := 97) hx hb dX6_safe_89 (by decide) (fun c_89 => ?_) (fun c_89 => ?_)
                    · refine lv_lconst (v := 0) hx hb dX6_safe_97 (by decide) ?_
                      exact join_98 _ _ _ _ (fun h => by first | rfl | exact absurd rfl c_89 | exact absurd (hw8.symm.trans (h.trans hs8)) (by decide)) (fun h => by first | rfl | exact absurd c_89 (by decide) | exact absurd (hw8.trans hs8.symm) h) w (lv_sub hl [1, 2, 3, 4, 5, 6, 0] rfl)
                    · refine lv_lload hx hb dX6_safe_92 (lv_at hl 0 rfl) ?_
                      refine lv_goto (tgt := 98) hx hb dX6_safe_94 (by decide) ?_
                      exact join_98 _ _ _ _ (fun h => by first | rfl | exact absurd rfl c_89 | exact absurd (hw8.symm.trans (h.trans hs8)) (by decide)) (fun h => by first | rfl | exact absurd c_89 (by decide) | exact absurd (hw8.trans hs8.symm) h) w (lv_sub hl [1, 2, 3, 4, 5, 6, 0] rfl)
                  · rw [lg_cmp_le] at c_81
                    have hw8 : decide (0 < sJ S 9 1 (12 * r + k)) = true := decide_eq_true (Int64.not_le.mp c_81)
                    refine lv_iconst (v := 1) hx hb dX6_safe_84 (by decide) ?_
                    refine lv_goto (tgt := 89) hx hb dX6_safe_85 (by decide) ?_
                    refine lv_icmp_ne (tgt := 97) hx hb dX6_safe_89 (by decide) (fun c_89 => ?_) (fun c_89 => ?_)
                    · refine lv_lconst (v := 0) hx hb dX6_safe_97 (by decide) ?_
                      exact join_98 _ _ _ _ (fun h => by first | rfl | exact absurd rfl c_89 | exact absurd (hw8.symm.trans (h.trans hs8)) (by decide)) (fun h => by first | rfl | exact absurd c_89 (by decide) | exact absurd (hw8.trans hs8.symm) h) w (lv_sub hl [1, 2, 3, 4, 5, 6, 0] rfl)
                    · refine lv_lload hx hb dX6_safe_92 (lv_at hl 0 rfl) ?_
                      refine lv_goto (tgt := 98) hx hb dX6_safe_94 (by decide) ?_
                      exact join_98 _ _ _ _ (fun h => by first | rfl | exact absurd rfl c_89 | exact absurd (hw8.symm.trans (h.trans hs8)) (by decide)) (fun h => by first | rfl | exact absurd c_89 (by decide) | exact absurd (hw8.trans hs8.symm) h) w (lv_sub hl [1, 2, 3, 4, 5, 6, 0] rfl)
                · have hs8 : decide (sd = 0) = true := decide_eq_true (by have := (nI_eq (a := sd) (b := 0) (by omega) (by decide)).mp c_69; omega)
                  refine lv_iconst (v := 1) hx hb dX6_safe_72 (by decide) ?_
                  refine lv_goto (tgt := 77) hx hb dX6_safe_73 (by decide) ?_
                  refine lv_lload hx hb dX6_safe_77 (lv_at hl 0 rfl) ?_
                  refine lv_lconst (v := 0) hx hb dX6_safe_79 (by decide) ?_
                  refine W.lcmp hx hb dX6_safe_80 ?_
                  refine lv_if_le (tgt := 88) hx hb dX6_safe_81 (by decide) (fun c_81 => ?_) (fun c_81 => ?_)
                  · rw [lg_cmp_le] at c_81
                    have hw8 : decide (0 < sJ S 9 1 (12 * r + k)) = false := decide_eq_false (Int64.not_lt.mpr c_81)
                    refine lv_iconst (v := 0) hx hb dX6_safe_88 (by decide) ?_
                    refine lv_icmp_ne (tgt := 97) hx hb dX6_safe_89 (by decide) (fun c_89 => ?_) (fun c_89 => ?_)
                    · refine lv_lconst (v := 0) hx hb dX6_safe_97 (by decide) ?_
                      exact join_98 _ _ _ _ (fun h => by first | rfl | exact absurd rfl c_89 | exact absurd (hw8.symm.trans (h.trans hs8)) (by decide)) (fun h => by first | rfl | exact absurd c_89 (by decide) | exact absurd (hw8.trans hs8.symm) h) w (lv_sub hl [1, 2, 3, 4, 5, 6, 0] rfl)
                    · refine lv_lload hx hb dX6_safe_92 (lv_at hl 0 rfl) ?_
                      refine lv_goto (tgt := 98) hx hb dX6_safe_94 (by decide) ?_
                      exact join_98 _ _ _ _ (fun h => by first | rfl | exact absurd rfl c_89 | exact absurd (hw8.symm.trans (h.trans hs8)) (by decide)) (fun h => by first | rfl | exact absurd c_89 (by decide) | exact absurd (hw8.trans hs8.symm) h) w (lv_sub hl [1, 2, 3, 4, 5, 6, 0] rfl)
                  · rw [lg_cmp_le] at c_81
                    have hw8 : decide (0 < sJ S 9 1 (12 * r + k)) = true := decide_eq_true (Int64.not_le.mp c_81)
                    refine lv_iconst (v := 1) hx hb dX6_safe_84 (by decide) ?_
                    refine lv_goto (tgt := 89) hx hb dX6_safe_85 (by decide) ?_
                    refine lv_icmp_ne (tgt := 97) hx hb dX6_safe_89 (by decide) (fun c_89 => ?_) (fun c_89 => ?_)
                    · refine lv_lconst (v := 0) hx hb dX6_safe_97 (by decide) ?_
                      exact join_98 _ _ _ _ (fun h => by first | rfl | exact absurd rfl c_89 | exact absurd (hw8.symm.trans (h.trans hs8)) (by decide)) (fun h => by first | rfl | exact absurd c_89 (by decide) | exact absurd (hw8.trans hs8.symm) h) w (lv_sub hl [1, 2, 3, 4, 5, 6, 0] rfl)
                    · refine lv_lload hx hb dX6_safe_92 (lv_at hl 0 rfl) ?_
                      refine lv_goto (tgt := 98) hx hb dX6_safe_94 (by decide) ?_
                      exact join_98 _ _ _ _ (fun h => by first | rfl | exact absurd rfl c_89 | exact absurd (hw8.symm.trans (h.trans hs8)) (by decide)) (fun h => by first | rfl | exact absurd c_89 (by decide) | exact absurd (hw8.trans hs8.symm) h) w (lv_sub hl [1, 2, 3, 4, 5, 6, 0] rfl)
            exact loop_43 nr 0 _ _ _ (by omega) w (lv_sub hl [1, 2, 3, 4, 5, 0] rfl)
        exact loop_30 2 0 f _ _ _ _ (by omega) hE (imp_of ⟨fun x => ⟨x, fun h => absurd h (by decide), fun h => absurd h (by decide)⟩, fun x => x.1⟩ hf) w (lv_sub hl [1, 2, 3, 4, 0] rfl)
    exact loop_19 z 0 1 _ _ _ _ (by omega) (eqH.rf S) (Or.inl ⟨rfl, lt_0⟩) w (lv_sub hl [2, 3, 1, 0] rfl)
  · refine lv_bipush (v := (-3)) hx hb dX6_safe_12 (by decide) ?_
    exact hret _ _ _ _ _ _ dX6_safe_14 w (by unfold spSafe; rw [if_neg (no_of q2 c_9)]; exact ⟨rfl, eqH.rf S⟩)
