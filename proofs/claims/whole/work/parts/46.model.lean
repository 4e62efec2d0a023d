/-- but for the halves -/
def eqH (S S2 : PS) : Prop := sI S2 = sI S ∧ sQ S2 = sQ S ∧ ∀ c r k, c ≠ 6 → sJ S2 c r k = sJ S c r k
theorem eqH.rf (S : PS) : eqH S S := ⟨rfl, rfl, fun _ _ _ _ => rfl⟩
theorem eqH.tr {S S1 S2 : PS} (h1 : eqH S S1) (h2 : eqH S1 S2) : eqH S S2 := ⟨h2.1.trans h1.1, h2.2.1.trans h1.2.1, fun c r k h => (h2.2.2 c r k h).trans (h1.2.2 c r k h)⟩
theorem eqH_wm (S : PS) (V : Int) : eqH S (wm S V) := ⟨rfl, rfl, fun c r k h => sJ_wm_n h⟩
theorem eqH.M {S S2 : PS} (h : eqH S S2) (n : Nat) : eqM S S2 n := ⟨h.2.1, fun c r k _ => by rw [h.1], fun c r k q => h.2.2 c r k (fun e => q (Or.inl e))⟩
theorem eqH.j9 {S S2 : PS} (h : eqH S S2) (r k : Nat) : sJ S2 9 r k = sJ S 9 r k := h.2.2 9 r k (by decide)
theorem eqH.uI {S S2 : PS} (h : eqH S S2) (c r k : Nat) (v : Int32) : eqH (uI S c r k v) (uI S2 c r k v) := by
  refine ⟨?_, h.2.1, h.2.2⟩
  funext c' r' k'
  rw [sI_uI, sI_uI, h.1]
def plM (S : PS) (nr z : Nat) : Prop := lkM S ∧ sI S 6 0 8 = nI nr ∧ nr ≤ 12 ∧ (∀ i, i < nr → 0 ≤ (sI S 8 3 i).toInt ∧ (sI S 8 3 i).toInt ≤ 1000000) ∧ sI S 6 0 7 = nI z ∧ z ≤ 12
theorem plM.of {S S2 : PS} {nr z : Nat} (h : plM S nr z) (e : eqH S S2) : plM S2 nr z := by
  unfold plM
  rw [e.1]
  exact ⟨lkM_of h.1 e.2.1, h.2⟩
theorem plM.lk {S : PS} {nr z : Nat} (h : plM S nr z) : lkM S := h.1
theorem plM.n {S : PS} {nr z : Nat} (h : plM S nr z) : sI S 6 0 8 = nI nr := h.2.1
theorem plM.n12 {S : PS} {nr z : Nat} (h : plM S nr z) : nr ≤ 12 := h.2.2.1
theorem plM.c {S : PS} {nr z : Nat} (h : plM S nr z) {i : Nat} (hi : i < nr) : 0 ≤ (sI S 8 3 i).toInt ∧ (sI S 8 3 i).toInt ≤ 1000000 := h.2.2.2.1 i hi
theorem plM.z {S : PS} {nr z : Nat} (h : plM S nr z) : sI S 6 0 7 = nI z := h.2.2.2.2.1
theorem plM.z12 {S : PS} {nr z : Nat} (h : plM S nr z) : z ≤ 12 := h.2.2.2.2.2
theorem plM.cnt {S : PS} {nr z : Nat} (h : plM S nr z) {i : Nat} {v : Int32} (hv : 0 ≤ v.toInt ∧ v.toInt ≤ 1000000) : plM (uI S 8 3 i v) nr z := by
  refine ⟨lkM_of h.1 rfl, by rw [sI_uI, if_neg (by simp)]; exact h.n, h.n12, fun j hj => ?_, by rw [sI_uI, if_neg (by simp)]; exact h.z, h.z12⟩
  rw [sI_uI]
  by_cases q : j = i
  · rw [if_pos ⟨rfl, rfl, q⟩]; exact hv
  · rw [if_neg (fun x => q x.2.2)]; exact h.c hj
def fitW (S : PS) (nr k : Nat) : Prop := fitA (fun i => sJ S 9 1 (12 * i + k)) (sI S 8 3) nr
def fitM (S : PS) (nr z : Nat) : Prop := ∀ k, k < z → fitW S nr k
theorem fitW_H {S S2 : PS} (e : eqH S S2) (nr k : Nat) : fitW S2 nr k = fitW S nr k := by
  unfold fitW
  rw [e.1, show (fun i => sJ S2 9 1 (12 * i + k)) = fun i => sJ S 9 1 (12 * i + k) from funext fun i => e.j9 _ _]
theorem c_bd {c : Int32} (h : 0 ≤ c.toInt ∧ c.toInt ≤ 1000000) : -2147483648 ≤ c.toInt64.toInt ∧ c.toInt64.toInt ≤ 2147483648 := by rw [Int32.toInt_toInt64]; omega
theorem add_bd (V : Int) (w : Int64) {c : Int32} (h : 0 ≤ c.toInt ∧ c.toInt ≤ 1000000) : -9223372036854775808 ≤ V % 4294967296 + w.toInt % 4294967296 * c.toInt64.toInt ∧ V % 4294967296 + w.toInt % 4294967296 * c.toInt64.toInt < 9223372036854775808 := by
  rw [Int32.toInt_toInt64]
  have h0 : 0 ≤ w.toInt % 4294967296 := by omega
  have e1 := Int.mul_le_mul_of_nonneg_left h.1 h0
  have e2 := Int.mul_le_mul_of_nonneg_left h.2 h0
  omega

set_option maxHeartbeats 4000000 in
set_option maxRecDepth 100000 in
/-- layPart -/
theorem c_X6_layPart (l : Launch) (G : GT) (hM : okM G) (S : PS) (nr z : Nat) (hpl : plM S nr z) (i k : Nat) (hi : i < nr) (hk : k < 12) : CtV l G yX6_layPart wsX6_layPart (rmK 1 24) [.ref (gA G 6 0), .int (nI i), .int (nI k)] S (fun S2 => S2 = wm S ((sJ S 9 1 (12 * i + k)).toInt * (sI S 8 3 i).toInt)) := by
  refine ofCtV (cc := cX6_layPart) (nL := 3) RX6 (by decide +kernel) rfl rfl (Nat.le_of_ble_eq_true rfl) ?_
  intro p e s m args below meth c A Q ls C w hl hret
  have hx := C.1
  have hb := C.2.1
  have hown := C.2.2.2.1
  have hts := C.2.2.2.2.1
  have hi6 : ∀ w ∈ wsX60, w ∈ wsX6_layPart := by decide +kernel
  have h12 := hpl.n12
  refine lv_aload_n hx hb dX6_layPart_0 rfl (lv_at hl 0 rfl) ?_
  refine cvV (n := 0) C w hl dX6_layPart_1 (c_X6_zero l G hM S) gX6_layPart_X6_zero rfl (by decide +kernel) rfl rfl (Nat.le_of_ble_eq_true rfl) ⟨by decide, by decide⟩ (by decide) rfl (oM6 hM) (fun S3 H locs hp w => ?_)
  subst hp
  refine lv_aload_n hx hb dX6_layPart_4 rfl (lv_at hl 0 rfl) ?_
  refine lv_aload_n hx hb dX6_layPart_5 rfl (lv_at hl 0 rfl) ?_
  refine pgQ 6 9 9 (by decide) rfl (by decide) rfl rfl C w hi6 (by decide +kernel) dX6_layPart_6 (oM6 hM) (hpl.lk.2.2.2.2.1) ?_
  refine lv_bipush (v := 12) hx hb dX6_layPart_9 (by decide) ?_
  refine lv_iload_n hx hb dX6_layPart_11 rfl (lv_at hl 1 rfl) ?_
  refine lv_imul hx hb dX6_layPart_12 ?_
  refine lv_iload_n hx hb dX6_layPart_13 rfl (lv_at hl 2 rfl) ?_
  refine lv_iadd hx hb dX6_layPart_14 ?_
  refine paJ C w dX6_layPart_15 (oM9 hM (by decide)) (n := 12 * i + k) (ix12 _ _) (nM91 hM) (by omega) (by decide) (v := sJ S 9 1 (12 * i + k)) (sJ_wm_n (by decide)) ?_
  refine lv_aload_n hx hb dX6_layPart_16 rfl (lv_at hl 0 rfl) ?_
  refine pgQ 6 10 8 (by decide) rfl (by decide) rfl rfl C w hi6 (by decide +kernel) dX6_layPart_17 (oM6 hM) (hpl.lk.2.2.2.2.2.1) ?_
  refine lv_iload_n hx hb dX6_layPart_20 rfl (lv_at hl 1 rfl) ?_
  refine paI C w dX6_layPart_21 (oM8 hM (by decide)) rfl (nM83 hM) (by omega) (by decide) rfl ?_
  refine lv_i2l hx hb dX6_layPart_22 rfl ?_
  refine cvV (n := 2) C w hl dX6_layPart_23 (c_X6_add l G hM (wm S 0) 0 (sJ_wm_0 S 0) (sJ_wm_1 S 0) _ _ (add_bd 0 _ (hpl.c hi)) (c_bd (hpl.c hi))) gX6_layPart_X6_add rfl (by decide +kernel) rfl rfl (Nat.le_of_ble_eq_true rfl) ⟨by decide, by decide⟩ (by decide) rfl (oM6 hM) (fun S4 H locs hp w => ?_)
  exact hret _ _ _ _ _ dX6_layPart_26 w (by rw [hp, wm_wm, Int.zero_add, Int32.toInt_toInt64])

set_option maxHeartbeats 4000000 in
set_option maxRecDepth 100000 in
/-- hasRoom -/
theorem c_X6_hasRoom (l : Launch) (G : GT) (hM : okM G) (S : PS) (nr z : Nat) (hpl : plM S nr z) : CtI l G yX6_hasRoom wsX6_hasRoom (rmK 2 46) [.ref (gA G 6 0)] S (fun v S2 => ((v = 1 ∧ fitM S nr z) ∨ (v = 0 ∧ ¬ fitM S nr z)) ∧ eqH S S2) := by
  refine ofCtZ (cc := cX6_hasRoom) (nL := 4) RX6 (by decide +kernel) rfl rfl (Nat.le_of_ble_eq_true rfl) ?_
  intro p e s m args below meth c A Q ls C w hl hret
  have hx := C.1
  have hb := C.2.1
  have hown := C.2.2.2.1
  have hts := C.2.2.2.2.1
  have hi6 : ∀ w ∈ wsX60, w ∈ wsX6_hasRoom := by decide +kernel
  have hpl0 := hpl
  refine lv_iconst (v := 1) hx hb dX6_hasRoom_0 (by decide) ?_
  refine lv_istore_n hx hb dX6_hasRoom_1 rfl hl (by decide) rfl (fun ls hl => ?_)
  refine lv_iconst (v := 0) hx hb dX6_hasRoom_2 (by decide) ?_
  refine lv_istore_n hx hb dX6_hasRoom_3 rfl hl (by decide) rfl (fun ls hl => ?_)
  have loop_4 : ∀ (n2 : Nat) (k : Nat) (f : Int32) (S1 : PS) (H : Heap) (locs : List Loc) (ls : Array Slot), k + n2 = z → eqH S S1 → ((f = 1 ∧ (∀ j, j < k → fitW S nr j)) ∨ (f = 0 ∧ ¬ (∀ j, j < k → fitW S nr j))) → Wd G A s.heap S1 H locs → lv_has ls 4 [(0, .ref (gA G 6 0)), (1, .int f), (2, .int (nI k))] → W p l e (rmK 2 46) s m args below meth c H locs 0 0 Q (F0 m 4 ls []) := by
    intro n2
    induction n2 with
    | zero =>
      intro k f S1 H locs ls hk hE hf w hl
      have hpl := hpl0.of hE
      have h12 := hpl.n12
      have hz12 := hpl.z12
      refine lv_iload_n hx hb dX6_hasRoom_4 rfl (lv_at hl 2 rfl) ?_
      refine lv_aload_n hx hb dX6_hasRoom_5 rfl (lv_at hl 0 rfl) ?_
      refine pgI 6 7 (by decide) rfl (by decide) (Or.inl rfl) rfl C w hi6 (by decide +kernel) dX6_hasRoom_6 (oM6 hM) (v := nI z) hpl.z ?_
      refine lv_icmp_ge (tgt := 120) hx hb dX6_hasRoom_9 (by decide) (fun c_9 => ?_) (fun c_9 => absurd (nI_le (by omega) (by omega)) c_9)
      refine lv_iload_n hx hb dX6_hasRoom_120 rfl (lv_at hl 1 rfl) ?_
      exact hret _ _ _ _ _ _ dX6_hasRoom_121 w (b_of hf) ⟨by first | exact imp_of ⟨fun q j hj => q j (by omega), fun q j hj => q j (by omega)⟩ hf | exact Or.inr ⟨c_13, fun q => no_of hf c_13 (fun j hj => q j (by omega))⟩, hE⟩
    | succ n2 ih =>
      intro k f S1 H locs ls hk hE hf w hl
      have hpl := hpl0.of hE
      have h12 := hpl.n12
      have hz12 := hpl.z12
      refine lv_iload_n hx hb dX6_hasRoom_4 rfl (lv_at hl 2 rfl) ?_
      refine lv_aload_n hx hb dX6_hasRoom_5 rfl (lv_at hl 0 rfl) ?_
      refine pgI 6 7 (by decide) rfl (by decide) (Or.inl rfl) rfl C w hi6 (by decide +kernel) dX6_hasRoom_6 (oM6 hM) (v := nI z) hpl.z ?_
      refine lv_icmp_ge (tgt := 120) hx hb dX6_hasRoom_9 (by decide) (fun c_9 => absurd c_9 (nI_ge (by omega) (by omega))) (fun c_9 => ?_)
      refine lv_iload_n hx hb dX6_hasRoom_12 rfl (lv_at hl 1 rfl) ?_
      refine lv_if_eq (tgt := 120) hx hb dX6_hasRoom_13 (by decide) (fun c_13 => ?_) (fun c_13 => ?_)
      · refine lv_iload_n hx hb dX6_hasRoom_120 rfl (lv_at hl 1 rfl) ?_
        exact hret _ _ _ _ _ _ dX6_hasRoom_121 w (b_of hf) ⟨by first | exact imp_of ⟨fun q j hj => q j (by omega), fun q j hj => q j (by omega)⟩ hf | exact Or.inr ⟨c_13, fun q => no_of hf c_13 (fun j hj => q j (by omega))⟩, hE⟩
      · refine lv_iconst (v := 0) hx hb dX6_hasRoom_16 (by decide) ?_
        refine lv_istore_n hx hb dX6_hasRoom_17 rfl hl (by decide) rfl (fun ls hl => ?_)
        have loop_18 : ∀ (n4 : Nat) (r : Nat) (g : Int32) (S2 : PS) (H : Heap) (locs : List Loc) (ls : Array Slot), r + n4 = nr → eqH S S2 → ((g = 1 ∧ (∀ i, i < r → in64 ((sJ S 9 1 (12 * i + k)).toInt * (sI S 8 3 i).toInt))) ∨ (g = 0 ∧ ¬ (∀ i, i < r → in64 ((sJ S 9 1 (12 * i + k)).toInt * (sI S 8 3 i).toInt)))) → Wd G A s.heap S2 H locs → lv_has ls 4 [(0, .ref (gA G 6 0)), (1, .int g), (2, .int (nI k)), (3, .int (nI r))] → W p l e (rmK 2 46) s m args below meth c H locs 0 0 Q (F0 m 18 ls []) := by
          intro n4
          induction n4 with
          | zero =>
            intro r g S2 H locs ls hr hE2 hg w hl
            have hpl := hpl0.of hE2
            refine lv_iload_n hx hb dX6_hasRoom_18 rfl (lv_at hl 3 rfl) ?_
            refine lv_aload_n hx hb dX6_hasRoom_19 rfl (lv_at hl 0 rfl) ?_
            refine pgI 6 8 (by decide) rfl (by decide) (Or.inl rfl) rfl C w hi6 (by decide +kernel) dX6_hasRoom_20 (oM6 hM) (v := nI nr) hpl.n ?_
            refine lv_icmp_ge (tgt := 55) hx hb dX6_hasRoom_23 (by decide) (fun c_23 => ?_) (fun c_23 => absurd (nI_le (by omega) (by omega)) c_23)
            have er : r = nr := by omega
            rw [er] at hg
            clear er hr
            refine lv_aload_n hx hb dX6_hasRoom_55 rfl (lv_at hl 0 rfl) ?_
            refine cvV (n := 0) C w hl dX6_hasRoom_56 (c_X6_zero l G hM S2) gX6_hasRoom_X6_zero rfl (by decide +kernel) rfl rfl (Nat.le_of_ble_eq_true rfl) ⟨by decide, by decide⟩ (by decide) rfl (oM6 hM) (fun S3 H locs hp w => ?_)
            subst hp
            refine lv_iconst (v := 0) hx hb dX6_hasRoom_59 (by decide) ?_
            refine lv_istore_n hx hb dX6_hasRoom_60 rfl hl (by decide) rfl (fun ls hl => ?_)
            have loop_61 : ∀ (n3 : Nat) (r : Nat) (H : Heap) (locs : List Loc) (ls : Array Slot), r + n3 = nr → Wd G A s.heap (wm S2 (sumV (fun i => sJ S 9 1 (12 * i + k)) (sI S 8 3) r)) H locs → lv_has ls 4 [(0, .ref (gA G 6 0)), (1, .int g), (2, .int (nI k)), (3, .int (nI r))] → W p l e (rmK 2 46) s m args below meth c H locs 0 0 Q (F0 m 61 ls []) := by
              intro n3
              induction n3 with
              | zero =>
                intro r H locs ls hr w hl
                refine lv_iload_n hx hb dX6_hasRoom_61 rfl (lv_at hl 3 rfl) ?_
                refine lv_aload_n hx hb dX6_hasRoom_62 rfl (lv_at hl 0 rfl) ?_
                refine pgI 6 8 (by decide) rfl (by decide) (Or.inl rfl) rfl C w hi6 (by decide +kernel) dX6_hasRoom_63 (oM6 hM) (v := nI nr) hpl.n ?_
                refine lv_icmp_ge (tgt := 97) hx hb dX6_hasRoom_66 (by decide) (fun c_66 => ?_) (fun c_66 => absurd (nI_le (by omega) (by omega)) c_66)
                have er : r = nr := by omega
                subst er
                refine lv_iload_n hx hb dX6_hasRoom_97 rfl (lv_at hl 1 rfl) ?_
                refine lv_if_eq (tgt := 112) hx hb dX6_hasRoom_98 (by decide) (fun c_98 => ?_) (fun c_98 => ?_)
                · refine lv_iconst (v := 0) hx hb dX6_hasRoom_112 (by decide) ?_
                  refine lv_istore_n hx hb dX6_hasRoom_113 rfl hl (by decide) rfl (fun ls hl => ?_)
                  refine lv_iinc (v := nI (k + 1)) hx hb dX6_hasRoom_114 hl (k := 2) rfl (nI_1 k) (by decide) rfl (fun ls hl => ?_)
                  refine lv_goto (tgt := 4) hx hb dX6_hasRoom_117 (by decide) ?_
                  exact ih (k + 1) _ _ _ _ _ (by omega) (hE2.tr (eqH_wm _ _)) (by first | exact Or.inr ⟨rfl, fun q => no_of hg c_98 (q k (by omega)).1⟩ | exact Or.inr ⟨rfl, fun q => no_of q6 c_105 (q k (by omega)).2⟩ | exact Or.inl ⟨rfl, lt_s (yes_of hf c_13) ⟨yes_of hg c_98, yes_of q6 c_105⟩⟩) w (lv_sub hl [2, 1, 0] rfl)
                · refine lv_aload_n hx hb dX6_hasRoom_101 rfl (lv_at hl 0 rfl) ?_
                  refine cvI (n := 0) C w hl dX6_hasRoom_102 (c_X6_fits l G hM _ _ (sJ_wm_0 S2 _) (sJ_wm_1 S2 _) (by have := sumV_bd (W := (fun i => sJ S 9 1 (12 * i + k))) (C := sI S 8 3) r (fun i hi => hpl0.c (by omega)); omega) (by have := sumV_bd (W := (fun i => sJ S 9 1 (12 * i + k))) (C := sI S 8 3) r (fun i hi => hpl0.c (by omega)); omega)) gX6_hasRoom_X6_fits rfl (by decide +kernel) rfl rfl (Nat.le_of_ble_eq_true rfl) ⟨by decide, by decide⟩ (by decide) rfl (oM6 hM) (fun v6 S6 H locs hp w => ?_)
                  obtain ⟨q6, e0⟩ := hp
                  rw [e0] at w
                  refine lv_if_eq (tgt := 112) hx hb dX6_hasRoom_105 (by decide) (fun c_105 => ?_) (fun c_105 => ?_)
                  · refine lv_iconst (v := 0) hx hb dX6_hasRoom_112 (by decide) ?_
                    refine lv_istore_n hx hb dX6_hasRoom_113 rfl hl (by decide) rfl (fun ls hl => ?_)
                    refine lv_iinc (v := nI (k + 1)) hx hb dX6_hasRoom_114 hl (k := 2) rfl (nI_1 k) (by decide) rfl (fun ls hl => ?_)
                    refine lv_goto (tgt := 4) hx hb dX6_hasRoom_117 (by decide) ?_
                    exact ih (k + 1) _ _ _ _ _ (by omega) (hE2.tr (eqH_wm _ _)) (by first | exact Or.inr ⟨rfl, fun q => no_of hg c_98 (q k (by omega)).1⟩ | exact Or.inr ⟨rfl, fun q => no_of q6 c_105 (q k (by omega)).2⟩ | exact Or.inl ⟨rfl, lt_s (yes_of hf c_13) ⟨yes_of hg c_98, yes_of q6 c_105⟩⟩) w (lv_sub hl [2, 1, 0] rfl)
                  · refine lv_iconst (v := 1) hx hb dX6_hasRoom_108 (by decide) ?_
                    refine lv_goto (tgt := 113) hx hb dX6_hasRoom_109 (by decide) ?_
                    refine lv_istore_n hx hb dX6_hasRoom_113 rfl hl (by decide) rfl (fun ls hl => ?_)
                    refine lv_iinc (v := nI (k + 1)) hx hb dX6_hasRoom_114 hl (k := 2) rfl (nI_1 k) (by decide) rfl (fun ls hl => ?_)
                    refine lv_goto (tgt := 4) hx hb dX6_hasRoom_117 (by decide) ?_
                    exact ih (k + 1) _ _ _ _ _ (by omega) (hE2.tr (eqH_wm _ _)) (by first | exact Or.inr ⟨rfl, fun q => no_of hg c_98 (q k (by omega)).1⟩ | exact Or.inr ⟨rfl, fun q => no_of q6 c_105 (q k (by omega)).2⟩ | exact Or.inl ⟨rfl, lt_s (yes_of hf c_13) ⟨yes_of hg c_98, yes_of q6 c_105⟩⟩) w (lv_sub hl [2, 1, 0] rfl)
              | succ n3 ih3 =>
                intro r H locs ls hr w hl
                refine lv_iload_n hx hb dX6_hasRoom_61 rfl (lv_at hl 3 rfl) ?_
                refine lv_aload_n hx hb dX6_hasRoom_62 rfl (lv_at hl 0 rfl) ?_
                refine pgI 6 8 (by decide) rfl (by decide) (Or.inl rfl) rfl C w hi6 (by decide +kernel) dX6_hasRoom_63 (oM6 hM) (v := nI nr) hpl.n ?_
                refine lv_icmp_ge (tgt := 97) hx hb dX6_hasRoom_66 (by decide) (fun c_66 => absurd c_66 (nI_ge (by omega) (by omega))) (fun c_66 => ?_)
                refine lv_aload_n hx hb dX6_hasRoom_69 rfl (lv_at hl 0 rfl) ?_
                refine lv_aload_n hx hb dX6_hasRoom_70 rfl (lv_at hl 0 rfl) ?_
                refine pgQ 6 9 9 (by decide) rfl (by decide) rfl rfl C w hi6 (by decide +kernel) dX6_hasRoom_71 (oM6 hM) (hpl.lk.2.2.2.2.1) ?_
                refine lv_bipush (v := 12) hx hb dX6_hasRoom_74 (by decide) ?_
                refine lv_iload_n hx hb dX6_hasRoom_76 rfl (lv_at hl 3 rfl) ?_
                refine lv_imul hx hb dX6_hasRoom_77 ?_
                refine lv_iload_n hx hb dX6_hasRoom_78 rfl (lv_at hl 2 rfl) ?_
                refine lv_iadd hx hb dX6_hasRoom_79 ?_
                refine paJ C w dX6_hasRoom_80 (oM9 hM (by decide)) (n := 12 * r + k) (ix12 _ _) (nM91 hM) (by omega) (by decide) (v := sJ S 9 1 (12 * r + k)) (by rw [sJ_wm_n (by decide)]; exact hE2.j9 _ _) ?_
                refine lv_aload_n hx hb dX6_hasRoom_81 rfl (lv_at hl 0 rfl) ?_
                refine pgQ 6 10 8 (by decide) rfl (by decide) rfl rfl C w hi6 (by decide +kernel) dX6_hasRoom_82 (oM6 hM) (hpl.lk.2.2.2.2.2.1) ?_
                refine lv_iload_n hx hb dX6_hasRoom_85 rfl (lv_at hl 3 rfl) ?_
                refine paI C w dX6_hasRoom_86 (oM8 hM (by decide)) rfl (nM83 hM) (by omega) (by decide) (v := sI S 8 3 r) (by rw [sI_wm, hE2.1]) ?_
                refine lv_i2l hx hb dX6_hasRoom_87 rfl ?_
                refine cvV (n := 2) C w hl dX6_hasRoom_88 (c_X6_add l G hM (wm S2 (sumV (fun i => sJ S 9 1 (12 * i + k)) (sI S 8 3) r)) _ (sJ_wm_0 S2 _) (sJ_wm_1 S2 _) _ _ (add_bd _ _ (hpl0.c (i := r) (by omega))) (c_bd (hpl0.c (i := r) (by omega)))) gX6_hasRoom_X6_add rfl (by decide +kernel) rfl rfl (Nat.le_of_ble_eq_true rfl) ⟨by decide, by decide⟩ (by decide) rfl (oM6 hM) (fun S3 H locs hp w => ?_)
                rw [wm_wm, Int32.toInt_toInt64] at hp
                subst hp
                refine lv_iinc (v := nI (r + 1)) hx hb dX6_hasRoom_91 hl (k := 3) rfl (nI_1 r) (by decide) rfl (fun ls hl => ?_)
                refine lv_goto (tgt := 61) hx hb dX6_hasRoom_94 (by decide) ?_
                exact ih3 (r + 1) _ _ _ (by omega) w (lv_sub hl [1, 2, 3, 0] rfl)
            exact loop_61 nr 0 _ _ _ (by omega) w (lv_sub hl [1, 2, 3, 0] rfl)
          | succ n4 ih4 =>
            intro r g S2 H locs ls hr hE2 hg w hl
            have hpl := hpl0.of hE2
            refine lv_iload_n hx hb dX6_hasRoom_18 rfl (lv_at hl 3 rfl) ?_
            refine lv_aload_n hx hb dX6_hasRoom_19 rfl (lv_at hl 0 rfl) ?_
            refine pgI 6 8 (by decide) rfl (by decide) (Or.inl rfl) rfl C w hi6 (by decide +kernel) dX6_hasRoom_20 (oM6 hM) (v := nI nr) hpl.n ?_
            refine lv_icmp_ge (tgt := 55) hx hb dX6_hasRoom_23 (by decide) (fun c_23 => absurd c_23 (nI_ge (by omega) (by omega))) (fun c_23 => ?_)
            refine lv_aload_n hx hb dX6_hasRoom_26 rfl (lv_at hl 0 rfl) ?_
            refine lv_iload_n hx hb dX6_hasRoom_27 rfl (lv_at hl 3 rfl) ?_
            refine lv_iload_n hx hb dX6_hasRoom_28 rfl (lv_at hl 2 rfl) ?_
            refine cvV (n := 2) C w hl dX6_hasRoom_29 (c_X6_layPart l G hM S2 nr z hpl r k (by omega) (by omega)) gX6_hasRoom_X6_layPart rfl (by decide +kernel) rfl rfl (Nat.le_of_ble_eq_true rfl) ⟨by decide, by decide⟩ (by decide) rfl (oM6 hM) (fun S3 H locs hp w => ?_)
            subst hp
            refine lv_iload_n hx hb dX6_hasRoom_32 rfl (lv_at hl 1 rfl) ?_
            refine lv_if_eq (tgt := 47) hx hb dX6_hasRoom_33 (by decide) (fun c_33 => ?_) (fun c_33 => ?_)
            · refine lv_iconst (v := 0) hx hb dX6_hasRoom_47 (by decide) ?_
              refine lv_istore_n hx hb dX6_hasRoom_48 rfl hl (by decide) rfl (fun ls hl => ?_)
              refine lv_iinc (v := nI (r + 1)) hx hb dX6_hasRoom_49 hl (k := 3) rfl (nI_1 r) (by decide) rfl (fun ls hl => ?_)
              refine lv_goto (tgt := 18) hx hb dX6_hasRoom_52 (by decide) ?_
              exact ih4 (r + 1) _ _ _ _ _ (by omega) (hE2.tr (eqH_wm _ _)) (by first | exact Or.inr ⟨rfl, fun q => no_of hg c_33 (fun j hj => q j (by omega))⟩ | exact Or.inr ⟨rfl, fun q => no_of q5 c_40 (by have := q r (by omega); rwa [← hE2.j9, ← hE2.1] at this)⟩ | exact Or.inl ⟨rfl, lt_s (yes_of hg c_33) (by have := yes_of q5 c_40; rwa [hE2.j9, hE2.1] at this)⟩) w (lv_sub hl [2, 1, 3, 0] rfl)
            · refine lv_aload_n hx hb dX6_hasRoom_36 rfl (lv_at hl 0 rfl) ?_
              refine cvI (n := 0) C w hl dX6_hasRoom_37 (c_X6_fits l G hM _ _ (sJ_wm_0 S2 _) (sJ_wm_1 S2 _) (by have := prod_bd (sJ S2 9 1 (12 * r + k)) (hpl.c (i := r) (by omega)); omega) (by have := prod_bd (sJ S2 9 1 (12 * r + k)) (hpl.c (i := r) (by omega)); omega)) gX6_hasRoom_X6_fits rfl (by decide +kernel) rfl rfl (Nat.le_of_ble_eq_true rfl) ⟨by decide, by decide⟩ (by decide) rfl (oM6 hM) (fun v5 S5 H locs hp w => ?_)
              obtain ⟨q5, e0⟩ := hp
              rw [e0] at w
              refine lv_if_eq (tgt := 47) hx hb dX6_hasRoom_40 (by decide) (fun c_40 => ?_) (fun c_40 => ?_)
              · refine lv_iconst (v := 0) hx hb dX6_hasRoom_47 (by decide) ?_
                refine lv_istore_n hx hb dX6_hasRoom_48 rfl hl (by decide) rfl (fun ls hl => ?_)
                refine lv_iinc (v := nI (r + 1)) hx hb dX6_hasRoom_49 hl (k := 3) rfl (nI_1 r) (by decide) rfl (fun ls hl => ?_)
                refine lv_goto (tgt := 18) hx hb dX6_hasRoom_52 (by decide) ?_
                exact ih4 (r + 1) _ _ _ _ _ (by omega) (hE2.tr (eqH_wm _ _)) (by first | exact Or.inr ⟨rfl, fun q => no_of hg c_33 (fun j hj => q j (by omega))⟩ | exact Or.inr ⟨rfl, fun q => no_of q5 c_40 (by have := q r (by omega); rwa [← hE2.j9, ← hE2.1] at this)⟩ | exact Or.inl ⟨rfl, lt_s (yes_of hg c_33) (by have := yes_of q5 c_40; rwa [hE2.j9, hE2.1] at this)⟩) w (lv_sub hl [2, 1, 3, 0] rfl)
              · refine lv_iconst (v := 1) hx hb dX6_hasRoom_43 (by decide) ?_
                refine lv_goto (tgt := 48) hx hb dX6_hasRoom_44 (by decide) ?_
                refine lv_istore_n hx hb dX6_hasRoom_48 rfl hl (by decide) rfl (fun ls hl => ?_)
                refine lv_iinc (v := nI (r + 1)) hx hb dX6_hasRoom_49 hl (k := 3) rfl (nI_1 r) (by decide) rfl (fun ls hl => ?_)
                refine lv_goto (tgt := 18) hx hb dX6_hasRoom_52 (by decide) ?_
                exact ih4 (r + 1) _ _ _ _ _ (by omega) (hE2.tr (eqH_wm _ _)) (by first | exact Or.inr ⟨rfl, fun q => no_of hg c_33 (fun j hj => q j (by omega))⟩ | exact Or.inr ⟨rfl, fun q => no_of q5 c_40 (by have := q r (by omega); rwa [← hE2.j9, ← hE2.1] at this)⟩ | exact Or.inl ⟨rfl, lt_s (yes_of hg c_33) (by have := yes_of q5 c_40; rwa [hE2.j9, hE2.1] at this)⟩) w (lv_sub hl [2, 1, 3, 0] rfl)
        exact loop_18 nr 0 f _ _ _ _ (by omega) hE (by first | exact Or.inl ⟨(by rcases hf with h | h; exact h.1; exact absurd h.1 c_13), lt_0⟩) w (lv_sub hl [1, 2, 3, 0] rfl)
  exact loop_4 z 0 1 _ _ _ _ (by omega) (eqH.rf S) (Or.inl ⟨rfl, lt_0⟩) w (lv_sub hl [2, 1, 0] rfl)

set_option maxHeartbeats 4000000 in
set_option maxRecDepth 100000 in
/-- count -/
theorem c_X6_count (l : Launch) (G : GT) (hM : okM G) (S : PS) (nr z : Nat) (hpl : plM S nr z) (i q : Int32) : CtI l G yX6_count wsX6_count (rmK 3 69) [.ref (gA G 6 0), .int i, .int q] S (fun v S2 => spCount nr (sI S 8 3) (fitM (uI S 8 3 (jn i) q) nr z) i q v (eqH S S2) (eqH (uI S 8 3 (jn i) q) S2)) := by
  refine ofCtI (cc := cX6_count) (nL := 4) RX6 (by decide +kernel) rfl rfl (Nat.le_of_ble_eq_true rfl) ?_
  intro p e s m args below meth c A Q ls C w hl hret
  have hx := C.1
  have hb := C.2.1
  have hown := C.2.2.2.1
  have hts := C.2.2.2.2.1
  have hi6 : ∀ w ∈ wsX60, w ∈ wsX6_count := by decide +kernel
  have h12 := hpl.n12
  refine lv_iload_n hx hb dX6_count_0 rfl (lv_at hl 1 rfl) ?_
  refine lv_i2l hx hb dX6_count_1 rfl ?_
  refine lv_lconst (v := 0) hx hb dX6_count_2 (by decide) ?_
  refine lv_aload_n hx hb dX6_count_3 rfl (lv_at hl 0 rfl) ?_
  refine pgI 6 8 (by decide) rfl (by decide) (Or.inl rfl) rfl C w hi6 (by decide +kernel) dX6_count_4 (oM6 hM) (v := nI nr) hpl.n ?_
  refine lv_iconst (v := 1) hx hb dX6_count_7 (by decide) ?_
  refine lv_isub hx hb dX6_count_8 ?_
  refine lv_i2l hx hb dX6_count_9 rfl ?_
  refine csI (n := 3) C w hl dX6_count_10 (c_X6_in l G S _ _ _) gX6_count_X6_in rfl (by decide +kernel) rfl rfl (Nat.le_of_ble_eq_true rfl) ⟨by decide, by decide⟩ (fun v7 S7 H locs hp w => ?_)
  obtain ⟨q1, e0⟩ := hp
  rw [e0] at w
  replace q1 := imp_of (in_n (by omega)) q1
  refine lv_if_ne (tgt := 19) hx hb dX6_count_13 (by decide) (fun c_13 => ?_) (fun c_13 => ?_)
  · have hi := yes_of q1 c_13
    have hji := jn_lt hi
    have hqi : i = nI (jn i) := jn_eq hi
    refine lv_iload_n hx hb dX6_count_19 rfl (lv_at hl 2 rfl) ?_
    refine lv_i2l hx hb dX6_count_20 rfl ?_
    refine lv_lconst (v := 0) hx hb dX6_count_21 (by decide) ?_
    refine lv_ldc2 (v := (1000000)) hx hb hown (hts (.constantLong RX6 211 (1000000)) (by decide +kernel)) dX6_count_22 ?_
    refine csI (n := 3) C w hl dX6_count_25 (c_X6_in l G S _ _ _) gX6_count_X6_in rfl (by decide +kernel) rfl rfl (Nat.le_of_ble_eq_true rfl) ⟨by decide, by decide⟩ (fun v7 S7 H locs hp w => ?_)
    obtain ⟨q2, e0⟩ := hp
    rw [e0] at w
    replace q2 := imp_of (in_c (m := 1000001) rfl) q2
    refine lv_if_ne (tgt := 34) hx hb dX6_count_28 (by decide) (fun c_28 => ?_) (fun c_28 => ?_)
    · have hq := yes_of q2 c_28
      have hqq : 0 ≤ q.toInt ∧ q.toInt ≤ 1000000 := ⟨hq.1, by have := hq.2; omega⟩
      refine lv_aload_n hx hb dX6_count_34 rfl (lv_at hl 0 rfl) ?_
      refine pgQ 6 10 8 (by decide) rfl (by decide) rfl rfl C w hi6 (by decide +kernel) dX6_count_35 (oM6 hM) (hpl.lk.2.2.2.2.2.1) ?_
      refine lv_iload_n hx hb dX6_count_38 rfl (lv_at hl 1 rfl) ?_
      refine lv_rep hqi ?_
      refine paI C w dX6_count_39 (oM8 hM (by decide)) rfl (nM83 hM) (by omega) (by decide) rfl ?_
      refine lv_istore_n hx hb dX6_count_40 rfl hl (by decide) rfl (fun ls hl => ?_)
      refine lv_aload_n hx hb dX6_count_41 rfl (lv_at hl 1 rfl) ?_
      refine pgQ 6 10 8 (by decide) rfl (by decide) rfl rfl C w hi6 (by decide +kernel) dX6_count_42 (oM6 hM) (hpl.lk.2.2.2.2.2.1) ?_
      refine lv_iload_n hx hb dX6_count_45 rfl (lv_at hl 2 rfl) ?_
      refine lv_rep hqi ?_
      refine lv_iload_n hx hb dX6_count_46 rfl (lv_at hl 3 rfl) ?_
      refine psI C w dX6_count_47 (oM8 hM (by decide)) rfl (nM83 hM) (by omega) (by decide) (fun H locs w => ?_)
      have hpl := hpl.cnt (i := jn i) hqq
      refine lv_aload_n hx hb dX6_count_48 rfl (lv_at hl 1 rfl) ?_
      refine cvI (n := 0) C w hl dX6_count_49 (c_X6_hasRoom l G hM _ nr z hpl) gX6_count_X6_hasRoom rfl (by decide +kernel) rfl rfl (Nat.le_of_ble_eq_true rfl) ⟨by decide, by decide⟩ (by decide) rfl (oM6 hM) (fun v4 S4 H locs hp w => ?_)
      have hpl := hpl.of hp.2
      refine lv_if_ne (tgt := 65) hx hb dX6_count_52 (by decide) (fun c_52 => ?_) (fun c_52 => ?_)
      · refine lv_iload_n hx hb dX6_count_65 rfl (lv_at hl 0 rfl) ?_
        exact hret _ _ _ _ _ _ dX6_count_66 w (by unfold spCount; rw [if_pos hi, if_pos hq]; exact Or.inl ⟨yes_of hp.1 c_52, rfl, hp.2⟩)
      · refine lv_aload_n hx hb dX6_count_55 rfl (lv_at hl 1 rfl) ?_
        refine pgQ 6 10 8 (by decide) rfl (by decide) rfl rfl C w hi6 (by decide +kernel) dX6_count_56 (oM6 hM) (hpl.lk.2.2.2.2.2.1) ?_
        refine lv_iload_n hx hb dX6_count_59 rfl (lv_at hl 2 rfl) ?_
        refine lv_rep hqi ?_
        refine lv_iload_n hx hb dX6_count_60 rfl (lv_at hl 0 rfl) ?_
        refine psI C w dX6_count_61 (oM8 hM (by decide)) rfl (nM83 hM) (by omega) (by decide) (fun H locs w => ?_)
        refine lv_bipush (v := (-16)) hx hb dX6_count_62 (by decide) ?_
        exact hret _ _ _ _ _ _ dX6_count_64 w (by unfold spCount; rw [if_pos hi, if_pos hq]; exact Or.inr ⟨no_of hp.1 c_52, rfl, by have h9 := hp.2.uI 8 3 (jn i) (sI S 8 3 (jn i)); rwa [uI_back] at h9⟩)
    · refine lv_bipush (v := (-3)) hx hb dX6_count_31 (by decide) ?_
      exact hret _ _ _ _ _ _ dX6_count_33 w (by unfold spCount; rw [if_pos hi, if_neg (no_of q2 c_28)]; exact ⟨rfl, eqH.rf S⟩)
  · refine lv_bipush (v := (-2)) hx hb dX6_count_16 (by decide) ?_
    exact hret _ _ _ _ _ _ dX6_count_18 w (by unfold spCount; rw [if_neg (no_of q1 c_13)]; exact ⟨rfl, eqH.rf S⟩)
