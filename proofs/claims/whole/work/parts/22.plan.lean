/-- but for what the Wides hold -/
def eq4 (S S2 : PS) : Prop := sI S2 = sI S ∧ sQ S2 = sQ S ∧ ∀ c r k, c ≠ 4 → sJ S2 c r k = sJ S c r k
theorem eq4.rf (S : PS) : eq4 S S := ⟨rfl, rfl, fun _ _ _ _ => rfl⟩
theorem eq4.tr {S S1 S2 : PS} (h1 : eq4 S S1) (h2 : eq4 S1 S2) : eq4 S S2 := ⟨h2.1.trans h1.1, h2.2.1.trans h1.2.1, fun c r k h => (h2.2.2 c r k h).trans (h1.2.2 c r k h)⟩
theorem eq4.sy {S S1 : PS} (h : eq4 S S1) : eq4 S1 S := ⟨h.1.symm, h.2.1.symm, fun c r k q => (h.2.2 c r k q).symm⟩
theorem eq4_wd (S : PS) (r : Nat) (V : Int) : eq4 S (wd S r V) := ⟨rfl, rfl, fun c r' k h => sJ_wd_n (fun q => h q.1)⟩
theorem eq4.j9 {S S2 : PS} (h : eq4 S S2) (r k : Nat) : sJ S2 9 r k = sJ S 9 r k := h.2.2 9 r k (by decide)
theorem eq4.J9 {S S2 : PS} (h : eq4 S S2) (r : Nat) : sJ S2 9 r = sJ S 9 r := funext fun k => h.j9 r k
theorem eq4.uI {S S2 : PS} (h : eq4 S S2) (c r k : Nat) (v : Int32) : eq4 (uI S c r k v) (uI S2 c r k v) := by
  refine ⟨?_, h.2.1, h.2.2⟩
  funext c' r' k'
  rw [sI_uI, sI_uI, h.1]
theorem eq4.uJ {S S2 : PS} (h : eq4 S S2) (c r k : Nat) (v : Int64) : eq4 (uJ S c r k v) (uJ S2 c r k v) := by
  refine ⟨h.1, h.2.1, fun c' r' k' q => ?_⟩
  rw [sJ_uJ, sJ_uJ, h.2.2 c' r' k' q]
theorem eq4.uQ {S S2 : PS} (h : eq4 S S2) (c r k : Nat) (v : Option Nat) : eq4 (uQ S c r k v) (uQ S2 c r k v) := by
  refine ⟨h.1, ?_, h.2.2⟩
  funext c' r' k'
  rw [sQ_uQ, sQ_uQ, h.2.1]
theorem eq4.lk {S S2 : PS} (h : eq4 S S2) (hS : lkX S) : lkX S2 := lkX_of hS h.2.1
/-- the plan: nr rules, whose weights are the scores wr; its pattern of z levels -/
def plX (S : PS) (nr : Nat) (wr : Nat → Nat) (z : Nat) : Prop := lkX S ∧ sI S 1 0 3 = nI nr ∧ nr ≤ 12 ∧ (∀ i, i < 12 → sQ S 10 1 i = some (wr i) ∧ wr i < 79) ∧ (∀ i, i < nr → 0 ≤ (sI S 8 0 i).toInt ∧ (sI S 8 0 i).toInt ≤ 1000000) ∧ sI S 2 78 2 = nI z ∧ z ≤ 12
theorem plX.of4 {S S2 : PS} {nr z : Nat} {wr : Nat → Nat} (h : plX S nr wr z) (e : eq4 S S2) : plX S2 nr wr z := by
  unfold plX
  rw [e.1, e.2.1]
  exact ⟨e.lk h.1, h.2⟩
theorem plX.lk {S : PS} {nr z : Nat} {wr : Nat → Nat} (h : plX S nr wr z) : lkX S := h.1
theorem plX.n {S : PS} {nr z : Nat} {wr : Nat → Nat} (h : plX S nr wr z) : sI S 1 0 3 = nI nr := h.2.1
theorem plX.n12 {S : PS} {nr z : Nat} {wr : Nat → Nat} (h : plX S nr wr z) : nr ≤ 12 := h.2.2.1
theorem plX.w {S : PS} {nr z : Nat} {wr : Nat → Nat} (h : plX S nr wr z) {i : Nat} (hi : i < 12) : sQ S 10 1 i = some (wr i) := (h.2.2.2.1 i hi).1
theorem plX.w79 {S : PS} {nr z : Nat} {wr : Nat → Nat} (h : plX S nr wr z) {i : Nat} (hi : i < 12) : wr i < 79 := (h.2.2.2.1 i hi).2
theorem plX.c {S : PS} {nr z : Nat} {wr : Nat → Nat} (h : plX S nr wr z) {i : Nat} (hi : i < nr) : 0 ≤ (sI S 8 0 i).toInt ∧ (sI S 8 0 i).toInt ≤ 1000000 := h.2.2.2.2.1 i hi
theorem plX.z {S : PS} {nr z : Nat} {wr : Nat → Nat} (h : plX S nr wr z) : sI S 2 78 2 = nI z := h.2.2.2.2.2.1
theorem plX.z12 {S : PS} {nr z : Nat} {wr : Nat → Nat} (h : plX S nr wr z) : z ≤ 12 := h.2.2.2.2.2.2
/-- the sum of n weights, each so often as counted -/
def sumV (W : Nat → Int64) (C : Nat → Int32) : Nat → Int
  | 0 => 0
  | n + 1 => sumV W C n + (W n).toInt * (C n).toInt
theorem sumV_eq {W W' : Nat → Int64} {C C' : Nat → Int32} : ∀ n : Nat, (∀ i, i < n → W i = W' i ∧ C i = C' i) → sumV W C n = sumV W' C' n := by
  intro n
  induction n with
  | zero => intro _; rfl
  | succ n ih => intro h; unfold sumV; rw [ih (fun i hi => h i (by omega)), (h n (by omega)).1, (h n (by omega)).2]
theorem prod_bd (w : Int64) {c : Int} (hc : 0 ≤ c ∧ c ≤ 1000000) : -9223372036854775808000000 ≤ w.toInt * c ∧ w.toInt * c ≤ 9223372036854775808000000 := by
  have h1 := i64_lo w
  have h2 := i64_hi w
  have e1 := Int.mul_le_mul_of_nonneg_right (show -9223372036854775808 ≤ w.toInt by omega) hc.1
  have e2 := Int.mul_le_mul_of_nonneg_right (show w.toInt ≤ 9223372036854775808 by omega) hc.1
  omega
theorem sumV_bd {W : Nat → Int64} {C : Nat → Int32} : ∀ n : Nat, (∀ i, i < n → 0 ≤ (C i).toInt ∧ (C i).toInt ≤ 1000000) → -9223372036854775808000000 * (n : Int) ≤ sumV W C n ∧ sumV W C n ≤ 9223372036854775808000000 * (n : Int) := by
  intro n
  induction n with
  | zero => intro _; exact ⟨by simp [sumV], by simp [sumV]⟩
  | succ n ih =>
    intro h
    have h1 := ih (fun i hi => h i (by omega))
    have h2 := prod_bd (W n) (h n (by omega))
    unfold sumV
    omega
/-- the sum of the weights on one side, each m times -/
def sumS (W : Nat → Int64) (m : Int) (u : Bool) : Nat → Int
  | 0 => 0
  | n + 1 => sumS W m u n + (if decide (0 < W n) = u then (W n).toInt * m else 0)
theorem sumS_eq {W W' : Nat → Int64} {m : Int} {u : Bool} : ∀ n : Nat, (∀ i, i < n → W i = W' i) → sumS W m u n = sumS W' m u n := by
  intro n
  induction n with
  | zero => intro _; rfl
  | succ n ih => intro h; unfold sumS; rw [ih (fun i hi => h i (by omega)), h n (by omega)]
theorem sumS_bd {W : Nat → Int64} {m : Int} {u : Bool} (hm : 0 ≤ m ∧ m ≤ 1000000) : ∀ n : Nat, -9223372036854775808000000 * (n : Int) ≤ sumS W m u n ∧ sumS W m u n ≤ 9223372036854775808000000 * (n : Int) := by
  intro n
  induction n with
  | zero => exact ⟨by simp [sumS], by simp [sumS]⟩
  | succ n ih =>
    have h2 := prod_bd (W n) hm
    unfold sumS
    split <;> omega
/-- all prices fit -/
def fitA (W : Nat → Int64) (C : Nat → Int32) (nr : Nat) : Prop := (∀ i, i < nr → in64 ((W i).toInt * (C i).toInt)) ∧ in64 (sumV W C nr)
def fitS (S : PS) (nr : Nat) (wr : Nat → Nat) (z : Nat) : Prop := ∀ k, k < z → fitA (fun i => sJ S 9 (wr i) k) (sI S 8 0) nr
theorem fitS_4 {S S2 : PS} (e : eq4 S S2) (nr : Nat) (wr : Nat → Nat) (z : Nat) : fitS S2 nr wr z = fitS S nr wr z := by
  unfold fitS
  rw [e.1]
  have : (fun (k : Nat) => fun i => sJ S2 9 (wr i) k) = fun k => fun i => sJ S 9 (wr i) k := funext fun k => funext fun i => e.j9 _ _
  have h2 : ∀ k, (fun i => sJ S2 9 (wr i) k) = fun i => sJ S 9 (wr i) k := fun k => congrFun this k
  simp only [h2]

set_option maxHeartbeats 4000000 in
set_option maxRecDepth 100000 in
/-- Plan.pricePart -/
theorem c_X1_pricePart (l : Launch) (G : GT) (hX : okX G) (S : PS) (nr z : Nat) (wr : Nat → Nat) (hpl : plX S nr wr z) (i k : Nat) (hi : i < nr) (hk : k < 12) : CtV l G yX1_pricePart wsX1_pricePart (rmK 1 28) [.ref (gA G 1 0), .int (nI i), .int (nI k)] S (fun S2 => S2 = wd S 2 ((sJ S 9 (wr i) k).toInt * (sI S 8 0 i).toInt)) := by
  refine ofCtV (cc := cX1_pricePart) (nL := 3) RX1 (by decide +kernel) rfl rfl (Nat.le_of_ble_eq_true rfl) ?_
  intro p e s m args below meth c A Q ls C w hl hret
  have hx := C.1
  have hb := C.2.1
  have hown := C.2.2.2.1
  have hts := C.2.2.2.2.1
  have hi1 : ∀ w ∈ wsX10, w ∈ wsX1_pricePart := by decide +kernel
  have hi2 : ∀ w ∈ wsX20, w ∈ wsX1_pricePart := by decide +kernel
  have h12 := hpl.n12
  refine lv_aload_n hx hb dX1_pricePart_0 rfl (lv_at hl 0 rfl) ?_
  refine pgQ 1 8 4 (by decide) rfl (by decide) rfl rfl C w hi1 (by decide +kernel) dX1_pricePart_1 (oP1 hX) (hpl.lk.2.2.2.2.2.2.2.2.2.2.2.2.2.2.2) ?_
  refine cvV (n := 0) C w hl dX1_pricePart_4 (c_X4_clear l G hX S 2 (by decide)) gX1_pricePart_X4_clear rfl (by decide +kernel) rfl rfl (Nat.le_of_ble_eq_true rfl) ⟨by decide, by decide⟩ (by decide) rfl (oP4 hX (by decide)) (fun S2 H locs hp w => ?_)
  subst hp
  refine lv_aload_n hx hb dX1_pricePart_7 rfl (lv_at hl 0 rfl) ?_
  refine pgQ 1 8 4 (by decide) rfl (by decide) rfl rfl C w hi1 (by decide +kernel) dX1_pricePart_8 (oP1 hX) (hpl.lk.2.2.2.2.2.2.2.2.2.2.2.2.2.2.2) ?_
  refine lv_aload_n hx hb dX1_pricePart_11 rfl (lv_at hl 0 rfl) ?_
  refine pgQ 1 1 10 (by decide) rfl (by decide) rfl rfl C w hi1 (by decide +kernel) dX1_pricePart_12 (oP1 hX) (hpl.lk.2.2.2.2.2.2.2.2.2.2.2.1) ?_
  refine lv_iload_n hx hb dX1_pricePart_15 rfl (lv_at hl 1 rfl) ?_
  refine paQ C w dX1_pricePart_16 (oP10 hX (by decide)) rfl (oN101 hX) (by omega) (by decide) (r1 := wr i) (hpl.w (by omega)) ?_
  refine pgQ 2 3 9 (by decide) rfl (by decide) rfl rfl C w hi2 (by decide +kernel) dX1_pricePart_17 (oP2 hX (hpl.w79 (by omega))) (r1 := wr i) (lk2 hpl.lk (hpl.w79 (by omega))) ?_
  refine lv_iload_n hx hb dX1_pricePart_20 rfl (lv_at hl 2 rfl) ?_
  refine paJ C w dX1_pricePart_21 (oP9 hX (hpl.w79 (by omega))) rfl (oN9 hX (hpl.w79 (by omega))) (by omega) (by decide) (v := sJ S 9 (wr i) k) (sJ_wd_n (by simp)) ?_
  refine lv_aload_n hx hb dX1_pricePart_22 rfl (lv_at hl 0 rfl) ?_
  refine pgQ 1 2 8 (by decide) rfl (by decide) rfl rfl C w hi1 (by decide +kernel) dX1_pricePart_23 (oP1 hX) (hpl.lk.2.2.2.2.2.2.2.2.2.2.2.2.1) ?_
  refine lv_iload_n hx hb dX1_pricePart_26 rfl (lv_at hl 1 rfl) ?_
  refine paI C w dX1_pricePart_27 (oP8 hX) rfl (oN8 hX) (by omega) (by decide) rfl ?_
  refine lv_i2l hx hb dX1_pricePart_28 rfl ?_
  refine cvV (n := 2) C w hl dX1_pricePart_29 (c_X4_addProduct l G hX _ 2 0 (by decide) (sJ_wd_0 S 2 0) (sJ_wd_1 S 2 0) _ _ (by rw [Int32.toInt_toInt64]; have := hpl.c hi; exact ⟨by rw [sI_wd]; omega, by rw [sI_wd]; omega⟩)) gX1_pricePart_X4_addProduct rfl (by decide +kernel) rfl rfl (Nat.le_of_ble_eq_true rfl) ⟨by decide, by decide⟩ (by decide) rfl (oP4 hX (by decide)) (fun S3 H locs hp w => ?_)
  exact hret _ _ _ _ _ dX1_pricePart_32 w (by rw [hp, wd_wd, Int.zero_add, Int32.toInt_toInt64]; rfl)

set_option maxHeartbeats 4000000 in
set_option maxRecDepth 100000 in
/-- Plan.priceSum -/
theorem c_X1_priceSum (l : Launch) (G : GT) (hX : okX G) (S : PS) (nr z : Nat) (wr : Nat → Nat) (hpl : plX S nr wr z) (k : Nat) (hk : k < 12) : CtV l G yX1_priceSum wsX1_priceSum (rmK 1 28) [.ref (gA G 1 0), .int (nI k)] S (fun S2 => S2 = (wd S 1 (sumV (fun i => sJ S 9 (wr i) k) (sI S 8 0) nr))) := by
  refine ofCtV (cc := cX1_priceSum) (nL := 3) RX1 (by decide +kernel) rfl rfl (Nat.le_of_ble_eq_true rfl) ?_
  intro p e s m args below meth c A Q ls C w hl hret
  have hx := C.1
  have hb := C.2.1
  have hown := C.2.2.2.1
  have hts := C.2.2.2.2.1
  have hi1 : ∀ w ∈ wsX10, w ∈ wsX1_priceSum := by decide +kernel
  have hi2 : ∀ w ∈ wsX20, w ∈ wsX1_priceSum := by decide +kernel
  have h12 := hpl.n12
  refine lv_aload_n hx hb dX1_priceSum_0 rfl (lv_at hl 0 rfl) ?_
  refine pgQ 1 7 4 (by decide) rfl (by decide) rfl rfl C w hi1 (by decide +kernel) dX1_priceSum_1 (oP1 hX) (hpl.lk.2.2.2.2.2.2.2.2.2.2.2.2.2.2.1) ?_
  refine cvV (n := 0) C w hl dX1_priceSum_4 (c_X4_clear l G hX S 1 (by decide)) gX1_priceSum_X4_clear rfl (by decide +kernel) rfl rfl (Nat.le_of_ble_eq_true rfl) ⟨by decide, by decide⟩ (by decide) rfl (oP4 hX (by decide)) (fun S2 H locs hp w => ?_)
  subst hp
  refine lv_iconst (v := 0) hx hb dX1_priceSum_7 (by decide) ?_
  refine lv_istore_n hx hb dX1_priceSum_8 rfl hl (by decide) rfl (fun ls hl => ?_)
  have loop_9 : ∀ (n : Nat) (i : Nat) (H : Heap) (locs : List Loc) (ls : Array Slot), i + n = nr → Wd G A s.heap (wd S 1 (sumV (fun i => sJ S 9 (wr i) k) (sI S 8 0) i)) H locs → lv_has ls 3 [(0, .ref (gA G 1 0)), (1, .int (nI k)), (2, .int (nI i))] → W p l e (rmK 1 28) s m args below meth c H locs 0 0 Q (F0 m 9 ls []) := by
    intro n
    induction n with
    | zero =>
      intro i H locs ls hi w hl
      refine lv_iload_n hx hb dX1_priceSum_9 rfl (lv_at hl 2 rfl) ?_
      refine lv_aload_n hx hb dX1_priceSum_10 rfl (lv_at hl 0 rfl) ?_
      refine pgI 1 3 (by decide) rfl (by decide) (Or.inl rfl) rfl C w hi1 (by decide +kernel) dX1_priceSum_11 (oP1 hX) (v := nI nr) hpl.n ?_
      refine lv_icmp_ge (tgt := 48) hx hb dX1_priceSum_14 (by decide) (fun c_14 => ?_) (fun c_14 => absurd (nI_le (by omega) (by omega)) c_14)
      have e : i = nr := by omega
      subst e
      exact hret _ _ _ _ _ dX1_priceSum_48 w rfl
    | succ n ih =>
      intro i H locs ls hi w hl
      refine lv_iload_n hx hb dX1_priceSum_9 rfl (lv_at hl 2 rfl) ?_
      refine lv_aload_n hx hb dX1_priceSum_10 rfl (lv_at hl 0 rfl) ?_
      refine pgI 1 3 (by decide) rfl (by decide) (Or.inl rfl) rfl C w hi1 (by decide +kernel) dX1_priceSum_11 (oP1 hX) (v := nI nr) hpl.n ?_
      refine lv_icmp_ge (tgt := 48) hx hb dX1_priceSum_14 (by decide) (fun c_14 => absurd c_14 (nI_ge (by omega) (by omega))) (fun c_14 => ?_)
      refine lv_aload_n hx hb dX1_priceSum_17 rfl (lv_at hl 0 rfl) ?_
      refine pgQ 1 7 4 (by decide) rfl (by decide) rfl rfl C w hi1 (by decide +kernel) dX1_priceSum_18 (oP1 hX) (hpl.lk.2.2.2.2.2.2.2.2.2.2.2.2.2.2.1) ?_
      refine lv_aload_n hx hb dX1_priceSum_21 rfl (lv_at hl 0 rfl) ?_
      refine pgQ 1 1 10 (by decide) rfl (by decide) rfl rfl C w hi1 (by decide +kernel) dX1_priceSum_22 (oP1 hX) (hpl.lk.2.2.2.2.2.2.2.2.2.2.2.1) ?_
      refine lv_iload_n hx hb dX1_priceSum_25 rfl (lv_at hl 2 rfl) ?_
      refine paQ C w dX1_priceSum_26 (oP10 hX (by decide)) rfl (oN101 hX) (by omega) (by decide) (r1 := wr i) (hpl.w (by omega)) ?_
      refine pgQ 2 3 9 (by decide) rfl (by decide) rfl rfl C w hi2 (by decide +kernel) dX1_priceSum_27 (oP2 hX (hpl.w79 (by omega))) (r1 := wr i) (lk2 hpl.lk (hpl.w79 (by omega))) ?_
      refine lv_iload_n hx hb dX1_priceSum_30 rfl (lv_at hl 1 rfl) ?_
      refine paJ C w dX1_priceSum_31 (oP9 hX (hpl.w79 (by omega))) rfl (oN9 hX (hpl.w79 (by omega))) (by omega) (by decide) (v := sJ S 9 (wr i) k) (sJ_wd_n (by simp)) ?_
      refine lv_aload_n hx hb dX1_priceSum_32 rfl (lv_at hl 0 rfl) ?_
      refine pgQ 1 2 8 (by decide) rfl (by decide) rfl rfl C w hi1 (by decide +kernel) dX1_priceSum_33 (oP1 hX) (hpl.lk.2.2.2.2.2.2.2.2.2.2.2.2.1) ?_
      refine lv_iload_n hx hb dX1_priceSum_36 rfl (lv_at hl 2 rfl) ?_
      refine paI C w dX1_priceSum_37 (oP8 hX) rfl (oN8 hX) (by omega) (by decide) rfl ?_
      refine lv_i2l hx hb dX1_priceSum_38 rfl ?_
      refine cvV (n := 2) C w hl dX1_priceSum_39 (c_X4_addProduct l G hX _ 1 _ (by decide) (sJ_wd_0 S 1 _) (sJ_wd_1 S 1 _) _ _ (by rw [Int32.toInt_toInt64]; have := hpl.c (i := i) (by omega); exact ⟨by rw [sI_wd]; omega, by rw [sI_wd]; omega⟩)) gX1_priceSum_X4_addProduct rfl (by decide +kernel) rfl rfl (Nat.le_of_ble_eq_true rfl) ⟨by decide, by decide⟩ (by decide) rfl (oP4 hX (by decide)) (fun S3 H locs hp w => ?_)
      rw [wd_wd, Int32.toInt_toInt64] at hp
      subst hp
      refine lv_iinc (v := nI (i + 1)) hx hb dX1_priceSum_42 hl (k := 2) rfl (nI_1 i) (by decide) rfl (fun ls hl => ?_)
      refine lv_goto (tgt := 9) hx hb dX1_priceSum_45 (by decide) ?_
      exact ih (i + 1) _ _ _ (by omega) w (lv_sub hl [1, 2, 0] rfl)
  exact loop_9 nr 0 _ _ _ (by omega) w (lv_sub hl [1, 2, 0] rfl)
