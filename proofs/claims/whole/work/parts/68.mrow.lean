/-! Rows, texts and read, as the reference reads them. -/
def lpM (h : Nat → Int32) (tl : Nat) : Nat → Nat × Bool → (Nat × Bool) × List Int64
  | 0, s => (s, [])
  | k + 1, s => if s.2 = true then (s, []) else if h s.1 = 47 then ((lpM h tl k (fM h tl (s.1 + 1, false))).1, nV h tl (s.1 + 1) :: (lpM h tl k (fM h tl (s.1 + 1, false))).2) else (s, [])
def rwM (h : Nat → Int32) (tl : Nat) (s : Nat × Bool) : (Nat × Bool) × List Int64 := if s.2 = false ∧ h s.1 = 93 then (s, []) else ((lpM h tl 5 (fM h tl s)).1, nV h tl s.1 :: (lpM h tl 5 (fM h tl s)).2)
theorem lpM_st {h : Nat → Int32} {tl f : Nat} {s : Nat × Bool} (q : s.2 = true) : lpM h tl f s = (s, []) := by
  cases f with
  | zero => rfl
  | succ f => exact if_pos q
theorem lpM_ne {h : Nat → Int32} {tl f : Nat} {s : Nat × Bool} (q : ¬ h s.1 = 47) : lpM h tl f s = (s, []) := by
  cases f with
  | zero => rfl
  | succ f =>
    unfold lpM
    by_cases z : s.2 = true
    · rw [if_pos z]
    · rw [if_neg z, if_neg q]
theorem lpM_go {h : Nat → Int32} {tl f : Nat} {s : Nat × Bool} (hu : s.2 = false) (q : h s.1 = 47) : lpM h tl (f + 1) s = ((lpM h tl f (fM h tl (s.1 + 1, false))).1, nV h tl (s.1 + 1) :: (lpM h tl f (fM h tl (s.1 + 1, false))).2) := by
  conv => lhs; unfold lpM
  rw [if_neg (fun z => absurd (hu.symm.trans z) Bool.false_ne_true), if_pos q]
theorem lpM_len {h : Nat → Int32} {tl : Nat} : ∀ (f : Nat) (s : Nat × Bool), (lpM h tl f s).2.length ≤ f := by
  intro f
  induction f with
  | zero => intro s; exact Nat.le_refl 0
  | succ f ih =>
    intro s
    cases hs : s.2 with
    | true => rw [lpM_st hs]; exact Nat.zero_le _
    | false =>
      by_cases q : h s.1 = 47
      · rw [lpM_go hs q]; exact Nat.succ_le_succ (ih _)
      · rw [lpM_ne q]; exact Nat.zero_le _
theorem hr_47 {T : Nat → Int32} {tl p : Nat} {c : Int32} (hc : ¬ c = -1) (q : hr T tl p = c) : p < tl := by
  apply Classical.byContradiction
  intro x
  rw [hr_end (by omega)] at q
  exact hc q.symm
theorem lpM_le {T : Nat → Int32} {tl : Nat} : ∀ (f : Nat) (s : Nat × Bool), s.1 ≤ tl → (lpM (hr T tl) tl f s).1.1 ≤ tl := by
  intro f
  induction f with
  | zero => intro s q; exact q
  | succ f ih =>
    intro s hle
    cases hs : s.2 with
    | true => rw [lpM_st hs]; exact hle
    | false =>
      by_cases q : hr T tl s.1 = 47
      · rw [lpM_go hs q]; exact ih _ (fM_le (hr_47 (by decide) q))
      · rw [lpM_ne q]; exact hle
theorem wM_un {h : Nat → Int32} {w : List Int32} {s : Nat × Bool} (q : (wM h w s).2 = false) : s.2 = false := by
  cases hs : s.2 with
  | false => rfl
  | true => rw [wM_s hs, hs] at q; exact q
theorem fM_un {h : Nat → Int32} {tl : Nat} {s : Nat × Bool} (q : (fM h tl s).2 = false) : s.2 = false := by
  cases hs : s.2 with
  | false => rfl
  | true => rw [fM_s hs, hs] at q; exact q
theorem lpM_un {h : Nat → Int32} {tl f : Nat} {s : Nat × Bool} (q : (lpM h tl f s).1.2 = false) : s.2 = false := by
  cases hs : s.2 with
  | false => rfl
  | true => rw [lpM_st hs] at q; exact hs.symm.trans q
theorem rwM_0 {h : Nat → Int32} {tl : Nat} {s : Nat × Bool} (q : s.2 = false ∧ h s.1 = 93) : rwM h tl s = (s, []) := if_pos q
theorem rwM_1 {h : Nat → Int32} {tl : Nat} {s : Nat × Bool} (q : ¬ (s.2 = false ∧ h s.1 = 93)) : rwM h tl s = ((lpM h tl 5 (fM h tl s)).1, nV h tl s.1 :: (lpM h tl 5 (fM h tl s)).2) := if_neg q
theorem rwM_len {h : Nat → Int32} {tl : Nat} (s : Nat × Bool) : (rwM h tl s).2.length ≤ 6 := by
  by_cases q : s.2 = false ∧ h s.1 = 93
  · rw [rwM_0 q]; exact Nat.zero_le _
  · rw [rwM_1 q]; exact Nat.succ_le_succ (lpM_len 5 _)
theorem rwM_le {T : Nat → Int32} {tl : Nat} {s : Nat × Bool} (hle : s.1 ≤ tl) : (rwM (hr T tl) tl s).1.1 ≤ tl := by
  by_cases q : s.2 = false ∧ hr T tl s.1 = 93
  · rw [rwM_0 q]; exact hle
  · rw [rwM_1 q]; exact lpM_le 5 _ (fM_le hle)
theorem rwM_un {h : Nat → Int32} {tl : Nat} {s : Nat × Bool} (z : (rwM h tl s).1.2 = false) : s.2 = false := by
  by_cases q : s.2 = false ∧ h s.1 = 93
  · exact q.1
  · rw [rwM_1 q] at z; exact fM_un (lpM_un z)
/-- only place, stuck, the number read and levels of score n from a on have changed -/
def rwP (S S2 : PS) (n a : Nat) (s : Nat × Bool) : Prop := sQ S2 = sQ S ∧ sI S2 = sI (stS S s) ∧ ∀ c r k, ¬ (c = 6 ∨ (c = 9 ∧ r = 0 ∧ 12 * n + a ≤ k ∧ k < 12 * n + 12)) → sJ S2 c r k = sJ S c r k
theorem sI_st (S : PS) (s : Nat × Bool) (c r k : Nat) : sI (stS S s) c r k = if c = 6 ∧ r = 0 ∧ k = 21 then bI s.2 else if c = 6 ∧ r = 0 ∧ k = 20 then nI s.1 else sI S c r k := by
  unfold stS
  rw [sI_uI, sI_uI]
theorem sI_st2 {S S2 : PS} {s : Nat × Bool} (h : sI S2 = sI (stS S s)) (s' : Nat × Bool) : sI (stS S2 s') = sI (stS S s') := by
  funext c r k
  rw [sI_st, sI_st, h, sI_st]
  by_cases z1 : c = 6 ∧ r = 0 ∧ k = 21
  · rw [if_pos z1, if_pos z1]
  · rw [if_neg z1, if_neg z1, if_neg z1]
    by_cases z2 : c = 6 ∧ r = 0 ∧ k = 20
    · rw [if_pos z2, if_pos z2]
    · rw [if_neg z2, if_neg z2, if_neg z2]
theorem rwP.rf {S : PS} {T : Nat → Int32} {tl n a : Nat} {s : Nat × Bool} (h : mst S T tl n s) : rwP S S n a s := ⟨rfl, by rw [stS_self h], fun _ _ _ _ => rfl⟩
theorem rwP.st {S S2 : PS} {n a : Nat} {s : Nat × Bool} (h : rwP S S2 n a s) (s' : Nat × Bool) : rwP S (stS S2 s') n a s' := ⟨h.1, sI_st2 h.2.1 s', h.2.2⟩
theorem rwP.mst {S S2 : PS} {T : Nat → Int32} {tl n a : Nat} {s s0 : Nat × Bool} (h : rwP S S2 n a s) (ht : mst S T tl n s0) : mst S2 T tl n s := by
  have e := ht.st s
  exact ⟨lkM_of ht.1 h.1, by rw [h.2.1]; exact e.2.1, by rw [h.2.1]; exact e.2.2.1, by rw [h.2.1]; exact e.2.2.2.1, by rw [h.2.1]; exact e.2.2.2.2.1, by rw [h.2.1]; exact e.2.2.2.2.2⟩
theorem rwP.eq {S S2 : PS} {n a : Nat} {s : Nat × Bool} (h : rwP S S2 n a s) : eqM S S2 n :=
  ⟨h.1, fun c r k q => by rw [h.2.1]; exact (eqM_st S s n).2.1 c r k q, fun c r k q => h.2.2 c r k (fun y => q (y.elim Or.inl (fun z => Or.inr (Or.inr ⟨z.1, z.2.1, by omega, z.2.2.2⟩))))⟩
/-- the same, and the levels from a on are t's while nothing is stuck -/
def rtP (S S2 : PS) (n a : Nat) (s : Nat × Bool) (t : List Int64) : Prop := rwP S S2 n a s ∧ (s.2 = false → ∀ j, j < t.length → sJ S2 9 0 (12 * n + (a + j)) = t.getD j 0)
theorem rtP.z {S : PS} {T : Nat → Int32} {tl n : Nat} {s : Nat × Bool} (h : mst S T tl n s) (a : Nat) : rtP S S n a s [] := ⟨rwP.rf h, fun _ j q => absurd q (Nat.not_lt_zero j)⟩
theorem rtP.wd {S S2 : PS} {n a : Nat} {s : Nat × Bool} {t : List Int64} (h : rtP S S2 n a s t) {s' : Nat × Bool} (hu : s'.2 = false → s.2 = false) : rtP S (stS S2 s') n a s' t := ⟨h.1.st s', fun q => h.2 (hu q)⟩
theorem rtP.fl {S S2 S4 S5 : PS} {n a : Nat} {s s' : Nat × Bool} {t : List Int64} {x v : Int64} (h : rtP S S2 n a s t) (e4 : S4 = uJ (stS S2 s') 6 0 22 x) (e5 : S5 = if s'.2 = true then S4 else uJ S4 9 0 (12 * n + (a + t.length)) (sJ S4 6 0 22)) (hu : s'.2 = false → s.2 = false ∧ x = v) (hk : a + t.length < 12) : rtP S S5 n a s' (t ++ [v]) := by
  have hst := h.1.st s'
  have h4 : rwP S S4 n a s' := by
    rw [e4]
    exact ⟨hst.1, hst.2.1, fun c r k q => by rw [sJ_uJ, if_neg (fun y => q (Or.inl y.1))]; exact hst.2.2 c r k q⟩
  cases hs : s'.2 with
  | true =>
    rw [hs, if_pos rfl] at e5
    rw [e5]
    exact ⟨h4, fun q => absurd (hs.symm.trans q) (by decide)⟩
  | false =>
    rw [hs, if_neg Bool.false_ne_true] at e5
    have hx4 : sJ S4 6 0 22 = x := by rw [e4, sJ_uJ, if_pos ⟨rfl, rfl, rfl⟩]
    obtain ⟨hs0, hxv⟩ := hu hs
    rw [hx4, hxv] at e5
    refine ⟨?_, fun _ j hj => ?_⟩
    · rw [e5]
      exact ⟨h4.1, h4.2.1, fun c r k q => by rw [sJ_uJ, if_neg (fun y => q (Or.inr ⟨y.1, y.2.1, by omega, by omega⟩))]; exact h4.2.2 c r k q⟩
    · rw [List.length_append] at hj
      have hj : j < t.length + 1 := hj
      rw [e5, sJ_uJ]
      by_cases z : j = t.length
      · rw [if_pos ⟨rfl, rfl, by omega⟩, z, getD_last]
      · rw [if_neg (fun y => z (by have := y.2.2; omega)), getD_snoc (by omega), e4, sJ_uJ, if_neg (by simp)]
        exact h.2 hs0 j (by omega)
theorem mst_fig {S S4 : PS} {T : Nat → Int32} {tl n : Nat} {s s' : Nat × Bool} {x : Int64} (h : mst S T tl n s) (e4 : S4 = uJ (stS S s') 6 0 22 x) : mst S4 T tl n s' := by
  rw [e4]
  exact (h.st s').j _ _ _ _
theorem uI_sk {S : PS} {T : Nat → Int32} {tl n : Nat} {s : Nat × Bool} (h : mst S T tl n s) (b : Bool) : uI S 6 0 21 (bI b) = stS S (s.1, b) := by
  rw [← stS_sk, stS_self h]

set_option maxHeartbeats 4000000 in
set_option maxRecDepth 100000 in
/-- row -/
theorem c_X6_row (l : Launch) (G : GT) (hM : okM G) (S : PS) (T : Nat → Int32) (tl n : Nat) (s0 : Nat × Bool) (ht : mst S T tl n s0) (h300 : tl ≤ 300) (hq0 : s0.1 ≤ tl) (hn60 : n < 60) (a : Nat) (ha : a ≤ 6) : CtI l G yX6_row wsX6_row (rmK 3 71) [.ref (gA G 6 0), .int (nI a)] S (fun v S2 => v = nI (rwM (hr T tl) tl s0).2.length ∧ rtP S S2 n a (rwM (hr T tl) tl s0).1 (rwM (hr T tl) tl s0).2) := by
  refine ofCtI (cc := cX6_row) (nL := 3) RX6 (by decide +kernel) rfl rfl (Nat.le_of_ble_eq_true rfl) ?_
  intro p e s m args below meth c A Q ls C w hl hret
  have hx := C.1
  have hb := C.2.1
  have hown := C.2.2.2.1
  have hts := C.2.2.2.2.1
  have hi6 : ∀ w ∈ wsX60, w ∈ wsX6_row := by decide +kernel
  refine lv_iconst (v := 0) hx hb dX6_row_0 (by decide) ?_
  refine lv_istore_n hx hb dX6_row_1 rfl hl (by decide) rfl (fun ls hl => ?_)
  have join_20 : ∀  (H : Heap) (locs : List Loc) (ls : Array Slot), (¬ (s0.2 = false ∧ hr T tl s0.1 = 93)) → Wd G A s.heap S H locs → lv_has ls 3 [(0, .ref (gA G 6 0)), (1, .int (nI a))] → W p l e (rmK 3 71) s m args below meth c H locs 0 0 Q (F0 m 20 ls []) := by
    intro  H locs ls hno w hl
    refine lv_aload_n hx hb dX6_row_20 rfl (lv_at hl 0 rfl) ?_
    refine cvV (n := 0) C w hl dX6_row_21 (c_X6_figure l G hM S T tl n s0 ht h300 hq0) gX6_row_X6_figure rfl (by decide +kernel) rfl rfl (Nat.le_of_ble_eq_true rfl) ⟨by decide, by decide⟩ (by decide) rfl (oM6 hM) (fun S4 H locs hp w => ?_)
    obtain ⟨x4, e4, hx4⟩ := hp
    have ht4 := mst_fig ht e4
    refine lv_aload_n hx hb dX6_row_24 rfl (lv_at hl 0 rfl) ?_
    refine lv_iload_n hx hb dX6_row_25 rfl (lv_at hl 1 rfl) ?_
    refine cvV (n := 1) C w hl dX6_row_26 (c_X6_level l G hM S4 T tl n (fM (hr T tl) tl s0) ht4 hn60 a (by omega)) gX6_row_X6_level rfl (by decide +kernel) rfl rfl (Nat.le_of_ble_eq_true rfl) ⟨by decide, by decide⟩ (by decide) rfl (oM6 hM) (fun S5 H locs hp w => ?_)
    have hT5 := (rtP.z ht a).fl (v := nV (hr T tl) tl s0.1) e4 hp (fun y => ⟨fM_un y, hx4 (fM_un y) y⟩) (by show a + 0 < 12; omega)
    refine lv_iconst (v := nI 1) hx hb dX6_row_29 (by decide) ?_
    refine lv_istore_n hx hb dX6_row_30 rfl hl (by decide) rfl (fun ls hl => ?_)
    have loop_31 : ∀ (f9 : Nat) (t : List Int64) (s1 : Nat × Bool) (S2 : PS) (H : Heap) (locs : List Loc) (ls : Array Slot), (t.length + f9 = 6) → (rtP S S2 n a s1 t) → (s1.1 ≤ tl) → ((rwM (hr T tl) tl s0) = ((lpM (hr T tl) tl f9 s1).1, t ++ (lpM (hr T tl) tl f9 s1).2)) → Wd G A s.heap S2 H locs → lv_has ls 3 [(0, .ref (gA G 6 0)), (1, .int (nI a)), (2, .int (nI t.length))] → W p l e (rmK 3 71) s m args below meth c H locs 0 0 Q (F0 m 31 ls []) := by
      intro f9
      induction f9 with
      | zero =>
        intro t s1 S2 H locs ls h6 hT hle hR w hl
        have ht2 := hT.1.mst ht
        refine lv_aload_n hx hb dX6_row_31 rfl (lv_at hl 0 rfl) ?_
        refine pgI 6 21 (by decide) rfl (by decide) (Or.inr rfl) rfl C w hi6 (by decide +kernel) dX6_row_32 (oM6 hM) (v := bI s1.2) ht2.2.2.2.2.2 ?_
        refine lv_if_ne (tgt := 80) hx hb dX6_row_35 (by decide) (fun c_35 => ?_) (fun c_35 => ?_)
        · have hRe : (rwM (hr T tl) tl s0) = (s1, t) := by rw [hR, lpM_st (bI_1 c_35)]; show (s1, t ++ []) = _; rw [List.append_nil]
          refine lv_iload_n hx hb dX6_row_80 rfl (lv_at hl 2 rfl) ?_
          exact hret _ _ _ _ _ _ dX6_row_81 w (by rw [hRe]; exact ⟨rfl, hT⟩)
        · have hu1 : s1.2 = false := bI_0.mp c_35
          refine lv_aload_n hx hb dX6_row_38 rfl (lv_at hl 0 rfl) ?_
          refine cvI (n := 0) C w hl dX6_row_39 (c_X6_here l G hM S2 T tl n s1 ht2 h300 hle) gX6_row_X6_here rfl (by decide +kernel) rfl rfl (Nat.le_of_ble_eq_true rfl) ⟨by decide, by decide⟩ (by decide) rfl (oM6 hM) (fun v5 S9 H locs hp w => ?_)
          obtain ⟨rfl, e0⟩ := hp
          rw [e0] at w
          refine lv_bipush (v := 47) hx hb dX6_row_42 (by decide) ?_
          refine lv_icmp_ne (tgt := 80) hx hb dX6_row_44 (by decide) (fun c_44 => ?_) (fun c_44 => ?_)
          · have hRe : (rwM (hr T tl) tl s0) = (s1, t) := by rw [hR, lpM_ne c_44]; show (s1, t ++ []) = _; rw [List.append_nil]
            refine lv_iload_n hx hb dX6_row_80 rfl (lv_at hl 2 rfl) ?_
            exact hret _ _ _ _ _ _ dX6_row_81 w (by rw [hRe]; exact ⟨rfl, hT⟩)
          · have hlt : s1.1 + 1 ≤ tl := hr_47 (by decide) c_44
            refine lv_iload_n hx hb dX6_row_47 rfl (lv_at hl 2 rfl) ?_
            refine lv_bipush (v := 6) hx hb dX6_row_48 (by decide) ?_
            refine lv_icmp_ge (tgt := 80) hx hb dX6_row_50 (by decide) (fun c_50 => ?_) (fun c_50 => absurd (nI_le (a := 6) (by omega) (by omega)) c_50)
            have hRe : (rwM (hr T tl) tl s0) = (s1, t) := by rw [hR, show lpM (hr T tl) tl 0 s1 = (s1, []) from rfl]; show (s1, t ++ []) = _; rw [List.append_nil]
            refine lv_iload_n hx hb dX6_row_80 rfl (lv_at hl 2 rfl) ?_
            exact hret _ _ _ _ _ _ dX6_row_81 w (by rw [hRe]; exact ⟨rfl, hT⟩)
      | succ f9 ih =>
        intro t s1 S2 H locs ls h6 hT hle hR w hl
        have ht2 := hT.1.mst ht
        refine lv_aload_n hx hb dX6_row_31 rfl (lv_at hl 0 rfl) ?_
        refine pgI 6 21 (by decide) rfl (by decide) (Or.inr rfl) rfl C w hi6 (by decide +kernel) dX6_row_32 (oM6 hM) (v := bI s1.2) ht2.2.2.2.2.2 ?_
        refine lv_if_ne (tgt := 80) hx hb dX6_row_35 (by decide) (fun c_35 => ?_) (fun c_35 => ?_)
        · have hRe : (rwM (hr T tl) tl s0) = (s1, t) := by rw [hR, lpM_st (bI_1 c_35)]; show (s1, t ++ []) = _; rw [List.append_nil]
          refine lv_iload_n hx hb dX6_row_80 rfl (lv_at hl 2 rfl) ?_
          exact hret _ _ _ _ _ _ dX6_row_81 w (by rw [hRe]; exact ⟨rfl, hT⟩)
        · have hu1 : s1.2 = false := bI_0.mp c_35
          refine lv_aload_n hx hb dX6_row_38 rfl (lv_at hl 0 rfl) ?_
          refine cvI (n := 0) C w hl dX6_row_39 (c_X6_here l G hM S2 T tl n s1 ht2 h300 hle) gX6_row_X6_here rfl (by decide +kernel) rfl rfl (Nat.le_of_ble_eq_true rfl) ⟨by decide, by decide⟩ (by decide) rfl (oM6 hM) (fun v5 S9 H locs hp w => ?_)
          obtain ⟨rfl, e0⟩ := hp
          rw [e0] at w
          refine lv_bipush (v := 47) hx hb dX6_row_42 (by decide) ?_
          refine lv_icmp_ne (tgt := 80) hx hb dX6_row_44 (by decide) (fun c_44 => ?_) (fun c_44 => ?_)
          · have hRe : (rwM (hr T tl) tl s0) = (s1, t) := by rw [hR, lpM_ne c_44]; show (s1, t ++ []) = _; rw [List.append_nil]
            refine lv_iload_n hx hb dX6_row_80 rfl (lv_at hl 2 rfl) ?_
            exact hret _ _ _ _ _ _ dX6_row_81 w (by rw [hRe]; exact ⟨rfl, hT⟩)
          · have hlt : s1.1 + 1 ≤ tl := hr_47 (by decide) c_44
            refine lv_iload_n hx hb dX6_row_47 rfl (lv_at hl 2 rfl) ?_
            refine lv_bipush (v := 6) hx hb dX6_row_48 (by decide) ?_
            refine lv_icmp_ge (tgt := 80) hx hb dX6_row_50 (by decide) (fun c_50 => absurd c_50 (nI_ge (b := 6) (by omega) (by omega))) (fun c_50 => ?_)
            refine lv_aload_n hx hb dX6_row_53 rfl (lv_at hl 0 rfl) ?_
            refine lv_dup hx hb dX6_row_54 rfl ?_
            refine pgI 6 20 (by decide) rfl (by decide) (Or.inl rfl) rfl C w hi6 (by decide +kernel) dX6_row_55 (oM6 hM) (v := nI s1.1) ht2.2.2.2.2.1 ?_
            refine lv_iconst (v := 1) hx hb dX6_row_58 (by decide) ?_
            refine lv_iadd hx hb dX6_row_59 ?_
            refine ppI 6 20 (by decide) rfl (by decide) rfl rfl tyX6_ok nmX6 rfl (by decide +kernel) C w hi6 (by decide +kernel) dX6_row_60 (oM6 hM) (fun H locs w => ?_)
            rw [nI_1, uI_pl ht2, hu1] at w
            refine lv_aload_n hx hb dX6_row_63 rfl (lv_at hl 0 rfl) ?_
            refine cvV (n := 0) C w hl dX6_row_64 (c_X6_figure l G hM (stS S2 (s1.1 + 1, false)) T tl n (s1.1 + 1, false) (ht2.st _) h300 hlt) gX6_row_X6_figure rfl (by decide +kernel) rfl rfl (Nat.le_of_ble_eq_true rfl) ⟨by decide, by decide⟩ (by decide) rfl (oM6 hM) (fun S4 H locs hp w => ?_)
            obtain ⟨x4, e4, hx4⟩ := hp
            rw [stS_2] at e4
            have ht4 := mst_fig ht2 e4
            refine lv_aload_n hx hb dX6_row_67 rfl (lv_at hl 0 rfl) ?_
            refine lv_iload_n hx hb dX6_row_68 rfl (lv_at hl 1 rfl) ?_
            refine lv_iload_n hx hb dX6_row_69 rfl (lv_at hl 2 rfl) ?_
            refine lv_iadd hx hb dX6_row_70 ?_
            rw [nI_add]
            refine cvV (n := 1) C w hl dX6_row_71 (c_X6_level l G hM S4 T tl n (fM (hr T tl) tl (s1.1 + 1, false)) ht4 hn60 (a + t.length) (by omega)) gX6_row_X6_level rfl (by decide +kernel) rfl rfl (Nat.le_of_ble_eq_true rfl) ⟨by decide, by decide⟩ (by decide) rfl (oM6 hM) (fun S5 H locs hp w => ?_)
            have hT5 := hT.fl (v := (nV (hr T tl) tl (s1.1 + 1))) e4 hp (fun y => ⟨hu1, hx4 rfl y⟩) (by omega)
            have hR5 : (rwM (hr T tl) tl s0) = ((lpM (hr T tl) tl f9 (fM (hr T tl) tl (s1.1 + 1, false))).1, (t ++ [(nV (hr T tl) tl (s1.1 + 1))]) ++ (lpM (hr T tl) tl f9 (fM (hr T tl) tl (s1.1 + 1, false))).2) := by rw [hR, lpM_go hu1 c_44, List.append_assoc]; rfl
            refine lv_iinc (v := nI (t ++ [(nV (hr T tl) tl (s1.1 + 1))]).length) hx hb dX6_row_74 hl (k := 2) rfl (by rw [List.length_append]; exact nI_1 _) (by decide) rfl (fun ls hl => ?_)
            refine lv_goto (tgt := 31) hx hb dX6_row_77 (by decide) ?_
            exact ih _ _ S5 _ _ _ (by rw [List.length_append]; show t.length + 1 + f9 = 6; omega) hT5 (fM_le hlt) hR5 w (lv_sub hl [1, 2, 0] rfl)
    exact loop_31 5 [nV (hr T tl) tl s0.1] (fM (hr T tl) tl s0) S5 _ _ _ rfl hT5 (fM_le hq0) (rwM_1 hno) w (lv_sub hl [1, 2, 0] rfl)
  refine lv_aload_n hx hb dX6_row_2 rfl (lv_at hl 1 rfl) ?_
  refine pgI 6 21 (by decide) rfl (by decide) (Or.inr rfl) rfl C w hi6 (by decide +kernel) dX6_row_3 (oM6 hM) (v := bI s0.2) ht.2.2.2.2.2 ?_
  refine lv_if_ne (tgt := 20) hx hb dX6_row_6 (by decide) (fun c_6 => ?_) (fun c_6 => ?_)
  · have hnn : ¬ (s0.2 = false ∧ hr T tl s0.1 = 93) := fun y => absurd (y.1.symm.trans (bI_1 c_6)) Bool.false_ne_true
    exact join_20 _ _ _ hnn w (lv_sub hl [1, 2] rfl)
  · have hun : s0.2 = false := bI_0.mp c_6
    refine lv_aload_n hx hb dX6_row_9 rfl (lv_at hl 1 rfl) ?_
    refine cvI (n := 0) C w hl dX6_row_10 (c_X6_here l G hM S T tl n s0 ht h300 hq0) gX6_row_X6_here rfl (by decide +kernel) rfl rfl (Nat.le_of_ble_eq_true rfl) ⟨by decide, by decide⟩ (by decide) rfl (oM6 hM) (fun v5 S9 H locs hp w => ?_)
    obtain ⟨rfl, e0⟩ := hp
    rw [e0] at w
    refine lv_bipush (v := 93) hx hb dX6_row_13 (by decide) ?_
    refine lv_icmp_ne (tgt := 20) hx hb dX6_row_15 (by decide) (fun c_15 => ?_) (fun c_15 => ?_)
    · have hnn : ¬ (s0.2 = false ∧ hr T tl s0.1 = 93) := fun y => c_15 y.2
      exact join_20 _ _ _ hnn w (lv_sub hl [1, 2] rfl)
    · refine lv_iconst (v := 0) hx hb dX6_row_18 (by decide) ?_
      exact hret _ _ _ _ _ _ dX6_row_19 w (by rw [rwM_0 ⟨hun, c_15⟩]; exact ⟨rfl, rtP.z ht a⟩)

abbrev r1M (h : Nat → Int32) (tl : Nat) (s : Nat × Bool) : (Nat × Bool) × List Int64 := rwM h tl (wM h [91] s)
abbrev r2M (h : Nat → Int32) (tl : Nat) (s : Nat × Bool) : (Nat × Bool) × List Int64 := rwM h tl (wM h (sTx 4) (r1M h tl s).1)
abbrev s3M (h : Nat → Int32) (tl : Nat) (s : Nat × Bool) : Nat × Bool := ((r2M h tl s).1.1, (r2M h tl s).1.2 || decide ((r1M h tl s).2.length + (r2M h tl s).2.length = 0))
abbrev s4M (h : Nat → Int32) (tl : Nat) (s : Nat × Bool) : Nat × Bool := wM h (sTx 5) (s3M h tl s)
/-- a score read at place n -/
def rdP (S S2 : PS) (n : Nat) (s : Nat × Bool) (sh : Int32) (hd : Nat) (t : List Int64) : Prop := eqM S S2 n ∧ sI S2 6 0 20 = nI s.1 ∧ sI S2 6 0 21 = bI s.2 ∧ sI S2 8 0 n = sh ∧ sI S2 8 1 n = nI hd ∧ sI S2 8 2 n = nI t.length ∧ (s.2 = false → ∀ j, j < t.length → sJ S2 9 0 (12 * n + j) = t.getD j 0)
theorem rdP_of {S S2 : PS} {T : Nat → Int32} {tl n : Nat} {s : Nat × Bool} {t : List Int64} (hE : eqM S S2 n) (h : mst S2 T tl n s) (hl : s.2 = false → ∀ j, j < t.length → sJ S2 9 0 (12 * n + j) = t.getD j 0) (sh : Int32) (hd : Nat) {z : Int32} (hz : z = nI t.length) : rdP S (lh S2 n sh (nI hd) z) n s sh hd t :=
  ⟨hE.tr (eqM_lh _ _ _ _ _), by rw [sI_lh_r (by simp)]; exact h.2.2.2.2.1, by rw [sI_lh_r (by simp)]; exact h.2.2.2.2.2, sI_lh0 _ _ _ _ _, sI_lh1 _ _ _ _ _, by rw [sI_lh2, hz], hl⟩
theorem w4M (h : Nat → Int32) (s : Nat × Bool) : wM h [91] (wM h (sTx 0) (wM h [93] s)) = wM h (sTx 4) s := by rw [wM_app, wM_app]; rfl
theorem w5M (h : Nat → Int32) (s : Nat × Bool) : wM h (sTx 2) (wM h [93] s) = wM h (sTx 5) s := by rw [wM_app]; rfl

set_option maxHeartbeats 4000000 in
set_option maxRecDepth 100000 in
/-- bent -/
theorem c_X6_bent (l : Launch) (G : GT) (hM : okM G) (S : PS) (T : Nat → Int32) (tl n : Nat) (s0 : Nat × Bool) (ht : mst S T tl n s0) (h300 : tl ≤ 300) (hq0 : s0.1 ≤ tl) (hn60 : n < 60)  : CtV l G yX6_bent wsX6_bent (rmK 4 93) [.ref (gA G 6 0)] S (fun S2 => rdP S S2 n (s4M (hr T tl) tl s0) 3 (r1M (hr T tl) tl s0).2.length ((r1M (hr T tl) tl s0).2 ++ (r2M (hr T tl) tl s0).2)) := by
  refine ofCtV (cc := cX6_bent) (nL := 3) RX6 (by decide +kernel) rfl rfl (Nat.le_of_ble_eq_true rfl) ?_
  intro p e s m args below meth c A Q ls C w hl hret
  have hx := C.1
  have hb := C.2.1
  have hown := C.2.2.2.1
  have hts := C.2.2.2.2.1
  have hi6 : ∀ w ∈ wsX60, w ∈ wsX6_bent := by decide +kernel
  refine lv_aload_n hx hb dX6_bent_0 rfl (lv_at hl 0 rfl) ?_
  refine lv_bipush (v := 91) hx hb dX6_bent_1 (by decide) ?_
  refine cvV (n := 1) C w hl dX6_bent_3 (c_X6_take l G hM S T tl n s0 ht h300 hq0 91) gX6_bent_X6_take rfl (by decide +kernel) rfl rfl (Nat.le_of_ble_eq_true rfl) ⟨by decide, by decide⟩ (by decide) rfl (oM6 hM) (fun S9 H locs hp w => ?_)
  rw [hp] at w
  have ht1 := ht.st (wM (hr T tl) [91] s0)
  have hq1 : (wM (hr T tl) [91] s0).1 ≤ tl := wM_le hq0 (fun y hy => by cases hy with | head => decide | tail _ h => cases h)
  have hq2 : (r1M (hr T tl) tl s0).1.1 ≤ tl := rwM_le hq1
  refine lv_aload_n hx hb dX6_bent_6 rfl (lv_at hl 0 rfl) ?_
  refine lv_iconst (v := nI 0) hx hb dX6_bent_7 (by decide) ?_
  refine cvI (n := 1) C w hl dX6_bent_8 (c_X6_row l G hM (stS S (wM (hr T tl) [91] s0)) T tl n (wM (hr T tl) [91] s0) ht1 h300 hq1 hn60 0 (by decide)) gX6_bent_X6_row rfl (by decide +kernel) rfl rfl (Nat.le_of_ble_eq_true rfl) ⟨by decide, by decide⟩ (by decide) rfl (oM6 hM) (fun v1 S2 H locs hp w => ?_)
  obtain ⟨rfl, hT1⟩ := hp
  have ht2 := hT1.1.mst ht1
  have hlen1 : (r1M (hr T tl) tl s0).2.length ≤ 6 := rwM_len _
  refine lv_istore_n hx hb dX6_bent_11 rfl hl (by decide) rfl (fun ls hl => ?_)
  refine lv_aload_n hx hb dX6_bent_12 rfl (lv_at hl 1 rfl) ?_
  refine lv_bipush (v := 93) hx hb dX6_bent_13 (by decide) ?_
  refine cvV (n := 1) C w hl dX6_bent_15 (c_X6_take l G hM S2 T tl n (r1M (hr T tl) tl s0).1 ht2 h300 hq2 93) gX6_bent_X6_take rfl (by decide +kernel) rfl rfl (Nat.le_of_ble_eq_true rfl) ⟨by decide, by decide⟩ (by decide) rfl (oM6 hM) (fun S9 H locs hp w => ?_)
  rw [hp] at w
  have ht3 := ht2.st (wM (hr T tl) [93] (r1M (hr T tl) tl s0).1)
  have hq3 : (wM (hr T tl) [93] (r1M (hr T tl) tl s0).1).1 ≤ tl := wM_le hq2 (fun y hy => by cases hy with | head => decide | tail _ h => cases h)
  refine lv_aload_n hx hb dX6_bent_18 rfl (lv_at hl 1 rfl) ?_
  refine lv_iconst (v := 0) hx hb dX6_bent_19 (by decide) ?_
  refine cvV (n := 1) C w hl dX6_bent_20 (c_X6_word0 l G hM (stS S2 (wM (hr T tl) [93] (r1M (hr T tl) tl s0).1)) T tl n (wM (hr T tl) [93] (r1M (hr T tl) tl s0).1) ht3 h300 hq3) gX6_bent_X6_word rfl (by decide +kernel) rfl rfl (Nat.le_of_ble_eq_true rfl) ⟨by decide, by decide⟩ (by decide) rfl (oM6 hM) (fun S9 H locs hp w => ?_)
  rw [hp, stS_2] at w
  have ht4 := ht2.st (wM (hr T tl) (sTx 0) (wM (hr T tl) [93] (r1M (hr T tl) tl s0).1))
  have hq4 : (wM (hr T tl) (sTx 0) (wM (hr T tl) [93] (r1M (hr T tl) tl s0).1)).1 ≤ tl := wM_le hq3 (sTx_m1 0 (by decide))
  refine lv_aload_n hx hb dX6_bent_23 rfl (lv_at hl 1 rfl) ?_
  refine lv_bipush (v := 91) hx hb dX6_bent_24 (by decide) ?_
  refine cvV (n := 1) C w hl dX6_bent_26 (c_X6_take l G hM (stS S2 (wM (hr T tl) (sTx 0) (wM (hr T tl) [93] (r1M (hr T tl) tl s0).1))) T tl n (wM (hr T tl) (sTx 0) (wM (hr T tl) [93] (r1M (hr T tl) tl s0).1)) ht4 h300 hq4 91) gX6_bent_X6_take rfl (by decide +kernel) rfl rfl (Nat.le_of_ble_eq_true rfl) ⟨by decide, by decide⟩ (by decide) rfl (oM6 hM) (fun S9 H locs hp w => ?_)
  rw [hp, stS_2, w4M] at w
  have ht5 := ht2.st (wM (hr T tl) (sTx 4) (r1M (hr T tl) tl s0).1)
  have hq5 : (wM (hr T tl) (sTx 4) (r1M (hr T tl) tl s0).1).1 ≤ tl := wM_le hq2 (sTx_m1 4 (by decide))
  refine lv_aload_n hx hb dX6_bent_29 rfl (lv_at hl 1 rfl) ?_
  refine lv_iload_n hx hb dX6_bent_30 rfl (lv_at hl 0 rfl) ?_
  refine cvI (n := 1) C w hl dX6_bent_31 (c_X6_row l G hM (stS S2 (wM (hr T tl) (sTx 4) (r1M (hr T tl) tl s0).1)) T tl n (wM (hr T tl) (sTx 4) (r1M (hr T tl) tl s0).1) ht5 h300 hq5 hn60 (r1M (hr T tl) tl s0).2.length hlen1) gX6_bent_X6_row rfl (by decide +kernel) rfl rfl (Nat.le_of_ble_eq_true rfl) ⟨by decide, by decide⟩ (by decide) rfl (oM6 hM) (fun v2 S6 H locs hp w => ?_)
  obtain ⟨rfl, hT2⟩ := hp
  have ht6 := hT2.1.mst ht5
  have hlen2 : (r2M (hr T tl) tl s0).2.length ≤ 6 := rwM_len _
  have hq6 : (r2M (hr T tl) tl s0).1.1 ≤ tl := rwM_le hq5
  refine lv_istore_n hx hb dX6_bent_34 rfl hl (by decide) rfl (fun ls hl => ?_)
  have join_54 : ∀ (b3 : Bool) (H : Heap) (locs : List Loc) (ls : Array Slot), (b3 = (s3M (hr T tl) tl s0).2) → Wd G A s.heap S6 H locs → lv_has ls 3 [(0, .ref (gA G 6 0)), (1, .int (nI (r1M (hr T tl) tl s0).2.length)), (2, .int (nI (r2M (hr T tl) tl s0).2.length))] → W p l e (rmK 4 93) s m args below meth c H locs 0 0 Q (F0 m 54 ls [.int (bI b3), .ref (gA G 6 0)]) := by
    intro b3 H locs ls hb3 w hl
    refine ppZ 6 21 (by decide) rfl (by decide) rfl rfl tyX6_ok nmX6 rfl (by decide +kernel) C w hi6 (by decide +kernel) dX6_bent_54 (oM6 hM) (bI_01 b3) (fun H locs w => ?_)
    rw [hb3] at w
    have w : Wd G A s.heap (stS S6 (s3M (hr T tl) tl s0)) H locs := by rw [uI_sk ht6] at w; exact w
    have ht7 := ht6.st (s3M (hr T tl) tl s0)
    refine lv_aload_n hx hb dX6_bent_57 rfl (lv_at hl 0 rfl) ?_
    refine lv_bipush (v := 93) hx hb dX6_bent_58 (by decide) ?_
    refine cvV (n := 1) C w hl dX6_bent_60 (c_X6_take l G hM (stS S6 (s3M (hr T tl) tl s0)) T tl n (s3M (hr T tl) tl s0) ht7 h300 hq6 93) gX6_bent_X6_take rfl (by decide +kernel) rfl rfl (Nat.le_of_ble_eq_true rfl) ⟨by decide, by decide⟩ (by decide) rfl (oM6 hM) (fun S9 H locs hp w => ?_)
    rw [hp, stS_2] at w
    have ht8 := ht6.st (wM (hr T tl) [93] (s3M (hr T tl) tl s0))
    have hq8 : (wM (hr T tl) [93] (s3M (hr T tl) tl s0)).1 ≤ tl := wM_le (s := (s3M (hr T tl) tl s0)) hq6 (fun y hy => by cases hy with | head => decide | tail _ h => cases h)
    refine lv_aload_n hx hb dX6_bent_63 rfl (lv_at hl 0 rfl) ?_
    refine lv_iconst (v := 2) hx hb dX6_bent_64 (by decide) ?_
    refine cvV (n := 1) C w hl dX6_bent_65 (c_X6_word2 l G hM (stS S6 (wM (hr T tl) [93] (s3M (hr T tl) tl s0))) T tl n (wM (hr T tl) [93] (s3M (hr T tl) tl s0)) ht8 h300 hq8) gX6_bent_X6_word rfl (by decide +kernel) rfl rfl (Nat.le_of_ble_eq_true rfl) ⟨by decide, by decide⟩ (by decide) rfl (oM6 hM) (fun S9 H locs hp w => ?_)
    rw [hp, stS_2, w5M] at w
    have ht9 := ht6.st (s4M (hr T tl) tl s0)
    refine lv_aload_n hx hb dX6_bent_68 rfl (lv_at hl 0 rfl) ?_
    refine pgQ 6 1 8 (by decide) rfl (by decide) rfl rfl C w hi6 (by decide +kernel) dX6_bent_69 (oM6 hM) ht9.1.1 ?_
    refine lv_aload_n hx hb dX6_bent_72 rfl (lv_at hl 0 rfl) ?_
    refine pgI 6 0 (by decide) rfl (by decide) (Or.inl rfl) rfl C w hi6 (by decide +kernel) dX6_bent_73 (oM6 hM) (v := nI n) ht9.2.2.2.1 ?_
    refine lv_iconst (v := 3) hx hb dX6_bent_76 (by decide) ?_
    refine psI C w dX6_bent_77 (oM8 hM (by decide)) rfl (nM80 hM) (by omega) (by decide) (fun H locs w => ?_)
    refine lv_aload_n hx hb dX6_bent_78 rfl (lv_at hl 0 rfl) ?_
    refine pgQ 6 2 8 (by decide) rfl (by decide) rfl rfl C w hi6 (by decide +kernel) dX6_bent_79 (oM6 hM) ht9.1.2.1 ?_
    refine lv_aload_n hx hb dX6_bent_82 rfl (lv_at hl 0 rfl) ?_
    refine pgI 6 0 (by decide) rfl (by decide) (Or.inl rfl) rfl C w hi6 (by decide +kernel) dX6_bent_83 (oM6 hM) (v := nI n) (by rw [sI_uI, if_neg (by simp)]; exact ht9.2.2.2.1) ?_
    refine lv_iload_n hx hb dX6_bent_86 rfl (lv_at hl 1 rfl) ?_
    refine psI C w dX6_bent_87 (oM8 hM (by decide)) rfl (nM81 hM) (by omega) (by decide) (fun H locs w => ?_)
    refine lv_aload_n hx hb dX6_bent_88 rfl (lv_at hl 0 rfl) ?_
    refine pgQ 6 3 8 (by decide) rfl (by decide) rfl rfl C w hi6 (by decide +kernel) dX6_bent_89 (oM6 hM) ht9.1.2.2.1 ?_
    refine lv_aload_n hx hb dX6_bent_92 rfl (lv_at hl 0 rfl) ?_
    refine pgI 6 0 (by decide) rfl (by decide) (Or.inl rfl) rfl C w hi6 (by decide +kernel) dX6_bent_93 (oM6 hM) (v := nI n) (by rw [sI_uI, if_neg (by simp), sI_uI, if_neg (by simp)]; exact ht9.2.2.2.1) ?_
    refine lv_iload_n hx hb dX6_bent_96 rfl (lv_at hl 1 rfl) ?_
    refine lv_iload_n hx hb dX6_bent_97 rfl (lv_at hl 2 rfl) ?_
    refine lv_iadd hx hb dX6_bent_98 ?_
    refine psI C w dX6_bent_99 (oM8 hM (by decide)) rfl (nM82 hM) (by omega) (by decide) (fun H locs w => ?_)
    exact hret _ _ _ _ _ dX6_bent_100 w (rdP_of (eqM.tr (eqM.tr (eqM.tr (eqM_st S (wM (hr T tl) [91] s0) n) hT1.1.eq) (eqM_st S2 (wM (hr T tl) (sTx 4) (r1M (hr T tl) tl s0).1) n)) (hT2.1.eq.tr (eqM_st S6 (s4M (hr T tl) tl s0) n))) ht9 (fun y j hj => by
        have y3 : (s3M (hr T tl) tl s0).2 = false := wM_un y
        have y2 : (r2M (hr T tl) tl s0).1.2 = false := by
          cases z : (r2M (hr T tl) tl s0).1.2 with
          | false => rfl
          | true => have y4 : ((r2M (hr T tl) tl s0).1.2 || _) = false := y3; rw [z] at y4; exact absurd y4 (by simp)
        have y1 : (r1M (hr T tl) tl s0).1.2 = false := wM_un (rwM_un y2)
        rw [List.length_append] at hj
        show sJ S6 9 0 (12 * n + j) = _
        by_cases z : j < (r1M (hr T tl) tl s0).2.length
        · rw [getD_l z, hT2.1.2.2 9 0 (12 * n + j) (by omega)]
          have := hT1.2 y1 j z
          rw [Nat.zero_add] at this
          exact this
        · rw [getD_r (by omega)]
          have := hT2.2 y2 (j - (r1M (hr T tl) tl s0).2.length) (by show j - (r1M (hr T tl) tl s0).2.length < (r2M (hr T tl) tl s0).2.length; omega)
          rw [show (r1M (hr T tl) tl s0).2.length + (j - (r1M (hr T tl) tl s0).2.length) = j by omega] at this
          exact this) 3 (r1M (hr T tl) tl s0).2.length (by rw [List.length_append, nI_add]))
  refine lv_aload_n hx hb dX6_bent_35 rfl (lv_at hl 2 rfl) ?_
  refine lv_aload_n hx hb dX6_bent_36 rfl (lv_at hl 2 rfl) ?_
  refine pgI 6 21 (by decide) rfl (by decide) (Or.inr rfl) rfl C w hi6 (by decide +kernel) dX6_bent_37 (oM6 hM) (v := bI (r2M (hr T tl) tl s0).1.2) ht6.2.2.2.2.2 ?_
  refine lv_if_ne (tgt := 49) hx hb dX6_bent_40 (by decide) (fun c_40 => ?_) (fun c_40 => ?_)
  · have hbb : true = (s3M (hr T tl) tl s0).2 := by show true = ((r2M (hr T tl) tl s0).1.2 || _); rw [bI_1 c_40]; rfl
    refine lv_iconst (v := 1) hx hb dX6_bent_49 (by decide) ?_
    refine lv_goto (tgt := 54) hx hb dX6_bent_50 (by decide) ?_
    exact join_54 _ _ _ _ hbb w (lv_sub hl [2, 1, 0] rfl)
  · have hu6 : (r2M (hr T tl) tl s0).1.2 = false := bI_0.mp c_40
    refine lv_iload_n hx hb dX6_bent_43 rfl (lv_at hl 1 rfl) ?_
    refine lv_iload_n hx hb dX6_bent_44 rfl (lv_at hl 0 rfl) ?_
    refine lv_iadd hx hb dX6_bent_45 ?_
    rw [nI_add]
    refine lv_if_ne (tgt := 53) hx hb dX6_bent_46 (by decide) (fun c_46 => ?_) (fun c_46 => ?_)
    · have hbb : false = (s3M (hr T tl) tl s0).2 := by show false = ((r2M (hr T tl) tl s0).1.2 || _); rw [hu6, decide_eq_false (fun y => c_46 (by rw [y]; rfl))]; rfl
      refine lv_iconst (v := 0) hx hb dX6_bent_53 (by decide) ?_
      exact join_54 _ _ _ _ hbb w (lv_sub hl [2, 1, 0] rfl)
    · have hbb : true = (s3M (hr T tl) tl s0).2 := by show true = ((r2M (hr T tl) tl s0).1.2 || _); rw [hu6, decide_eq_true ((nI_eq (a := (r1M (hr T tl) tl s0).2.length + (r2M (hr T tl) tl s0).2.length) (b := 0) (by omega) (by decide)).mp c_46)]; rfl
      refine lv_iconst (v := 1) hx hb dX6_bent_49 (by decide) ?_
      refine lv_goto (tgt := 54) hx hb dX6_bent_50 (by decide) ?_
      exact join_54 _ _ _ _ hbb w (lv_sub hl [2, 1, 0] rfl)
