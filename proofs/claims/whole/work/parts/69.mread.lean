abbrev p2M (h : Nat → Int32) (tl : Nat) (s : Nat × Bool) : Nat × Bool := wM h (sTx 0) (fM h tl s)
abbrev p3M (h : Nat → Int32) (tl : Nat) (s : Nat × Bool) : Nat × Bool := fM h tl (p2M h tl s)
abbrev p4M (h : Nat → Int32) (tl : Nat) (s : Nat × Bool) : Nat × Bool := wM h (sTx 1) (p3M h tl s)
abbrev p5M (h : Nat → Int32) (tl : Nat) (s : Nat × Bool) : Nat × Bool := fM h tl (p4M h tl s)
def pnM (h : Nat → Int32) (tl : Nat) (s : Nat × Bool) : (Nat × Bool) × Int32 × List Int64 :=
  if (fM h tl s).2 = false ∧ (fM h tl s).1 < tl then (if (p3M h tl s).2 = false ∧ h (p3M h tl s).1 = 109 then (wM h (sTx 2) (p5M h tl s), nI 2, [nV h tl s.1, nV h tl (p2M h tl s).1, nV h tl (p4M h tl s).1]) else (wM h (sTx 2) (p3M h tl s), nI 1, [nV h tl s.1, nV h tl (p2M h tl s).1]))
  else (fM h tl s, nI 0, [nV h tl s.1])
theorem pnM_0 {h : Nat → Int32} {tl : Nat} {s : Nat × Bool} (q : ¬ ((fM h tl s).2 = false ∧ (fM h tl s).1 < tl)) : pnM h tl s = (fM h tl s, nI 0, [nV h tl s.1]) := if_neg q
theorem pnM_1 {h : Nat → Int32} {tl : Nat} {s : Nat × Bool} (q : (fM h tl s).2 = false ∧ (fM h tl s).1 < tl) (y : ¬ ((p3M h tl s).2 = false ∧ h (p3M h tl s).1 = 109)) : pnM h tl s = (wM h (sTx 2) (p3M h tl s), nI 1, [nV h tl s.1, nV h tl (p2M h tl s).1]) := (if_pos q).trans (if_neg y)
theorem pnM_2 {h : Nat → Int32} {tl : Nat} {s : Nat × Bool} (q : (fM h tl s).2 = false ∧ (fM h tl s).1 < tl) (y : (p3M h tl s).2 = false ∧ h (p3M h tl s).1 = 109) : pnM h tl s = (wM h (sTx 2) (p5M h tl s), nI 2, [nV h tl s.1, nV h tl (p2M h tl s).1, nV h tl (p4M h tl s).1]) := (if_pos q).trans (if_pos y)

set_option maxHeartbeats 4000000 in
set_option maxRecDepth 100000 in
/-- plain -/
theorem c_X6_plain (l : Launch) (G : GT) (hM : okM G) (S : PS) (T : Nat → Int32) (tl n : Nat) (s0 : Nat × Bool) (ht : mst S T tl n s0) (h300 : tl ≤ 300) (hq0 : s0.1 ≤ tl) (hn60 : n < 60)  : CtV l G yX6_plain wsX6_plain (rmK 3 71) [.ref (gA G 6 0)] S (fun S2 => rdP S S2 n (pnM (hr T tl) tl s0).1 (pnM (hr T tl) tl s0).2.1 (if (pnM (hr T tl) tl s0).2.1 = 0 then 0 else 1) (pnM (hr T tl) tl s0).2.2) := by
  refine ofCtV (cc := cX6_plain) (nL := 2) RX6 (by decide +kernel) rfl rfl (Nat.le_of_ble_eq_true rfl) ?_
  intro p e s m args below meth c A Q ls C w hl hret
  have hx := C.1
  have hb := C.2.1
  have hown := C.2.2.2.1
  have hts := C.2.2.2.2.1
  have hi6 : ∀ w ∈ wsX60, w ∈ wsX6_plain := by decide +kernel
  have join_82 : ∀ (shp : Nat) (s6 : Nat × Bool) (S6 : PS) (t : List Int64) (H : Heap) (locs : List Loc) (ls : Array Slot), (rtP S S6 n 0 s6 t) → ((pnM (hr T tl) tl s0) = (s6, nI shp, t)) → (t.length = shp + 1) → Wd G A s.heap S6 H locs → lv_has ls 2 [(0, .ref (gA G 6 0)), (1, .int (nI shp))] → W p l e (rmK 3 71) s m args below meth c H locs 0 0 Q (F0 m 82 ls []) := by
    intro shp s6 S6 t H locs ls hT hR hlen w hl
    have ht9 := hT.1.mst ht
    refine lv_aload_n hx hb dX6_plain_82 rfl (lv_at hl 0 rfl) ?_
    refine pgQ 6 1 8 (by decide) rfl (by decide) rfl rfl C w hi6 (by decide +kernel) dX6_plain_83 (oM6 hM) ht9.1.1 ?_
    refine lv_aload_n hx hb dX6_plain_86 rfl (lv_at hl 0 rfl) ?_
    refine pgI 6 0 (by decide) rfl (by decide) (Or.inl rfl) rfl C w hi6 (by decide +kernel) dX6_plain_87 (oM6 hM) (v := nI n) ht9.2.2.2.1 ?_
    refine lv_iload_n hx hb dX6_plain_90 rfl (lv_at hl 1 rfl) ?_
    refine psI C w dX6_plain_91 (oM8 hM (by decide)) rfl (nM80 hM) (by omega) (by decide) (fun H locs w => ?_)
    refine lv_aload_n hx hb dX6_plain_92 rfl (lv_at hl 0 rfl) ?_
    refine pgQ 6 2 8 (by decide) rfl (by decide) rfl rfl C w hi6 (by decide +kernel) dX6_plain_93 (oM6 hM) ht9.1.2.1 ?_
    refine lv_aload_n hx hb dX6_plain_96 rfl (lv_at hl 0 rfl) ?_
    refine pgI 6 0 (by decide) rfl (by decide) (Or.inl rfl) rfl C w hi6 (by decide +kernel) dX6_plain_97 (oM6 hM) (v := nI n) (by rw [sI_uI, if_neg (by simp)]; exact ht9.2.2.2.1) ?_
    refine lv_iload_n hx hb dX6_plain_100 rfl (lv_at hl 1 rfl) ?_
    refine lv_if_ne (tgt := 108) hx hb dX6_plain_101 (by decide) (fun c_101 => ?_) (fun c_101 => ?_)
    · have hhd : (if nI shp = 0 then 0 else 1 : Nat) = 1 := if_neg c_101
      refine lv_iconst (v := nI 1) hx hb dX6_plain_108 (by decide) ?_
      refine psI C w dX6_plain_109 (oM8 hM (by decide)) rfl (nM81 hM) (by omega) (by decide) (fun H locs w => ?_)
      refine lv_aload_n hx hb dX6_plain_110 rfl (lv_at hl 0 rfl) ?_
      refine pgQ 6 3 8 (by decide) rfl (by decide) rfl rfl C w hi6 (by decide +kernel) dX6_plain_111 (oM6 hM) ht9.1.2.2.1 ?_
      refine lv_aload_n hx hb dX6_plain_114 rfl (lv_at hl 0 rfl) ?_
      refine pgI 6 0 (by decide) rfl (by decide) (Or.inl rfl) rfl C w hi6 (by decide +kernel) dX6_plain_115 (oM6 hM) (v := nI n) (by rw [sI_uI, if_neg (by simp), sI_uI, if_neg (by simp)]; exact ht9.2.2.2.1) ?_
      refine lv_iload_n hx hb dX6_plain_118 rfl (lv_at hl 1 rfl) ?_
      refine lv_iconst (v := 1) hx hb dX6_plain_119 (by decide) ?_
      refine lv_iadd hx hb dX6_plain_120 ?_
      refine psI C w dX6_plain_121 (oM8 hM (by decide)) rfl (nM82 hM) (by omega) (by decide) (fun H locs w => ?_)
      exact hret _ _ _ _ _ dX6_plain_122 w (by rw [hR]; show rdP S _ n s6 (nI shp) (if nI shp = 0 then 0 else 1) t; rw [hhd]; exact rdP_of hT.1.eq ht9 (fun y j hj => by have e := hT.2 y j hj; rw [Nat.zero_add] at e; exact e) (nI shp) _ (by rw [hlen]; exact nI_1 _))
    · have hhd : (if nI shp = 0 then 0 else 1 : Nat) = 0 := if_pos c_101
      refine lv_iconst (v := nI 0) hx hb dX6_plain_104 (by decide) ?_
      refine lv_goto (tgt := 109) hx hb dX6_plain_105 (by decide) ?_
      refine psI C w dX6_plain_109 (oM8 hM (by decide)) rfl (nM81 hM) (by omega) (by decide) (fun H locs w => ?_)
      refine lv_aload_n hx hb dX6_plain_110 rfl (lv_at hl 0 rfl) ?_
      refine pgQ 6 3 8 (by decide) rfl (by decide) rfl rfl C w hi6 (by decide +kernel) dX6_plain_111 (oM6 hM) ht9.1.2.2.1 ?_
      refine lv_aload_n hx hb dX6_plain_114 rfl (lv_at hl 0 rfl) ?_
      refine pgI 6 0 (by decide) rfl (by decide) (Or.inl rfl) rfl C w hi6 (by decide +kernel) dX6_plain_115 (oM6 hM) (v := nI n) (by rw [sI_uI, if_neg (by simp), sI_uI, if_neg (by simp)]; exact ht9.2.2.2.1) ?_
      refine lv_iload_n hx hb dX6_plain_118 rfl (lv_at hl 1 rfl) ?_
      refine lv_iconst (v := 1) hx hb dX6_plain_119 (by decide) ?_
      refine lv_iadd hx hb dX6_plain_120 ?_
      refine psI C w dX6_plain_121 (oM8 hM (by decide)) rfl (nM82 hM) (by omega) (by decide) (fun H locs w => ?_)
      exact hret _ _ _ _ _ dX6_plain_122 w (by rw [hR]; show rdP S _ n s6 (nI shp) (if nI shp = 0 then 0 else 1) t; rw [hhd]; exact rdP_of hT.1.eq ht9 (fun y j hj => by have e := hT.2 y j hj; rw [Nat.zero_add] at e; exact e) (nI shp) _ (by rw [hlen]; exact nI_1 _))
  refine lv_aload_n hx hb dX6_plain_0 rfl (lv_at hl 0 rfl) ?_
  refine cvV (n := 0) C w hl dX6_plain_1 (c_X6_figure l G hM S T tl n s0 ht h300 hq0) gX6_plain_X6_figure rfl (by decide +kernel) rfl rfl (Nat.le_of_ble_eq_true rfl) ⟨by decide, by decide⟩ (by decide) rfl (oM6 hM) (fun S4 H locs hp w => ?_)
  obtain ⟨x4, e4, hx4⟩ := hp
  have ht4 := mst_fig ht e4
  refine lv_aload_n hx hb dX6_plain_4 rfl (lv_at hl 0 rfl) ?_
  refine lv_iconst (v := nI 0) hx hb dX6_plain_5 (by decide) ?_
  refine cvV (n := 1) C w hl dX6_plain_6 (c_X6_level l G hM S4 T tl n (fM (hr T tl) tl s0) ht4 hn60 0 (by omega)) gX6_plain_X6_level rfl (by decide +kernel) rfl rfl (Nat.le_of_ble_eq_true rfl) ⟨by decide, by decide⟩ (by decide) rfl (oM6 hM) (fun S5 H locs hp w => ?_)
  have hT5 : rtP S S5 n 0 (fM (hr T tl) tl s0) [(nV (hr T tl) tl s0.1)] := (rtP.z ht 0).fl (v := (nV (hr T tl) tl s0.1)) e4 hp (fun y => ⟨fM_un y, hx4 (fM_un y) y⟩) (by decide)
  have ht5 := hT5.1.mst ht
  have hle1 : (fM (hr T tl) tl s0).1 ≤ tl := fM_le hq0
  refine lv_iconst (v := nI 0) hx hb dX6_plain_9 (by decide) ?_
  refine lv_istore_n hx hb dX6_plain_10 rfl hl (by decide) rfl (fun ls hl => ?_)
  refine lv_aload_n hx hb dX6_plain_11 rfl (lv_at hl 1 rfl) ?_
  refine pgI 6 21 (by decide) rfl (by decide) (Or.inr rfl) rfl C w hi6 (by decide +kernel) dX6_plain_12 (oM6 hM) (v := bI (fM (hr T tl) tl s0).2) ht5.2.2.2.2.2 ?_
  refine lv_if_ne (tgt := 82) hx hb dX6_plain_15 (by decide) (fun c_15 => ?_) (fun c_15 => ?_)
  · have g1 := hT5
    have g2 : (pnM (hr T tl) tl s0) = ((fM (hr T tl) tl s0), nI 0, [(nV (hr T tl) tl s0.1)]) := pnM_0 (fun y => absurd (y.1.symm.trans (bI_1 c_15)) Bool.false_ne_true)
    have g3 : [(nV (hr T tl) tl s0.1)].length = 0 + 1 := rfl
    exact join_82 _ _ _ _ _ _ _ g1 g2 g3 w (lv_sub hl [1, 0] rfl)
  · have hu1 : (fM (hr T tl) tl s0).2 = false := bI_0.mp c_15
    refine lv_aload_n hx hb dX6_plain_18 rfl (lv_at hl 1 rfl) ?_
    refine pgI 6 20 (by decide) rfl (by decide) (Or.inl rfl) rfl C w hi6 (by decide +kernel) dX6_plain_19 (oM6 hM) (v := nI (fM (hr T tl) tl s0).1) ht5.2.2.2.2.1 ?_
    refine lv_aload_n hx hb dX6_plain_22 rfl (lv_at hl 1 rfl) ?_
    refine pgI 6 13 (by decide) rfl (by decide) (Or.inl rfl) rfl C w hi6 (by decide +kernel) dX6_plain_23 (oM6 hM) (v := nI tl) ht5.2.2.1 ?_
    refine lv_icmp_ge (tgt := 82) hx hb dX6_plain_26 (by decide) (fun c_26 => ?_) (fun c_26 => ?_)
    · have g1 := hT5
      have g2 : (pnM (hr T tl) tl s0) = ((fM (hr T tl) tl s0), nI 0, [(nV (hr T tl) tl s0.1)]) := pnM_0 (fun y => absurd ((nI_leI (a := tl) (b := (fM (hr T tl) tl s0).1) (by omega) (by omega)).mp c_26) (by have := y.2; omega))
      have g3 : [(nV (hr T tl) tl s0.1)].length = 0 + 1 := rfl
      exact join_82 _ _ _ _ _ _ _ g1 g2 g3 w (lv_sub hl [1, 0] rfl)
    · have hq1 : (fM (hr T tl) tl s0).2 = false ∧ (fM (hr T tl) tl s0).1 < tl := ⟨hu1, by have := mt (nI_leI (a := tl) (b := (fM (hr T tl) tl s0).1) (by omega) (by omega)).mpr c_26; omega⟩
      have join_77 : ∀ (shp : Nat) (s6 : Nat × Bool) (S6 : PS) (t : List Int64) (H : Heap) (locs : List Loc) (ls : Array Slot), (rtP S S6 n 0 s6 t) → ((pnM (hr T tl) tl s0) = (wM (hr T tl) (sTx 2) s6, nI shp, t)) → (t.length = shp + 1) → (s6.1 ≤ tl) → Wd G A s.heap S6 H locs → lv_has ls 2 [(0, .ref (gA G 6 0)), (1, .int (nI shp))] → W p l e (rmK 3 71) s m args below meth c H locs 0 0 Q (F0 m 77 ls []) := by
        intro shp s6 S6 t H locs ls hT hR hlen hle w hl
        have ht9 := hT.1.mst ht
        refine lv_aload_n hx hb dX6_plain_77 rfl (lv_at hl 0 rfl) ?_
        refine lv_iconst (v := 2) hx hb dX6_plain_78 (by decide) ?_
        refine cvV (n := 1) C w hl dX6_plain_79 (c_X6_word2 l G hM S6 T tl n s6 ht9 h300 hle) gX6_plain_X6_word rfl (by decide +kernel) rfl rfl (Nat.le_of_ble_eq_true rfl) ⟨by decide, by decide⟩ (by decide) rfl (oM6 hM) (fun S9 H locs hp w => ?_)
        rw [hp] at w
        have g1 := hT.wd (s' := wM (hr T tl) (sTx 2) s6) wM_un
        have g2 := hR
        have g3 := hlen
        exact join_82 _ _ _ _ _ _ _ g1 g2 g3 w (lv_sub hl [0, 1] rfl)
      refine lv_aload_n hx hb dX6_plain_29 rfl (lv_at hl 1 rfl) ?_
      refine lv_iconst (v := 0) hx hb dX6_plain_30 (by decide) ?_
      refine cvV (n := 1) C w hl dX6_plain_31 (c_X6_word0 l G hM S5 T tl n (fM (hr T tl) tl s0) ht5 h300 hle1) gX6_plain_X6_word rfl (by decide +kernel) rfl rfl (Nat.le_of_ble_eq_true rfl) ⟨by decide, by decide⟩ (by decide) rfl (oM6 hM) (fun S9 H locs hp w => ?_)
      rw [hp] at w
      have ht6 := ht5.st (p2M (hr T tl) tl s0)
      have hle2 : (p2M (hr T tl) tl s0).1 ≤ tl := wM_le hle1 (sTx_m1 0 (by decide))
      have hle3 : (p3M (hr T tl) tl s0).1 ≤ tl := fM_le hle2
      refine lv_aload_n hx hb dX6_plain_34 rfl (lv_at hl 1 rfl) ?_
      refine cvV (n := 0) C w hl dX6_plain_35 (c_X6_figure l G hM (stS S5 (p2M (hr T tl) tl s0)) T tl n (p2M (hr T tl) tl s0) ht6 h300 hle2) gX6_plain_X6_figure rfl (by decide +kernel) rfl rfl (Nat.le_of_ble_eq_true rfl) ⟨by decide, by decide⟩ (by decide) rfl (oM6 hM) (fun S4 H locs hp w => ?_)
      obtain ⟨x4, e4, hx4⟩ := hp
      rw [stS_2] at e4
      have ht4 := mst_fig ht5 e4
      refine lv_aload_n hx hb dX6_plain_38 rfl (lv_at hl 1 rfl) ?_
      refine lv_iconst (v := nI 1) hx hb dX6_plain_39 (by decide) ?_
      refine cvV (n := 1) C w hl dX6_plain_40 (c_X6_level l G hM S4 T tl n (p3M (hr T tl) tl s0) ht4 hn60 1 (by omega)) gX6_plain_X6_level rfl (by decide +kernel) rfl rfl (Nat.le_of_ble_eq_true rfl) ⟨by decide, by decide⟩ (by decide) rfl (oM6 hM) (fun S8 H locs hp w => ?_)
      have hT8 : rtP S S8 n 0 (p3M (hr T tl) tl s0) [(nV (hr T tl) tl s0.1), (nV (hr T tl) tl (p2M (hr T tl) tl s0).1)] := hT5.fl (v := (nV (hr T tl) tl (p2M (hr T tl) tl s0).1)) e4 hp (fun y => ⟨wM_un (fM_un y), hx4 (fM_un y) y⟩) (by show 0 + 1 < 12; decide)
      have ht8 := hT8.1.mst ht
      refine lv_iconst (v := nI 1) hx hb dX6_plain_43 (by decide) ?_
      refine lv_istore_n hx hb dX6_plain_44 rfl hl (by decide) rfl (fun ls hl => ?_)
      refine lv_aload_n hx hb dX6_plain_45 rfl (lv_at hl 1 rfl) ?_
      refine pgI 6 21 (by decide) rfl (by decide) (Or.inr rfl) rfl C w hi6 (by decide +kernel) dX6_plain_46 (oM6 hM) (v := bI (p3M (hr T tl) tl s0).2) ht8.2.2.2.2.2 ?_
      refine lv_if_ne (tgt := 77) hx hb dX6_plain_49 (by decide) (fun c_49 => ?_) (fun c_49 => ?_)
      · have g1 := hT8
        have g2 : (pnM (hr T tl) tl s0) = (wM (hr T tl) (sTx 2) (p3M (hr T tl) tl s0), nI 1, [(nV (hr T tl) tl s0.1), (nV (hr T tl) tl (p2M (hr T tl) tl s0).1)]) := pnM_1 hq1 (fun y => absurd (y.1.symm.trans (bI_1 c_49)) Bool.false_ne_true)
        have g3 : [(nV (hr T tl) tl s0.1), (nV (hr T tl) tl (p2M (hr T tl) tl s0).1)].length = 1 + 1 := rfl
        have g4 := hle3
        exact join_77 _ _ _ _ _ _ _ g1 g2 g3 g4 w (lv_sub hl [1, 0] rfl)
      · have hu3 : (p3M (hr T tl) tl s0).2 = false := bI_0.mp c_49
        refine lv_aload_n hx hb dX6_plain_52 rfl (lv_at hl 1 rfl) ?_
        refine cvI (n := 0) C w hl dX6_plain_53 (c_X6_here l G hM S8 T tl n (p3M (hr T tl) tl s0) ht8 h300 hle3) gX6_plain_X6_here rfl (by decide +kernel) rfl rfl (Nat.le_of_ble_eq_true rfl) ⟨by decide, by decide⟩ (by decide) rfl (oM6 hM) (fun v5 S9 H locs hp w => ?_)
        obtain ⟨rfl, e0⟩ := hp
        rw [e0] at w
        refine lv_bipush (v := 109) hx hb dX6_plain_56 (by decide) ?_
        refine lv_icmp_ne (tgt := 77) hx hb dX6_plain_58 (by decide) (fun c_58 => ?_) (fun c_58 => ?_)
        · have g1 := hT8
          have g2 : (pnM (hr T tl) tl s0) = (wM (hr T tl) (sTx 2) (p3M (hr T tl) tl s0), nI 1, [(nV (hr T tl) tl s0.1), (nV (hr T tl) tl (p2M (hr T tl) tl s0).1)]) := pnM_1 hq1 (fun y => c_58 y.2)
          have g3 : [(nV (hr T tl) tl s0.1), (nV (hr T tl) tl (p2M (hr T tl) tl s0).1)].length = 1 + 1 := rfl
          have g4 := hle3
          exact join_77 _ _ _ _ _ _ _ g1 g2 g3 g4 w (lv_sub hl [1, 0] rfl)
        · have hq3 := And.intro hu3 c_58
          refine lv_aload_n hx hb dX6_plain_61 rfl (lv_at hl 1 rfl) ?_
          refine lv_iconst (v := 1) hx hb dX6_plain_62 (by decide) ?_
          refine cvV (n := 1) C w hl dX6_plain_63 (c_X6_word1 l G hM S8 T tl n (p3M (hr T tl) tl s0) ht8 h300 hle3) gX6_plain_X6_word rfl (by decide +kernel) rfl rfl (Nat.le_of_ble_eq_true rfl) ⟨by decide, by decide⟩ (by decide) rfl (oM6 hM) (fun S9 H locs hp w => ?_)
          rw [hp] at w
          have ht6 := ht8.st (p4M (hr T tl) tl s0)
          have hle4 : (p4M (hr T tl) tl s0).1 ≤ tl := wM_le hle3 (sTx_m1 1 (by decide))
          refine lv_aload_n hx hb dX6_plain_66 rfl (lv_at hl 1 rfl) ?_
          refine cvV (n := 0) C w hl dX6_plain_67 (c_X6_figure l G hM (stS S8 (p4M (hr T tl) tl s0)) T tl n (p4M (hr T tl) tl s0) ht6 h300 hle4) gX6_plain_X6_figure rfl (by decide +kernel) rfl rfl (Nat.le_of_ble_eq_true rfl) ⟨by decide, by decide⟩ (by decide) rfl (oM6 hM) (fun S4 H locs hp w => ?_)
          obtain ⟨x4, e4, hx4⟩ := hp
          rw [stS_2] at e4
          have ht4 := mst_fig ht8 e4
          refine lv_aload_n hx hb dX6_plain_70 rfl (lv_at hl 1 rfl) ?_
          refine lv_iconst (v := nI 2) hx hb dX6_plain_71 (by decide) ?_
          refine cvV (n := 1) C w hl dX6_plain_72 (c_X6_level l G hM S4 T tl n (p5M (hr T tl) tl s0) ht4 hn60 2 (by omega)) gX6_plain_X6_level rfl (by decide +kernel) rfl rfl (Nat.le_of_ble_eq_true rfl) ⟨by decide, by decide⟩ (by decide) rfl (oM6 hM) (fun S8 H locs hp w => ?_)
          have g1 : rtP S S8 n 0 (p5M (hr T tl) tl s0) [(nV (hr T tl) tl s0.1), (nV (hr T tl) tl (p2M (hr T tl) tl s0).1), (nV (hr T tl) tl (p4M (hr T tl) tl s0).1)] := hT8.fl (v := (nV (hr T tl) tl (p4M (hr T tl) tl s0).1)) e4 hp (fun y => ⟨wM_un (fM_un y), hx4 (fM_un y) y⟩) (by show 0 + 2 < 12; decide)
          have g2 := pnM_2 hq1 hq3
          have g3 : [(nV (hr T tl) tl s0.1), (nV (hr T tl) tl (p2M (hr T tl) tl s0).1), (nV (hr T tl) tl (p4M (hr T tl) tl s0).1)].length = 2 + 1 := rfl
          have g4 : (p5M (hr T tl) tl s0).1 ≤ tl := fM_le hle4
          refine lv_iconst (v := nI 2) hx hb dX6_plain_75 (by decide) ?_
          refine lv_istore_n hx hb dX6_plain_76 rfl hl (by decide) rfl (fun ls hl => ?_)
          exact join_77 _ _ _ _ _ _ _ g1 g2 g3 g4 w (lv_sub hl [1, 0] rfl)

/-- what the reference reads: place and stuck, shape, hard, levels -/
def rdM (h : Nat → Int32) (tl : Nat) : (Nat × Bool) × Int32 × Nat × List Int64 :=
  if h 0 = 91 then (s4M h tl (0, false), 3, (r1M h tl (0, false)).2.length, (r1M h tl (0, false)).2 ++ (r2M h tl (0, false)).2)
  else ((pnM h tl (0, false)).1, (pnM h tl (0, false)).2.1, (if (pnM h tl (0, false)).2.1 = 0 then 0 else 1), (pnM h tl (0, false)).2.2)
theorem rdM_b {h : Nat → Int32} {tl : Nat} (q : h 0 = 91) : rdM h tl = (s4M h tl (0, false), 3, (r1M h tl (0, false)).2.length, (r1M h tl (0, false)).2 ++ (r2M h tl (0, false)).2) := if_pos q
theorem rdM_p {h : Nat → Int32} {tl : Nat} (q : ¬ h 0 = 91) : rdM h tl = ((pnM h tl (0, false)).1, (pnM h tl (0, false)).2.1, (if (pnM h tl (0, false)).2.1 = 0 then 0 else 1), (pnM h tl (0, false)).2.2) := if_neg q
theorem s3M_un {h : Nat → Int32} {tl : Nat} {s : Nat × Bool} (q : (s3M h tl s).2 = false) : (r2M h tl s).1.2 = false ∧ ¬ (r1M h tl s).2.length + (r2M h tl s).2.length = 0 := by
  have q : ((r2M h tl s).1.2 || decide ((r1M h tl s).2.length + (r2M h tl s).2.length = 0)) = false := q
  rw [Bool.or_eq_false_iff] at q
  exact ⟨q.1, of_decide_eq_false q.2⟩
theorem rdM_len (h : Nat → Int32) (tl : Nat) : (rdM h tl).2.2.2.length ≤ 12 ∧ ((rdM h tl).1.2 = false → 0 < (rdM h tl).2.2.2.length) := by
  by_cases q : h 0 = 91
  · rw [rdM_b q]
    have h1 : (r1M h tl (0, false)).2.length ≤ 6 := rwM_len _
    have h2 : (r2M h tl (0, false)).2.length ≤ 6 := rwM_len _
    refine ⟨by rw [List.length_append]; omega, fun y => ?_⟩
    have := (s3M_un (wM_un y)).2
    rw [List.length_append]
    omega
  · rw [rdM_p q]
    show (pnM h tl (0, false)).2.2.length ≤ 12 ∧ (_ → 0 < (pnM h tl (0, false)).2.2.length)
    unfold pnM
    split
    · split
      · exact ⟨by show 3 ≤ 12; decide, fun _ => by show 0 < 3; decide⟩
      · exact ⟨by show 2 ≤ 12; decide, fun _ => by show 0 < 2; decide⟩
    · exact ⟨by show 1 ≤ 12; decide, fun _ => by show 0 < 1; decide⟩
theorem eqM.ms {S S2 : PS} {T : Nat → Int32} {tl n : Nat} {s s' : Nat × Bool} (h : eqM S S2 n) (ht : mst S T tl n s) (h1 : sI S2 6 0 20 = nI s'.1) (h2 : sI S2 6 0 21 = bI s'.2) : mst S2 T tl n s' :=
  ⟨h.lk ht.1, by rw [← ht.2.1]; exact funext fun j => h.2.1 8 4 j (fun y => y.elim (fun z => absurd z.1 (by decide)) (fun z => absurd z.2.1 (by decide))), by rw [h.n 13 (by decide)]; exact ht.2.2.1, by rw [h.n 0 (by decide)]; exact ht.2.2.2.1, h1, h2⟩
theorem eqM.uI {S S2 : PS} {n : Nat} (h : eqM S S2 n) (c r k : Nat) (v : Int32) : eqM (uI S c r k v) (uI S2 c r k v) n :=
  ⟨h.1, fun c' r' k' q => by rw [sI_uI, sI_uI, h.2.1 c' r' k' q], h.2.2⟩
theorem rdP.hs {S S2 : PS} {n hd : Nat} {s : Nat × Bool} {sh : Int32} {t : List Int64} (h : rdP S S2 n s sh hd t) (hs : s.2 = false) : hsM (uI S 6 0 13 0) (uI S2 6 0 13 0) n sh (nI hd) t.length (fun k => t.getD k 0) :=
  ⟨h.1.uI 6 0 13 0, by rw [sI_uI, if_neg (by simp)]; exact h.2.2.2.1, by rw [sI_uI, if_neg (by simp)]; exact h.2.2.2.2.1, by rw [sI_uI, if_neg (by simp)]; exact h.2.2.2.2.2.1, h.2.2.2.2.2.2 hs⟩

theorem pnM_le {T : Nat → Int32} {tl : Nat} {s : Nat × Bool} (q : s.1 ≤ tl) : (pnM (hr T tl) tl s).1.1 ≤ tl := by
  have h1 : (fM (hr T tl) tl s).1 ≤ tl := fM_le q
  have h2 : (p2M (hr T tl) tl s).1 ≤ tl := wM_le h1 (sTx_m1 0 (by decide))
  have h3 : (p3M (hr T tl) tl s).1 ≤ tl := fM_le h2
  have h4 : (p4M (hr T tl) tl s).1 ≤ tl := wM_le h3 (sTx_m1 1 (by decide))
  have h5 : (p5M (hr T tl) tl s).1 ≤ tl := fM_le h4
  unfold pnM
  split
  · split
    · exact wM_le h5 (sTx_m1 2 (by decide))
    · exact wM_le h3 (sTx_m1 2 (by decide))
  · exact h1
theorem s4M_le {T : Nat → Int32} {tl : Nat} {s : Nat × Bool} (q : s.1 ≤ tl) : (s4M (hr T tl) tl s).1 ≤ tl := by
  have h1 : (wM (hr T tl) [91] s).1 ≤ tl := wM_le q (fun y hy => by cases hy with | head => decide | tail _ h => cases h)
  have h2 : (r1M (hr T tl) tl s).1.1 ≤ tl := rwM_le h1
  have h3 : (wM (hr T tl) (sTx 4) (r1M (hr T tl) tl s).1).1 ≤ tl := wM_le h2 (sTx_m1 4 (by decide))
  have h4 : (r2M (hr T tl) tl s).1.1 ≤ tl := rwM_le h3
  exact wM_le (s := s3M (hr T tl) tl s) h4 (sTx_m1 5 (by decide))

set_option maxHeartbeats 4000000 in
set_option maxRecDepth 100000 in
/-- read -/
theorem c_X6_read (l : Launch) (G : GT) (hM : okM G) (S : PS) (hS : lkM S) (n : Nat) (hn : sI S 6 0 0 = nI n) (hn60 : n ≤ 60) (T : Nat → Int32) (tl : Nat) (hT : sI S 8 4 = T) (htl : sI S 6 0 13 = nI tl) (h300 : tl ≤ 300) : CtI l G yX6_read wsX6_read (rmK 5 115) [.ref (gA G 6 0)] S (fun v S2 => spRead n ((rdM (hr T tl) tl).1.2 = false ∧ (rdM (hr T tl) tl).1.1 = tl) (rdM (hr T tl) tl).1.1 v (S2 = uI S 6 0 13 0) (nwM (uI S 6 0 13 0) S2 n (rdM (hr T tl) tl).2.1 (nI (rdM (hr T tl) tl).2.2.1) (rdM (hr T tl) tl).2.2.2.length (fun k => (rdM (hr T tl) tl).2.2.2.getD k 0)) (eqM (uI S 6 0 13 0) S2 n)) := by
  refine ofCtI (cc := cX6_read) (nL := 3) RX6 (by decide +kernel) rfl rfl (Nat.le_of_ble_eq_true rfl) ?_
  intro p e s m args below meth c A Q ls C w hl hret
  have hx := C.1
  have hb := C.2.1
  have hown := C.2.2.2.1
  have hts := C.2.2.2.2.1
  have hi6 : ∀ w ∈ wsX60, w ∈ wsX6_read := by decide +kernel
  refine lv_aload_n hx hb dX6_read_0 rfl (lv_at hl 0 rfl) ?_
  refine pgI 6 0 (by decide) rfl (by decide) (Or.inl rfl) rfl C w hi6 (by decide +kernel) dX6_read_1 (oM6 hM) (v := nI n) hn ?_
  refine lv_bipush (v := 60) hx hb dX6_read_4 (by decide) ?_
  refine lv_icmp_ne (tgt := 17) hx hb dX6_read_6 (by decide) (fun c_6 => ?_) (fun c_6 => ?_)
  · have hnf : ¬ n = 60 := fun q => c_6 (by rw [q]; rfl)
    have join_54 : ∀ (S5 : PS) (H : Heap) (locs : List Loc) (ls : Array Slot), (rdP S S5 n (rdM (hr T tl) tl).1 (rdM (hr T tl) tl).2.1 (rdM (hr T tl) tl).2.2.1 (rdM (hr T tl) tl).2.2.2) → (mst S5 T tl n (rdM (hr T tl) tl).1) → ((rdM (hr T tl) tl).1.1 ≤ tl) → Wd G A s.heap S5 H locs → lv_has ls 3 [(0, .ref (gA G 6 0))] → W p l e (rmK 5 115) s m args below meth c H locs 0 0 Q (F0 m 54 ls []) := by
      intro S5 H locs ls hD ht9 hle w hl
      have join_89 : ∀ (v4 : Int32) (H : Heap) (locs : List Loc) (ls : Array Slot), ((v4 = 1 ∧ ((rdM (hr T tl) tl).1.2 = false ∧ (rdM (hr T tl) tl).1.1 = tl)) ∨ (v4 = 0 ∧ ¬ ((rdM (hr T tl) tl).1.2 = false ∧ (rdM (hr T tl) tl).1.1 = tl))) → Wd G A s.heap S5 H locs → lv_has ls 3 [(0, .ref (gA G 6 0))] → W p l e (rmK 5 115) s m args below meth c H locs 0 0 Q (F0 m 89 ls [.int v4]) := by
        intro v4 H locs ls h4 w hl
        refine lv_istore_n hx hb dX6_read_89 rfl hl (by decide) rfl (fun ls hl => ?_)
        refine lv_aload_n hx hb dX6_read_90 rfl (lv_at hl 1 rfl) ?_
        refine pgI 6 20 (by decide) rfl (by decide) (Or.inl rfl) rfl C w hi6 (by decide +kernel) dX6_read_91 (oM6 hM) (v := nI (rdM (hr T tl) tl).1.1) ht9.2.2.2.2.1 ?_
        refine lv_istore_n hx hb dX6_read_94 rfl hl (by decide) rfl (fun ls hl => ?_)
        refine lv_aload_n hx hb dX6_read_95 rfl (lv_at hl 2 rfl) ?_
        refine lv_iconst (v := 0) hx hb dX6_read_96 (by decide) ?_
        refine ppI 6 13 (by decide) rfl (by decide) rfl rfl tyX6_ok nmX6 rfl (by decide +kernel) C w hi6 (by decide +kernel) dX6_read_97 (oM6 hM) (fun H locs w => ?_)
        refine lv_iload_n hx hb dX6_read_100 rfl (lv_at hl 1 rfl) ?_
        refine lv_if_eq (tgt := 111) hx hb dX6_read_101 (by decide) (fun c_101 => ?_) (fun c_101 => ?_)
        · have hno := no_of h4 c_101
          refine lv_bipush (v := (-100)) hx hb dX6_read_111 (by decide) ?_
          refine lv_iload_n hx hb dX6_read_113 rfl (lv_at hl 0 rfl) ?_
          refine lv_isub hx hb dX6_read_114 ?_
          exact hret _ _ _ _ _ _ dX6_read_115 w (by unfold spRead; rw [if_neg hnf]; first | exact Or.inr ⟨hno, rfl, hD.1.uI 6 0 13 0⟩ | exact Or.inl ⟨hye, e5, hh.nw (by rw [sI_uI, if_neg (by simp)]; exact hn)⟩)
        · have hye := yes_of h4 c_101
          have hh := hD.hs hye.1
          refine lv_aload_n hx hb dX6_read_104 rfl (lv_at hl 2 rfl) ?_
          refine cvI (n := 0) C w hl dX6_read_105 (c_X6_keepScore l G hM (uI S5 6 0 13 0) n (by rw [sI_uI, if_neg (by simp)]; exact ht9.2.2.2.1) hn60) gX6_read_X6_keepScore rfl (by decide +kernel) rfl rfl (Nat.le_of_ble_eq_true rfl) ⟨by decide, by decide⟩ (by decide) rfl (oM6 hM) (fun v5 S7 H locs hp w => ?_)
          obtain ⟨e5, e6⟩ := hp
          rw [e6] at w
          refine lv_goto (tgt := 115) hx hb dX6_read_108 (by decide) ?_
          exact hret _ _ _ _ _ _ dX6_read_115 w (by unfold spRead; rw [if_neg hnf]; first | exact Or.inr ⟨hno, rfl, hD.1.uI 6 0 13 0⟩ | exact Or.inl ⟨hye, e5, hh.nw (by rw [sI_uI, if_neg (by simp)]; exact hn)⟩)
      refine lv_aload_n hx hb dX6_read_54 rfl (lv_at hl 0 rfl) ?_
      refine pgI 6 21 (by decide) rfl (by decide) (Or.inr rfl) rfl C w hi6 (by decide +kernel) dX6_read_55 (oM6 hM) (v := bI (rdM (hr T tl) tl).1.2) ht9.2.2.2.2.2 ?_
      refine lv_if_ne (tgt := 88) hx hb dX6_read_58 (by decide) (fun c_58 => ?_) (fun c_58 => ?_)
      · have hgo : ((0 : Int32) = 1 ∧ ((rdM (hr T tl) tl).1.2 = false ∧ (rdM (hr T tl) tl).1.1 = tl)) ∨ ((0 : Int32) = 0 ∧ ¬ ((rdM (hr T tl) tl).1.2 = false ∧ (rdM (hr T tl) tl).1.1 = tl)) := Or.inr ⟨rfl, fun y => absurd (y.1.symm.trans (bI_1 c_58)) Bool.false_ne_true⟩
        refine lv_iconst (v := 0) hx hb dX6_read_88 (by decide) ?_
        exact join_89 _ _ _ _ hgo w (lv_sub hl [0] rfl)
      · have hu := bI_0.mp c_58
        refine lv_aload_n hx hb dX6_read_61 rfl (lv_at hl 0 rfl) ?_
        refine pgI 6 20 (by decide) rfl (by decide) (Or.inl rfl) rfl C w hi6 (by decide +kernel) dX6_read_62 (oM6 hM) (v := nI (rdM (hr T tl) tl).1.1) ht9.2.2.2.2.1 ?_
        refine lv_aload_n hx hb dX6_read_65 rfl (lv_at hl 0 rfl) ?_
        refine pgI 6 13 (by decide) rfl (by decide) (Or.inl rfl) rfl C w hi6 (by decide +kernel) dX6_read_66 (oM6 hM) (v := nI tl) ht9.2.2.1 ?_
        refine lv_icmp_ne (tgt := 88) hx hb dX6_read_69 (by decide) (fun c_69 => ?_) (fun c_69 => ?_)
        · have hgo : ((0 : Int32) = 1 ∧ ((rdM (hr T tl) tl).1.2 = false ∧ (rdM (hr T tl) tl).1.1 = tl)) ∨ ((0 : Int32) = 0 ∧ ¬ ((rdM (hr T tl) tl).1.2 = false ∧ (rdM (hr T tl) tl).1.1 = tl)) := Or.inr ⟨rfl, fun y => c_69 (by rw [y.2])⟩
          refine lv_iconst (v := 0) hx hb dX6_read_88 (by decide) ?_
          exact join_89 _ _ _ _ hgo w (lv_sub hl [0] rfl)
        · have hpl := (nI_eq (by omega) (by omega)).mp c_69
          refine lv_aload_n hx hb dX6_read_72 rfl (lv_at hl 0 rfl) ?_
          refine pgQ 6 3 8 (by decide) rfl (by decide) rfl rfl C w hi6 (by decide +kernel) dX6_read_73 (oM6 hM) (ht9.1.2.2.1) ?_
          refine lv_aload_n hx hb dX6_read_76 rfl (lv_at hl 0 rfl) ?_
          refine pgI 6 0 (by decide) rfl (by decide) (Or.inl rfl) rfl C w hi6 (by decide +kernel) dX6_read_77 (oM6 hM) (v := nI n) ht9.2.2.2.1 ?_
          refine paI C w dX6_read_80 (oM8 hM (by decide)) rfl (nM82 hM) (by omega) (by decide) (v := nI (rdM (hr T tl) tl).2.2.2.length) hD.2.2.2.2.2.1 ?_
          refine lv_if_le (tgt := 88) hx hb dX6_read_81 (by decide) (fun c_81 => absurd c_81 (fun y => absurd ((nI_leI (a := (rdM (hr T tl) tl).2.2.2.length) (b := 0) (by have := (rdM_len (hr T tl) tl).1; omega) (by omega)).mp y) (by have := (rdM_len (hr T tl) tl).2 hu; omega))) (fun c_81 => ?_)
          have hgo : ((1 : Int32) = 1 ∧ ((rdM (hr T tl) tl).1.2 = false ∧ (rdM (hr T tl) tl).1.1 = tl)) ∨ ((1 : Int32) = 0 ∧ ¬ ((rdM (hr T tl) tl).1.2 = false ∧ (rdM (hr T tl) tl).1.1 = tl)) := Or.inl ⟨rfl, hu, hpl⟩
          refine lv_iconst (v := 1) hx hb dX6_read_84 (by decide) ?_
          refine lv_goto (tgt := 89) hx hb dX6_read_85 (by decide) ?_
          exact join_89 _ _ _ _ hgo w (lv_sub hl [0] rfl)
    refine lv_aload_n hx hb dX6_read_17 rfl (lv_at hl 0 rfl) ?_
    refine lv_iconst (v := 0) hx hb dX6_read_18 (by decide) ?_
    refine ppI 6 20 (by decide) rfl (by decide) rfl rfl tyX6_ok nmX6 rfl (by decide +kernel) C w hi6 (by decide +kernel) dX6_read_19 (oM6 hM) (fun H locs w => ?_)
    refine lv_aload_n hx hb dX6_read_22 rfl (lv_at hl 0 rfl) ?_
    refine lv_iconst (v := 0) hx hb dX6_read_23 (by decide) ?_
    refine ppZ 6 21 (by decide) rfl (by decide) rfl rfl tyX6_ok nmX6 rfl (by decide +kernel) C w hi6 (by decide +kernel) dX6_read_24 (oM6 hM) (Or.inl rfl) (fun H locs w => ?_)
    have w : Wd G A s.heap (stS S (0, false)) H locs := w
    have ht0 : mst (stS S (0, false)) T tl n (0, false) := ⟨hS, by rw [← hT]; exact funext fun j => by rw [sI_st, if_neg (by simp), if_neg (by simp)], by rw [sI_st, if_neg (by simp), if_neg (by simp)]; exact htl, by rw [sI_st, if_neg (by simp), if_neg (by simp)]; exact hn, by rw [sI_st, if_neg (by simp), if_pos ⟨rfl, rfl, rfl⟩], by rw [sI_st, if_pos ⟨rfl, rfl, rfl⟩]⟩
    refine lv_aload_n hx hb dX6_read_27 rfl (lv_at hl 0 rfl) ?_
    refine lv_iconst (v := 0) hx hb dX6_read_28 (by decide) ?_
    refine lv_iconst (v := 0) hx hb dX6_read_29 (by decide) ?_
    refine lv_iconst (v := 0) hx hb dX6_read_30 (by decide) ?_
    refine cvV (n := 3) C w hl dX6_read_31 (c_X6_lay l G hM (stS S (0, false)) hS n ht0.2.2.2.1 hn60 0 0 0) gX6_read_X6_lay rfl (by decide +kernel) rfl rfl (Nat.le_of_ble_eq_true rfl) ⟨by decide, by decide⟩ (by decide) rfl (oM6 hM) (fun S3 H locs hp w => ?_)
    rw [hp] at w
    have hE2 := eqM_layM (stS S (0, false)) n 0 0 0
    have hE3 : eqM S (layM (stS S (0, false)) n 0 0 0) n := (eqM_st S (0, false) n).tr hE2
    have ht3 : mst (layM (stS S (0, false)) n 0 0 0) T tl n (0, false) := hE2.ms ht0 (by show sI (lh (stS S (0, false)) n 0 0 0) 6 0 20 = _; rw [sI_lh_r (by simp)]; exact ht0.2.2.2.2.1) (by show sI (lh (stS S (0, false)) n 0 0 0) 6 0 21 = _; rw [sI_lh_r (by simp)]; exact ht0.2.2.2.2.2)
    refine lv_aload_n hx hb dX6_read_34 rfl (lv_at hl 0 rfl) ?_
    refine cvI (n := 0) C w hl dX6_read_35 (c_X6_here l G hM (layM (stS S (0, false)) n 0 0 0) T tl n (0, false) ht3 h300 (Nat.zero_le _)) gX6_read_X6_here rfl (by decide +kernel) rfl rfl (Nat.le_of_ble_eq_true rfl) ⟨by decide, by decide⟩ (by decide) rfl (oM6 hM) (fun v5 S9 H locs hp w => ?_)
    obtain ⟨rfl, e0⟩ := hp
    rw [e0] at w
    refine lv_bipush (v := 91) hx hb dX6_read_38 (by decide) ?_
    refine lv_icmp_ne (tgt := 50) hx hb dX6_read_40 (by decide) (fun c_40 => ?_) (fun c_40 => ?_)
    · refine lv_aload_n hx hb dX6_read_50 rfl (lv_at hl 0 rfl) ?_
      refine cvV (n := 0) C w hl dX6_read_51 (c_X6_plain l G hM (layM (stS S (0, false)) n 0 0 0) T tl n (0, false) ht3 h300 (Nat.zero_le _) (by omega)) gX6_read_X6_plain rfl (by decide +kernel) rfl rfl (Nat.le_of_ble_eq_true rfl) ⟨by decide, by decide⟩ (by decide) rfl (oM6 hM) (fun S9 H locs hp w => ?_)
      have g1 : rdP S S9 n (rdM (hr T tl) tl).1 (rdM (hr T tl) tl).2.1 (rdM (hr T tl) tl).2.2.1 (rdM (hr T tl) tl).2.2.2 := by rw [rdM_p c_40]; exact ⟨hE3.tr hp.1, hp.2⟩
      have g2 : mst S9 T tl n (rdM (hr T tl) tl).1 := hp.1.ms ht3 g1.2.1 g1.2.2.1
      have g3 : (rdM (hr T tl) tl).1.1 ≤ tl := by rw [rdM_p c_40]; exact pnM_le (Nat.zero_le _)
      exact join_54 _ _ _ _ g1 g2 g3 w (lv_sub hl [0] rfl)
    · refine lv_aload_n hx hb dX6_read_43 rfl (lv_at hl 0 rfl) ?_
      refine cvV (n := 0) C w hl dX6_read_44 (c_X6_bent l G hM (layM (stS S (0, false)) n 0 0 0) T tl n (0, false) ht3 h300 (Nat.zero_le _) (by omega)) gX6_read_X6_bent rfl (by decide +kernel) rfl rfl (Nat.le_of_ble_eq_true rfl) ⟨by decide, by decide⟩ (by decide) rfl (oM6 hM) (fun S9 H locs hp w => ?_)
      have g1 : rdP S S9 n (rdM (hr T tl) tl).1 (rdM (hr T tl) tl).2.1 (rdM (hr T tl) tl).2.2.1 (rdM (hr T tl) tl).2.2.2 := by rw [rdM_b c_40]; exact ⟨hE3.tr hp.1, hp.2⟩
      have g2 : mst S9 T tl n (rdM (hr T tl) tl).1 := hp.1.ms ht3 g1.2.1 g1.2.2.1
      have g3 : (rdM (hr T tl) tl).1.1 ≤ tl := by rw [rdM_b c_40]; exact s4M_le (Nat.zero_le _)
      refine lv_goto (tgt := 54) hx hb dX6_read_47 (by decide) ?_
      exact join_54 _ _ _ _ g1 g2 g3 w (lv_sub hl [0] rfl)
  · have hnf : n = 60 := (nI_eq (b := 60) (by omega) (by decide)).mp c_6
    refine lv_aload_n hx hb dX6_read_9 rfl (lv_at hl 0 rfl) ?_
    refine lv_iconst (v := 0) hx hb dX6_read_10 (by decide) ?_
    refine ppI 6 13 (by decide) rfl (by decide) rfl rfl tyX6_ok nmX6 rfl (by decide +kernel) C w hi6 (by decide +kernel) dX6_read_11 (oM6 hM) (fun H locs w => ?_)
    refine lv_bipush (v := (-4)) hx hb dX6_read_14 (by decide) ?_
    exact hret _ _ _ _ _ _ dX6_read_16 w (by unfold spRead; rw [if_pos hnf]; exact ⟨rfl, rfl⟩)
