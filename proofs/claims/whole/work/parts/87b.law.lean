set_option maxHeartbeats 4000000 in
set_option maxRecDepth 100000 in
/-- the law: plan -/
theorem law_plan (l : Launch) {p : Program} {e : Env} {s : State} {m : MethodId} {args : Array Value} {below : List Frame} {meth : Method} {c : Code} {G M : GT} {A : Nat → Prop} {b L : Nat} {xs : Nat → Int32} {k : SK} {a0 a1 a2 : Nat} {S T : PS} {H : Heap} {locs : List Loc} {cells slots : Nat} {Q : State → Prop} {ls : Array Slot} {i : Nat} (hc : LX p l s m args meth c G M A b L xs k a0 a1 a2) (w : Wd G A s.heap S H locs) (u : Wd M A s.heap T H locs) (hr : RR S T) (hl : lv_has ls 8 (LV G M b i)) (hi : i + 5 ≤ L) (hf : cells ≤ room_1.cells ∧ slots ≤ room_1.slots) (K : ∀ S T H locs, Wd G A s.heap S H locs → Wd M A s.heap T H locs → RR S T → W p l e room_1 s m args below meth c H locs cells slots Q (F0 m 872 ls [])) : W p l e room_1 s m args below meth c H locs cells slots Q (F0 m 610 ls []) := by
  have hx := hc.1.1
  have hb := hc.1.2.1
  have hown := hc.1.2.2.2.1
  have hts := hc.1.2.2.2.2.1
  have hL := hc.2.2.2.1.2.2.2
  obtain ⟨hX, hM, hdj, hm79, hN79⟩ := hc.2.2.2.2.1
  obtain ⟨n, nr, nh, z, tl, pl, wr, br, sp, h⟩ := hr
  refine lv_aload_n hx hb dL_law_610 rfl (lv_at hl 1 rfl) ?_
  refine lv_aload_n hx hb dL_law_611 rfl (lv_at hl 0 rfl) ?_
  refine lv_iload hx hb dL_law_612 (lv_at hl 4 rfl) ?_
  refine lv_iconst (v := nI 1) hx hb dL_law_614 (by decide) ?_
  refine lv_iadd hx hb dL_law_615 ?_
  rw [nI_add]
  refine va_sld hx hb hc.2.2.2.1.1 hc.2.2.2.1.2.1 hc.2.2.2.1.2.2.1 w.2.2 (vp_in_nI (show i + 1 < L by omega) (by omega)) dL_law_616 ?_
  rw [nI_clamp (show i + 1 < 2 ^ 31 by omega)]
  refine c2I (n := 1) hc.1 w u hdj hl dL_law_617 (c_X5_plan l G hX S h.lk n h.nm.1 h.nm.2.2 nr h.p.1 (xs (i + 1))) gL_law_X5_plan rfl (by decide +kernel) rfl rfl (Nat.le_of_ble_eq_true rfl) ⟨(Nat.le_of_ble_eq_true rfl), (Nat.le_of_ble_eq_true rfl)⟩ (by decide) rfl (oP5 hX) hf (fun v1 S2 H locs hp1 w u => ?_)
  refine lv_aload_n hx hb dL_law_620 rfl (lv_at hl 2 rfl) ?_
  refine lv_aload_n hx hb dL_law_621 rfl (lv_at hl 0 rfl) ?_
  refine lv_iload hx hb dL_law_622 (lv_at hl 4 rfl) ?_
  refine lv_iconst (v := nI 1) hx hb dL_law_624 (by decide) ?_
  refine lv_iadd hx hb dL_law_625 ?_
  rw [nI_add]
  refine va_sld hx hb hc.2.2.2.1.1 hc.2.2.2.1.2.1 hc.2.2.2.1.2.2.1 w.2.2 (vp_in_nI (show i + 1 < L by omega) (by omega)) dL_law_626 ?_
  rw [nI_clamp (show i + 1 < 2 ^ 31 by omega)]
  refine c2I (n := 1) hc.2.1 u w hdj.sy hl dL_law_627 (c_X6_plan l M hM T h.lm n h.nm.2.1 h.nm.2.2 nr h.p.2.1 (xs (i + 1))) gL_law_X6_plan rfl (by decide +kernel) rfl rfl (Nat.le_of_ble_eq_true rfl) ⟨(Nat.le_of_ble_eq_true rfl), (Nat.le_of_ble_eq_true rfl)⟩ (by decide) rfl (oM6 hM) hf (fun v2 T2 H locs hp2 u w => ?_)
  obtain ⟨ev, hr2⟩ := st_plan h hp1 hp2
  refine lv_icmp_eq (tgt := 872) hx hb dL_law_630 (by decide) (fun c_630 => ?_) (fun c_630 => absurd ev c_630)
  exact K _ _ _ _ w u hr2

set_option maxHeartbeats 4000000 in
set_option maxRecDepth 100000 in
/-- the law: rule -/
theorem law_rule (l : Launch) {p : Program} {e : Env} {s : State} {m : MethodId} {args : Array Value} {below : List Frame} {meth : Method} {c : Code} {G M : GT} {A : Nat → Prop} {b L : Nat} {xs : Nat → Int32} {k : SK} {a0 a1 a2 : Nat} {S T : PS} {H : Heap} {locs : List Loc} {cells slots : Nat} {Q : State → Prop} {ls : Array Slot} {i : Nat} (hc : LX p l s m args meth c G M A b L xs k a0 a1 a2) (w : Wd G A s.heap S H locs) (u : Wd M A s.heap T H locs) (hr : RR S T) (hl : lv_has ls 8 (LV G M b i)) (hi : i + 5 ≤ L) (hf : cells ≤ room_1.cells ∧ slots ≤ room_1.slots) (K : ∀ S T H locs, Wd G A s.heap S H locs → Wd M A s.heap T H locs → RR S T → W p l e room_1 s m args below meth c H locs cells slots Q (F0 m 872 ls [])) : W p l e room_1 s m args below meth c H locs cells slots Q (F0 m 635 ls []) := by
  have hx := hc.1.1
  have hb := hc.1.2.1
  have hown := hc.1.2.2.2.1
  have hts := hc.1.2.2.2.2.1
  have hL := hc.2.2.2.1.2.2.2
  obtain ⟨hX, hM, hdj, hm79, hN79⟩ := hc.2.2.2.2.1
  obtain ⟨n, nr, nh, z, tl, pl, wr, br, sp, h⟩ := hr
  refine lv_aload_n hx hb dL_law_635 rfl (lv_at hl 1 rfl) ?_
  refine lv_aload_n hx hb dL_law_636 rfl (lv_at hl 0 rfl) ?_
  refine lv_iload hx hb dL_law_637 (lv_at hl 4 rfl) ?_
  refine lv_iconst (v := nI 1) hx hb dL_law_639 (by decide) ?_
  refine lv_iadd hx hb dL_law_640 ?_
  rw [nI_add]
  refine va_sld hx hb hc.2.2.2.1.1 hc.2.2.2.1.2.1 hc.2.2.2.1.2.2.1 w.2.2 (vp_in_nI (show i + 1 < L by omega) (by omega)) dL_law_641 ?_
  rw [nI_clamp (show i + 1 < 2 ^ 31 by omega)]
  refine c2I (n := 1) hc.1 w u hdj hl dL_law_642 (c_X5_rule l G hX S n h.nm.1 h.nm.2.2 nr z wr h.plX h.sz (fun i hi => (h.d.1 i hi).1) (xs (i + 1))) gL_law_X5_rule rfl (by decide +kernel) rfl rfl (Nat.le_of_ble_eq_true rfl) ⟨(Nat.le_of_ble_eq_true rfl), (Nat.le_of_ble_eq_true rfl)⟩ (by decide) rfl (oP5 hX) hf (fun v1 S2 H locs hp1 w u => ?_)
  refine lv_aload_n hx hb dL_law_645 rfl (lv_at hl 2 rfl) ?_
  refine lv_aload_n hx hb dL_law_646 rfl (lv_at hl 0 rfl) ?_
  refine lv_iload hx hb dL_law_647 (lv_at hl 4 rfl) ?_
  refine lv_iconst (v := nI 1) hx hb dL_law_649 (by decide) ?_
  refine lv_iadd hx hb dL_law_650 ?_
  rw [nI_add]
  refine va_sld hx hb hc.2.2.2.1.1 hc.2.2.2.1.2.1 hc.2.2.2.1.2.2.1 w.2.2 (vp_in_nI (show i + 1 < L by omega) (by omega)) dL_law_651 ?_
  rw [nI_clamp (show i + 1 < 2 ^ 31 by omega)]
  refine c2I (n := 1) hc.2.1 u w hdj.sy hl dL_law_652 (c_X6_rule l M hM T n h.nm.2.1 h.nm.2.2 nr z h.plM h.ps (xs (i + 1))) gL_law_X6_rule rfl (by decide +kernel) rfl rfl (Nat.le_of_ble_eq_true rfl) ⟨(Nat.le_of_ble_eq_true rfl), (Nat.le_of_ble_eq_true rfl)⟩ (by decide) rfl (oM6 hM) hf (fun v2 T2 H locs hp2 u w => ?_)
  obtain ⟨ev, hr2⟩ := st_rule h hp1 hp2
  refine lv_icmp_eq (tgt := 872) hx hb dL_law_655 (by decide) (fun c_655 => ?_) (fun c_655 => absurd ev c_655)
  exact K _ _ _ _ w u hr2

set_option maxHeartbeats 4000000 in
set_option maxRecDepth 100000 in
/-- the law: count -/
theorem law_count (l : Launch) {p : Program} {e : Env} {s : State} {m : MethodId} {args : Array Value} {below : List Frame} {meth : Method} {c : Code} {G M : GT} {A : Nat → Prop} {b L : Nat} {xs : Nat → Int32} {k : SK} {a0 a1 a2 : Nat} {S T : PS} {H : Heap} {locs : List Loc} {cells slots : Nat} {Q : State → Prop} {ls : Array Slot} {i : Nat} (hc : LX p l s m args meth c G M A b L xs k a0 a1 a2) (w : Wd G A s.heap S H locs) (u : Wd M A s.heap T H locs) (hr : RR S T) (hl : lv_has ls 8 (LV G M b i)) (hi : i + 5 ≤ L) (hf : cells ≤ room_1.cells ∧ slots ≤ room_1.slots) (K : ∀ S T H locs, Wd G A s.heap S H locs → Wd M A s.heap T H locs → RR S T → W p l e room_1 s m args below meth c H locs cells slots Q (F0 m 872 ls [])) : W p l e room_1 s m args below meth c H locs cells slots Q (F0 m 660 ls []) := by
  have hx := hc.1.1
  have hb := hc.1.2.1
  have hown := hc.1.2.2.2.1
  have hts := hc.1.2.2.2.2.1
  have hL := hc.2.2.2.1.2.2.2
  obtain ⟨hX, hM, hdj, hm79, hN79⟩ := hc.2.2.2.2.1
  obtain ⟨n, nr, nh, z, tl, pl, wr, br, sp, h⟩ := hr
  refine lv_aload_n hx hb dL_law_660 rfl (lv_at hl 1 rfl) ?_
  refine lv_aload_n hx hb dL_law_661 rfl (lv_at hl 0 rfl) ?_
  refine lv_iload hx hb dL_law_662 (lv_at hl 4 rfl) ?_
  refine lv_iconst (v := nI 1) hx hb dL_law_664 (by decide) ?_
  refine lv_iadd hx hb dL_law_665 ?_
  rw [nI_add]
  refine va_sld hx hb hc.2.2.2.1.1 hc.2.2.2.1.2.1 hc.2.2.2.1.2.2.1 w.2.2 (vp_in_nI (show i + 1 < L by omega) (by omega)) dL_law_666 ?_
  rw [nI_clamp (show i + 1 < 2 ^ 31 by omega)]
  refine lv_aload_n hx hb dL_law_667 rfl (lv_at hl 0 rfl) ?_
  refine lv_iload hx hb dL_law_668 (lv_at hl 4 rfl) ?_
  refine lv_iconst (v := nI 2) hx hb dL_law_670 (by decide) ?_
  refine lv_iadd hx hb dL_law_671 ?_
  rw [nI_add]
  refine va_sld hx hb hc.2.2.2.1.1 hc.2.2.2.1.2.1 hc.2.2.2.1.2.2.1 w.2.2 (vp_in_nI (show i + 2 < L by omega) (by omega)) dL_law_672 ?_
  rw [nI_clamp (show i + 2 < 2 ^ 31 by omega)]
  refine c2I (n := 2) hc.1 w u hdj hl dL_law_673 (c_X5_count l G hX S nr z wr h.plX (xs (i + 1)) (xs (i + 2))) gL_law_X5_count rfl (by decide +kernel) rfl rfl (Nat.le_of_ble_eq_true rfl) ⟨(Nat.le_of_ble_eq_true rfl), (Nat.le_of_ble_eq_true rfl)⟩ (by decide) rfl (oP5 hX) hf (fun v1 S2 H locs hp1 w u => ?_)
  refine lv_aload_n hx hb dL_law_676 rfl (lv_at hl 2 rfl) ?_
  refine lv_aload_n hx hb dL_law_677 rfl (lv_at hl 0 rfl) ?_
  refine lv_iload hx hb dL_law_678 (lv_at hl 4 rfl) ?_
  refine lv_iconst (v := nI 1) hx hb dL_law_680 (by decide) ?_
  refine lv_iadd hx hb dL_law_681 ?_
  rw [nI_add]
  refine va_sld hx hb hc.2.2.2.1.1 hc.2.2.2.1.2.1 hc.2.2.2.1.2.2.1 w.2.2 (vp_in_nI (show i + 1 < L by omega) (by omega)) dL_law_682 ?_
  rw [nI_clamp (show i + 1 < 2 ^ 31 by omega)]
  refine lv_aload_n hx hb dL_law_683 rfl (lv_at hl 0 rfl) ?_
  refine lv_iload hx hb dL_law_684 (lv_at hl 4 rfl) ?_
  refine lv_iconst (v := nI 2) hx hb dL_law_686 (by decide) ?_
  refine lv_iadd hx hb dL_law_687 ?_
  rw [nI_add]
  refine va_sld hx hb hc.2.2.2.1.1 hc.2.2.2.1.2.1 hc.2.2.2.1.2.2.1 w.2.2 (vp_in_nI (show i + 2 < L by omega) (by omega)) dL_law_688 ?_
  rw [nI_clamp (show i + 2 < 2 ^ 31 by omega)]
  refine c2I (n := 2) hc.2.1 u w hdj.sy hl dL_law_689 (c_X6_count l M hM T nr z h.plM (xs (i + 1)) (xs (i + 2))) gL_law_X6_count rfl (by decide +kernel) rfl rfl (Nat.le_of_ble_eq_true rfl) ⟨(Nat.le_of_ble_eq_true rfl), (Nat.le_of_ble_eq_true rfl)⟩ (by decide) rfl (oM6 hM) hf (fun v2 T2 H locs hp2 u w => ?_)
  obtain ⟨ev, hr2⟩ := st_count h hp1 hp2
  refine lv_icmp_eq (tgt := 872) hx hb dL_law_692 (by decide) (fun c_692 => ?_) (fun c_692 => absurd ev c_692)
  exact K _ _ _ _ w u hr2

set_option maxHeartbeats 4000000 in
set_option maxRecDepth 100000 in
/-- the law: weight -/
theorem law_weight (l : Launch) {p : Program} {e : Env} {s : State} {m : MethodId} {args : Array Value} {below : List Frame} {meth : Method} {c : Code} {G M : GT} {A : Nat → Prop} {b L : Nat} {xs : Nat → Int32} {k : SK} {a0 a1 a2 : Nat} {S T : PS} {H : Heap} {locs : List Loc} {cells slots : Nat} {Q : State → Prop} {ls : Array Slot} {i : Nat} (hc : LX p l s m args meth c G M A b L xs k a0 a1 a2) (w : Wd G A s.heap S H locs) (u : Wd M A s.heap T H locs) (hr : RR S T) (hl : lv_has ls 8 (LV G M b i)) (hi : i + 5 ≤ L) (hf : cells ≤ room_1.cells ∧ slots ≤ room_1.slots) (K : ∀ S T H locs, Wd G A s.heap S H locs → Wd M A s.heap T H locs → RR S T → W p l e room_1 s m args below meth c H locs cells slots Q (F0 m 872 ls [])) : W p l e room_1 s m args below meth c H locs cells slots Q (F0 m 697 ls []) := by
  have hx := hc.1.1
  have hb := hc.1.2.1
  have hown := hc.1.2.2.2.1
  have hts := hc.1.2.2.2.2.1
  have hL := hc.2.2.2.1.2.2.2
  obtain ⟨hX, hM, hdj, hm79, hN79⟩ := hc.2.2.2.2.1
  obtain ⟨n, nr, nh, z, tl, pl, wr, br, sp, h⟩ := hr
  refine lv_aload_n hx hb dL_law_697 rfl (lv_at hl 1 rfl) ?_
  refine lv_aload_n hx hb dL_law_698 rfl (lv_at hl 0 rfl) ?_
  refine lv_iload hx hb dL_law_699 (lv_at hl 4 rfl) ?_
  refine lv_iconst (v := nI 1) hx hb dL_law_701 (by decide) ?_
  refine lv_iadd hx hb dL_law_702 ?_
  rw [nI_add]
  refine va_sld hx hb hc.2.2.2.1.1 hc.2.2.2.1.2.1 hc.2.2.2.1.2.2.1 w.2.2 (vp_in_nI (show i + 1 < L by omega) (by omega)) dL_law_703 ?_
  rw [nI_clamp (show i + 1 < 2 ^ 31 by omega)]
  refine lv_aload_n hx hb dL_law_704 rfl (lv_at hl 0 rfl) ?_
  refine lv_iload hx hb dL_law_705 (lv_at hl 4 rfl) ?_
  refine lv_iconst (v := nI 2) hx hb dL_law_707 (by decide) ?_
  refine lv_iadd hx hb dL_law_708 ?_
  rw [nI_add]
  refine va_sld hx hb hc.2.2.2.1.1 hc.2.2.2.1.2.1 hc.2.2.2.1.2.2.1 w.2.2 (vp_in_nI (show i + 2 < L by omega) (by omega)) dL_law_709 ?_
  rw [nI_clamp (show i + 2 < 2 ^ 31 by omega)]
  refine c2I (n := 2) hc.1 w u hdj hl dL_law_710 (c_X5_weight l G hX S n h.nm.1 h.nm.2.2 nr z wr h.plX sp h.q.2.2 h.d.2.2.1.1 h.d.2.2.1.2 (xs (i + 1)) (xs (i + 2))) gL_law_X5_weight rfl (by decide +kernel) rfl rfl (Nat.le_of_ble_eq_true rfl) ⟨(Nat.le_of_ble_eq_true rfl), (Nat.le_of_ble_eq_true rfl)⟩ (by decide) rfl (oP5 hX) hf (fun v1 S2 H locs hp1 w u => ?_)
  refine lv_aload_n hx hb dL_law_713 rfl (lv_at hl 2 rfl) ?_
  refine lv_aload_n hx hb dL_law_714 rfl (lv_at hl 0 rfl) ?_
  refine lv_iload hx hb dL_law_715 (lv_at hl 4 rfl) ?_
  refine lv_iconst (v := nI 1) hx hb dL_law_717 (by decide) ?_
  refine lv_iadd hx hb dL_law_718 ?_
  rw [nI_add]
  refine va_sld hx hb hc.2.2.2.1.1 hc.2.2.2.1.2.1 hc.2.2.2.1.2.2.1 w.2.2 (vp_in_nI (show i + 1 < L by omega) (by omega)) dL_law_719 ?_
  rw [nI_clamp (show i + 1 < 2 ^ 31 by omega)]
  refine lv_aload_n hx hb dL_law_720 rfl (lv_at hl 0 rfl) ?_
  refine lv_iload hx hb dL_law_721 (lv_at hl 4 rfl) ?_
  refine lv_iconst (v := nI 2) hx hb dL_law_723 (by decide) ?_
  refine lv_iadd hx hb dL_law_724 ?_
  rw [nI_add]
  refine va_sld hx hb hc.2.2.2.1.1 hc.2.2.2.1.2.1 hc.2.2.2.1.2.2.1 w.2.2 (vp_in_nI (show i + 2 < L by omega) (by omega)) dL_law_725 ?_
  rw [nI_clamp (show i + 2 < 2 ^ 31 by omega)]
  refine c2I (n := 2) hc.2.1 u w hdj.sy hl dL_law_726 (c_X6_weight l M hM T n h.nm.2.1 h.nm.2.2 nr z h.plM h.ps (xs (i + 1)) (xs (i + 2))) gL_law_X6_weight rfl (by decide +kernel) rfl rfl (Nat.le_of_ble_eq_true rfl) ⟨(Nat.le_of_ble_eq_true rfl), (Nat.le_of_ble_eq_true rfl)⟩ (by decide) rfl (oM6 hM) hf (fun v2 T2 H locs hp2 u w => ?_)
  obtain ⟨ev, hr2⟩ := st_weight h hp1 hp2
  refine lv_icmp_eq (tgt := 872) hx hb dL_law_729 (by decide) (fun c_729 => ?_) (fun c_729 => absurd ev c_729)
  exact K _ _ _ _ w u hr2

set_option maxHeartbeats 4000000 in
set_option maxRecDepth 100000 in
/-- the law: total -/
theorem law_total (l : Launch) {p : Program} {e : Env} {s : State} {m : MethodId} {args : Array Value} {below : List Frame} {meth : Method} {c : Code} {G M : GT} {A : Nat → Prop} {b L : Nat} {xs : Nat → Int32} {k : SK} {a0 a1 a2 : Nat} {S T : PS} {H : Heap} {locs : List Loc} {cells slots : Nat} {Q : State → Prop} {ls : Array Slot} {i : Nat} (hc : LX p l s m args meth c G M A b L xs k a0 a1 a2) (w : Wd G A s.heap S H locs) (u : Wd M A s.heap T H locs) (hr : RR S T) (hl : lv_has ls 8 (LV G M b i)) (hi : i + 5 ≤ L) (hf : cells ≤ room_1.cells ∧ slots ≤ room_1.slots) (K : ∀ S T H locs, Wd G A s.heap S H locs → Wd M A s.heap T H locs → RR S T → W p l e room_1 s m args below meth c H locs cells slots Q (F0 m 872 ls [])) : W p l e room_1 s m args below meth c H locs cells slots Q (F0 m 734 ls []) := by
  have hx := hc.1.1
  have hb := hc.1.2.1
  have hown := hc.1.2.2.2.1
  have hts := hc.1.2.2.2.2.1
  have hL := hc.2.2.2.1.2.2.2
  obtain ⟨hX, hM, hdj, hm79, hN79⟩ := hc.2.2.2.2.1
  obtain ⟨n, nr, nh, z, tl, pl, wr, br, sp, h⟩ := hr
  refine lv_aload_n hx hb dL_law_734 rfl (lv_at hl 1 rfl) ?_
  refine lv_aload_n hx hb dL_law_735 rfl (lv_at hl 0 rfl) ?_
  refine lv_iload hx hb dL_law_736 (lv_at hl 4 rfl) ?_
  refine lv_iconst (v := nI 1) hx hb dL_law_738 (by decide) ?_
  refine lv_iadd hx hb dL_law_739 ?_
  rw [nI_add]
  refine va_sld hx hb hc.2.2.2.1.1 hc.2.2.2.1.2.1 hc.2.2.2.1.2.2.1 w.2.2 (vp_in_nI (show i + 1 < L by omega) (by omega)) dL_law_740 ?_
  rw [nI_clamp (show i + 1 < 2 ^ 31 by omega)]
  refine c2I (n := 1) hc.1 w u hdj hl dL_law_741 (c_X5_total l G hX S n h.nm.1 h.nm.2.2 nr z wr h.plX (fun i hi => (h.d.1 i hi).1) (xs (i + 1))) gL_law_X5_total rfl (by decide +kernel) rfl rfl (Nat.le_of_ble_eq_true rfl) ⟨(Nat.le_of_ble_eq_true rfl), (Nat.le_of_ble_eq_true rfl)⟩ (by decide) rfl (oP5 hX) hf (fun v1 S2 H locs hp1 w u => ?_)
  refine lv_aload_n hx hb dL_law_744 rfl (lv_at hl 2 rfl) ?_
  refine lv_aload_n hx hb dL_law_745 rfl (lv_at hl 0 rfl) ?_
  refine lv_iload hx hb dL_law_746 (lv_at hl 4 rfl) ?_
  refine lv_iconst (v := nI 1) hx hb dL_law_748 (by decide) ?_
  refine lv_iadd hx hb dL_law_749 ?_
  rw [nI_add]
  refine va_sld hx hb hc.2.2.2.1.1 hc.2.2.2.1.2.1 hc.2.2.2.1.2.2.1 w.2.2 (vp_in_nI (show i + 1 < L by omega) (by omega)) dL_law_750 ?_
  rw [nI_clamp (show i + 1 < 2 ^ 31 by omega)]
  refine c2I (n := 1) hc.2.1 u w hdj.sy hl dL_law_751 (c_X6_total l M hM T n h.nm.2.1 h.nm.2.2 nr z h.plM (xs (i + 1))) gL_law_X6_total rfl (by decide +kernel) rfl rfl (Nat.le_of_ble_eq_true rfl) ⟨(Nat.le_of_ble_eq_true rfl), (Nat.le_of_ble_eq_true rfl)⟩ (by decide) rfl (oM6 hM) hf (fun v2 T2 H locs hp2 u w => ?_)
  obtain ⟨ev, hr2⟩ := st_total h hp1 hp2
  refine lv_icmp_eq (tgt := 872) hx hb dL_law_754 (by decide) (fun c_754 => ?_) (fun c_754 => absurd ev c_754)
  exact K _ _ _ _ w u hr2

set_option maxHeartbeats 4000000 in
set_option maxRecDepth 100000 in
/-- the law: safe -/
theorem law_safe (l : Launch) {p : Program} {e : Env} {s : State} {m : MethodId} {args : Array Value} {below : List Frame} {meth : Method} {c : Code} {G M : GT} {A : Nat → Prop} {b L : Nat} {xs : Nat → Int32} {k : SK} {a0 a1 a2 : Nat} {S T : PS} {H : Heap} {locs : List Loc} {cells slots : Nat} {Q : State → Prop} {ls : Array Slot} {i : Nat} (hc : LX p l s m args meth c G M A b L xs k a0 a1 a2) (w : Wd G A s.heap S H locs) (u : Wd M A s.heap T H locs) (hr : RR S T) (hl : lv_has ls 8 (LV G M b i)) (hi : i + 5 ≤ L) (hf : cells ≤ room_1.cells ∧ slots ≤ room_1.slots) (K : ∀ S T H locs, Wd G A s.heap S H locs → Wd M A s.heap T H locs → RR S T → W p l e room_1 s m args below meth c H locs cells slots Q (F0 m 872 ls [])) : W p l e room_1 s m args below meth c H locs cells slots Q (F0 m 759 ls []) := by
  have hx := hc.1.1
  have hb := hc.1.2.1
  have hown := hc.1.2.2.2.1
  have hts := hc.1.2.2.2.2.1
  have hL := hc.2.2.2.1.2.2.2
  obtain ⟨hX, hM, hdj, hm79, hN79⟩ := hc.2.2.2.2.1
  obtain ⟨n, nr, nh, z, tl, pl, wr, br, sp, h⟩ := hr
  refine lv_aload_n hx hb dL_law_759 rfl (lv_at hl 1 rfl) ?_
  refine lv_aload_n hx hb dL_law_760 rfl (lv_at hl 0 rfl) ?_
  refine lv_iload hx hb dL_law_761 (lv_at hl 4 rfl) ?_
  refine lv_iconst (v := nI 1) hx hb dL_law_763 (by decide) ?_
  refine lv_iadd hx hb dL_law_764 ?_
  rw [nI_add]
  refine va_sld hx hb hc.2.2.2.1.1 hc.2.2.2.1.2.1 hc.2.2.2.1.2.2.1 w.2.2 (vp_in_nI (show i + 1 < L by omega) (by omega)) dL_law_765 ?_
  rw [nI_clamp (show i + 1 < 2 ^ 31 by omega)]
  refine c2I (n := 1) hc.1 w u hdj hl dL_law_766 (c_X5_safe l G hX S nr z wr h.plX (xs (i + 1))) gL_law_X5_safe rfl (by decide +kernel) rfl rfl (Nat.le_of_ble_eq_true rfl) ⟨(Nat.le_of_ble_eq_true rfl), (Nat.le_of_ble_eq_true rfl)⟩ (by decide) rfl (oP5 hX) hf (fun v1 S2 H locs hp1 w u => ?_)
  refine lv_aload_n hx hb dL_law_769 rfl (lv_at hl 2 rfl) ?_
  refine lv_aload_n hx hb dL_law_770 rfl (lv_at hl 0 rfl) ?_
  refine lv_iload hx hb dL_law_771 (lv_at hl 4 rfl) ?_
  refine lv_iconst (v := nI 1) hx hb dL_law_773 (by decide) ?_
  refine lv_iadd hx hb dL_law_774 ?_
  rw [nI_add]
  refine va_sld hx hb hc.2.2.2.1.1 hc.2.2.2.1.2.1 hc.2.2.2.1.2.2.1 w.2.2 (vp_in_nI (show i + 1 < L by omega) (by omega)) dL_law_775 ?_
  rw [nI_clamp (show i + 1 < 2 ^ 31 by omega)]
  refine c2I (n := 1) hc.2.1 u w hdj.sy hl dL_law_776 (c_X6_safe l M hM T nr z h.plM (xs (i + 1))) gL_law_X6_safe rfl (by decide +kernel) rfl rfl (Nat.le_of_ble_eq_true rfl) ⟨(Nat.le_of_ble_eq_true rfl), (Nat.le_of_ble_eq_true rfl)⟩ (by decide) rfl (oM6 hM) hf (fun v2 T2 H locs hp2 u w => ?_)
  obtain ⟨ev, hr2⟩ := st_safe h hp1 hp2
  refine lv_icmp_eq (tgt := 872) hx hb dL_law_779 (by decide) (fun c_779 => ?_) (fun c_779 => absurd ev c_779)
  exact K _ _ _ _ w u hr2

set_option maxHeartbeats 4000000 in
set_option maxRecDepth 100000 in
/-- the law: keep -/
theorem law_keep (l : Launch) {p : Program} {e : Env} {s : State} {m : MethodId} {args : Array Value} {below : List Frame} {meth : Method} {c : Code} {G M : GT} {A : Nat → Prop} {b L : Nat} {xs : Nat → Int32} {k : SK} {a0 a1 a2 : Nat} {S T : PS} {H : Heap} {locs : List Loc} {cells slots : Nat} {Q : State → Prop} {ls : Array Slot} {i : Nat} (hc : LX p l s m args meth c G M A b L xs k a0 a1 a2) (w : Wd G A s.heap S H locs) (u : Wd M A s.heap T H locs) (hr : RR S T) (hl : lv_has ls 8 (LV G M b i)) (hi : i + 5 ≤ L) (hf : cells ≤ room_1.cells ∧ slots ≤ room_1.slots) (K : ∀ S T H locs, Wd G A s.heap S H locs → Wd M A s.heap T H locs → RR S T → W p l e room_1 s m args below meth c H locs cells slots Q (F0 m 872 ls [])) : W p l e room_1 s m args below meth c H locs cells slots Q (F0 m 784 ls []) := by
  have hx := hc.1.1
  have hb := hc.1.2.1
  have hown := hc.1.2.2.2.1
  have hts := hc.1.2.2.2.2.1
  have hL := hc.2.2.2.1.2.2.2
  obtain ⟨hX, hM, hdj, hm79, hN79⟩ := hc.2.2.2.2.1
  obtain ⟨n, nr, nh, z, tl, pl, wr, br, sp, h⟩ := hr
  refine lv_aload_n hx hb dL_law_784 rfl (lv_at hl 1 rfl) ?_
  refine lv_aload_n hx hb dL_law_785 rfl (lv_at hl 0 rfl) ?_
  refine lv_iload hx hb dL_law_786 (lv_at hl 4 rfl) ?_
  refine lv_iconst (v := nI 1) hx hb dL_law_788 (by decide) ?_
  refine lv_iadd hx hb dL_law_789 ?_
  rw [nI_add]
  refine va_sld hx hb hc.2.2.2.1.1 hc.2.2.2.1.2.1 hc.2.2.2.1.2.2.1 w.2.2 (vp_in_nI (show i + 1 < L by omega) (by omega)) dL_law_790 ?_
  rw [nI_clamp (show i + 1 < 2 ^ 31 by omega)]
  refine c2I (n := 1) hc.1 w u hdj hl dL_law_791 (c_X5_keep l G hX S h.lk n h.nm.1 h.nm.2.2 nh z br h.p.2.2.2.1 h.p.2.2.2.2.2.1 (fun j hj => ⟨h.q.2.1 j hj, h.d.2.1 j hj⟩) (fun j hj => (h.b j hj).1.2.2) h.p.2.2.2.2.2.2.1 h.p.z12 (xs (i + 1))) gL_law_X5_keep rfl (by decide +kernel) rfl rfl (Nat.le_of_ble_eq_true rfl) ⟨(Nat.le_of_ble_eq_true rfl), (Nat.le_of_ble_eq_true rfl)⟩ (by decide) rfl (oP5 hX) hf (fun v1 S2 H locs hp1 w u => ?_)
  refine lv_aload_n hx hb dL_law_794 rfl (lv_at hl 2 rfl) ?_
  refine lv_aload_n hx hb dL_law_795 rfl (lv_at hl 0 rfl) ?_
  refine lv_iload hx hb dL_law_796 (lv_at hl 4 rfl) ?_
  refine lv_iconst (v := nI 1) hx hb dL_law_798 (by decide) ?_
  refine lv_iadd hx hb dL_law_799 ?_
  rw [nI_add]
  refine va_sld hx hb hc.2.2.2.1.1 hc.2.2.2.1.2.1 hc.2.2.2.1.2.2.1 w.2.2 (vp_in_nI (show i + 1 < L by omega) (by omega)) dL_law_800 ?_
  rw [nI_clamp (show i + 1 < 2 ^ 31 by omega)]
  refine c2I (n := 1) hc.2.1 u w hdj.sy hl dL_law_801 (c_X6_keep l M hM T h.lm n h.nm.2.1 h.nm.2.2 nh z h.p.2.2.2.2.1 h.p.2.2.2.2.2.1 h.p.2.2.2.2.2.2.2.1 h.p.z12 h.ps (xs (i + 1))) gL_law_X6_keep rfl (by decide +kernel) rfl rfl (Nat.le_of_ble_eq_true rfl) ⟨(Nat.le_of_ble_eq_true rfl), (Nat.le_of_ble_eq_true rfl)⟩ (by decide) rfl (oM6 hM) hf (fun v2 T2 H locs hp2 u w => ?_)
  obtain ⟨ev, hr2⟩ := st_keep h hp1 hp2
  refine lv_icmp_eq (tgt := 872) hx hb dL_law_804 (by decide) (fun c_804 => ?_) (fun c_804 => absurd ev c_804)
  exact K _ _ _ _ w u hr2

set_option maxHeartbeats 4000000 in
set_option maxRecDepth 100000 in
/-- the law: kept -/
theorem law_kept (l : Launch) {p : Program} {e : Env} {s : State} {m : MethodId} {args : Array Value} {below : List Frame} {meth : Method} {c : Code} {G M : GT} {A : Nat → Prop} {b L : Nat} {xs : Nat → Int32} {k : SK} {a0 a1 a2 : Nat} {S T : PS} {H : Heap} {locs : List Loc} {cells slots : Nat} {Q : State → Prop} {ls : Array Slot} {i : Nat} (hc : LX p l s m args meth c G M A b L xs k a0 a1 a2) (w : Wd G A s.heap S H locs) (u : Wd M A s.heap T H locs) (hr : RR S T) (hl : lv_has ls 8 (LV G M b i)) (hi : i + 5 ≤ L) (hf : cells ≤ room_1.cells ∧ slots ≤ room_1.slots) (K : ∀ S T H locs, Wd G A s.heap S H locs → Wd M A s.heap T H locs → RR S T → W p l e room_1 s m args below meth c H locs cells slots Q (F0 m 872 ls [])) : W p l e room_1 s m args below meth c H locs cells slots Q (F0 m 809 ls []) := by
  have hx := hc.1.1
  have hb := hc.1.2.1
  have hown := hc.1.2.2.2.1
  have hts := hc.1.2.2.2.2.1
  have hL := hc.2.2.2.1.2.2.2
  obtain ⟨hX, hM, hdj, hm79, hN79⟩ := hc.2.2.2.2.1
  obtain ⟨n, nr, nh, z, tl, pl, wr, br, sp, h⟩ := hr
  refine lv_aload_n hx hb dL_law_809 rfl (lv_at hl 1 rfl) ?_
  refine lv_aload_n hx hb dL_law_810 rfl (lv_at hl 0 rfl) ?_
  refine lv_iload hx hb dL_law_811 (lv_at hl 4 rfl) ?_
  refine lv_iconst (v := nI 1) hx hb dL_law_813 (by decide) ?_
  refine lv_iadd hx hb dL_law_814 ?_
  rw [nI_add]
  refine va_sld hx hb hc.2.2.2.1.1 hc.2.2.2.1.2.1 hc.2.2.2.1.2.2.1 w.2.2 (vp_in_nI (show i + 1 < L by omega) (by omega)) dL_law_815 ?_
  rw [nI_clamp (show i + 1 < 2 ^ 31 by omega)]
  refine c2I (n := 1) hc.1 w u hdj hl dL_law_816 (c_X5_kept l G hX S h.lk n h.nm.1 h.nm.2.2 nh z br h.p.2.2.2.1 h.p.2.2.2.2.2.1 (fun j hj => ⟨h.q.2.1 j hj, h.d.2.1 j hj⟩) (fun j hj => (h.b j hj).1.2.2) h.p.2.2.2.2.2.2.1 h.p.z12 (xs (i + 1))) gL_law_X5_kept rfl (by decide +kernel) rfl rfl (Nat.le_of_ble_eq_true rfl) ⟨(Nat.le_of_ble_eq_true rfl), (Nat.le_of_ble_eq_true rfl)⟩ (by decide) rfl (oP5 hX) hf (fun v1 S2 H locs hp1 w u => ?_)
  refine lv_aload_n hx hb dL_law_819 rfl (lv_at hl 2 rfl) ?_
  refine lv_aload_n hx hb dL_law_820 rfl (lv_at hl 0 rfl) ?_
  refine lv_iload hx hb dL_law_821 (lv_at hl 4 rfl) ?_
  refine lv_iconst (v := nI 1) hx hb dL_law_823 (by decide) ?_
  refine lv_iadd hx hb dL_law_824 ?_
  rw [nI_add]
  refine va_sld hx hb hc.2.2.2.1.1 hc.2.2.2.1.2.1 hc.2.2.2.1.2.2.1 w.2.2 (vp_in_nI (show i + 1 < L by omega) (by omega)) dL_law_825 ?_
  rw [nI_clamp (show i + 1 < 2 ^ 31 by omega)]
  refine c2I (n := 1) hc.2.1 u w hdj.sy hl dL_law_826 (c_X6_kept l M hM T h.lm n h.nm.2.1 h.nm.2.2 nh z h.p.2.2.2.2.1 h.p.2.2.2.2.2.1 h.p.2.2.2.2.2.2.2.1 h.p.z12 (xs (i + 1))) gL_law_X6_kept rfl (by decide +kernel) rfl rfl (Nat.le_of_ble_eq_true rfl) ⟨(Nat.le_of_ble_eq_true rfl), (Nat.le_of_ble_eq_true rfl)⟩ (by decide) rfl (oM6 hM) hf (fun v2 T2 H locs hp2 u w => ?_)
  obtain ⟨ev, hr2⟩ := st_kept h hp1 hp2
  refine lv_icmp_eq (tgt := 872) hx hb dL_law_829 (by decide) (fun c_829 => ?_) (fun c_829 => absurd ev c_829)
  exact K _ _ _ _ w u hr2

set_option maxHeartbeats 4000000 in
set_option maxRecDepth 100000 in
/-- the law: many -/
theorem law_many (l : Launch) {p : Program} {e : Env} {s : State} {m : MethodId} {args : Array Value} {below : List Frame} {meth : Method} {c : Code} {G M : GT} {A : Nat → Prop} {b L : Nat} {xs : Nat → Int32} {k : SK} {a0 a1 a2 : Nat} {S T : PS} {H : Heap} {locs : List Loc} {cells slots : Nat} {Q : State → Prop} {ls : Array Slot} {i : Nat} (hc : LX p l s m args meth c G M A b L xs k a0 a1 a2) (w : Wd G A s.heap S H locs) (u : Wd M A s.heap T H locs) (hr : RR S T) (hl : lv_has ls 8 (LV G M b i)) (hi : i + 5 ≤ L) (hf : cells ≤ room_1.cells ∧ slots ≤ room_1.slots) (K : ∀ S T H locs, Wd G A s.heap S H locs → Wd M A s.heap T H locs → RR S T → W p l e room_1 s m args below meth c H locs cells slots Q (F0 m 872 ls [])) : W p l e room_1 s m args below meth c H locs cells slots Q (F0 m 834 ls []) := by
  have hx := hc.1.1
  have hb := hc.1.2.1
  have hown := hc.1.2.2.2.1
  have hts := hc.1.2.2.2.2.1
  have hL := hc.2.2.2.1.2.2.2
  obtain ⟨hX, hM, hdj, hm79, hN79⟩ := hc.2.2.2.2.1
  obtain ⟨n, nr, nh, z, tl, pl, wr, br, sp, h⟩ := hr
  refine lv_aload_n hx hb dL_law_834 rfl (lv_at hl 1 rfl) ?_
  refine lv_aload_n hx hb dL_law_835 rfl (lv_at hl 0 rfl) ?_
  refine lv_iload hx hb dL_law_836 (lv_at hl 4 rfl) ?_
  refine lv_iconst (v := nI 1) hx hb dL_law_838 (by decide) ?_
  refine lv_iadd hx hb dL_law_839 ?_
  rw [nI_add]
  refine va_sld hx hb hc.2.2.2.1.1 hc.2.2.2.1.2.1 hc.2.2.2.1.2.2.1 w.2.2 (vp_in_nI (show i + 1 < L by omega) (by omega)) dL_law_840 ?_
  rw [nI_clamp (show i + 1 < 2 ^ 31 by omega)]
  refine c2I (n := 1) hc.1 w u hdj hl dL_law_841 (c_X5_many l G hX S h.lk n nr nh tl pl h.nm.1 h.p.1 h.p.2.2.2.1 h.t.1.1 h.t.2.2.1.1 (xs (i + 1))) gL_law_X5_many rfl (by decide +kernel) rfl rfl (Nat.le_of_ble_eq_true rfl) ⟨(Nat.le_of_ble_eq_true rfl), (Nat.le_of_ble_eq_true rfl)⟩ (by decide) rfl (oP5 hX) hf (fun v1 S2 H locs hp1 w u => ?_)
  refine lv_aload_n hx hb dL_law_844 rfl (lv_at hl 2 rfl) ?_
  refine lv_aload_n hx hb dL_law_845 rfl (lv_at hl 0 rfl) ?_
  refine lv_iload hx hb dL_law_846 (lv_at hl 4 rfl) ?_
  refine lv_iconst (v := nI 1) hx hb dL_law_848 (by decide) ?_
  refine lv_iadd hx hb dL_law_849 ?_
  rw [nI_add]
  refine va_sld hx hb hc.2.2.2.1.1 hc.2.2.2.1.2.1 hc.2.2.2.1.2.2.1 w.2.2 (vp_in_nI (show i + 1 < L by omega) (by omega)) dL_law_850 ?_
  rw [nI_clamp (show i + 1 < 2 ^ 31 by omega)]
  refine c2I (n := 1) hc.2.1 u w hdj.sy hl dL_law_851 (c_X6_many l M hM T n nr nh tl pl h.nm.2.1 h.p.2.1 h.p.2.2.2.2.1 h.t.1.2.1 h.t.2.2.1.2.1 (xs (i + 1))) gL_law_X6_many rfl (by decide +kernel) rfl rfl (Nat.le_of_ble_eq_true rfl) ⟨(Nat.le_of_ble_eq_true rfl), (Nat.le_of_ble_eq_true rfl)⟩ (by decide) rfl (oM6 hM) hf (fun v2 T2 H locs hp2 u w => ?_)
  obtain ⟨ev, hr2⟩ := st_many h hp1 hp2
  refine lv_icmp_eq (tgt := 872) hx hb dL_law_854 (by decide) (fun c_854 => ?_) (fun c_854 => absurd ev c_854)
  exact K _ _ _ _ w u hr2

set_option maxHeartbeats 4000000 in
set_option maxRecDepth 100000 in
/-- the law: drop -/
theorem law_drop (l : Launch) {p : Program} {e : Env} {s : State} {m : MethodId} {args : Array Value} {below : List Frame} {meth : Method} {c : Code} {G M : GT} {A : Nat → Prop} {b L : Nat} {xs : Nat → Int32} {k : SK} {a0 a1 a2 : Nat} {S T : PS} {H : Heap} {locs : List Loc} {cells slots : Nat} {Q : State → Prop} {ls : Array Slot} {i : Nat} (hc : LX p l s m args meth c G M A b L xs k a0 a1 a2) (w : Wd G A s.heap S H locs) (u : Wd M A s.heap T H locs) (hr : RR S T) (hl : lv_has ls 8 (LV G M b i)) (hi : i + 5 ≤ L) (hf : cells ≤ room_1.cells ∧ slots ≤ room_1.slots) (K : ∀ S T H locs, Wd G A s.heap S H locs → Wd M A s.heap T H locs → RR S T → W p l e room_1 s m args below meth c H locs cells slots Q (F0 m 872 ls [])) : W p l e room_1 s m args below meth c H locs cells slots Q (F0 m 859 ls []) := by
  have hx := hc.1.1
  have hb := hc.1.2.1
  have hown := hc.1.2.2.2.1
  have hts := hc.1.2.2.2.2.1
  have hL := hc.2.2.2.1.2.2.2
  obtain ⟨hX, hM, hdj, hm79, hN79⟩ := hc.2.2.2.2.1
  obtain ⟨n, nr, nh, z, tl, pl, wr, br, sp, h⟩ := hr
  refine lv_aload_n hx hb dL_law_859 rfl (lv_at hl 1 rfl) ?_
  refine c2I (n := 0) hc.1 w u hdj hl dL_law_860 (c_X5_drop l G hX S n h.nm.1 h.nm.2.2) gL_law_X5_drop rfl (by decide +kernel) rfl rfl (Nat.le_of_ble_eq_true rfl) ⟨(Nat.le_of_ble_eq_true rfl), (Nat.le_of_ble_eq_true rfl)⟩ (by decide) rfl (oP5 hX) hf (fun v1 S2 H locs hp1 w u => ?_)
  refine lv_aload_n hx hb dL_law_863 rfl (lv_at hl 2 rfl) ?_
  refine c2I (n := 0) hc.2.1 u w hdj.sy hl dL_law_864 (c_X6_drop l M hM T n h.nm.2.1 h.nm.2.2) gL_law_X6_drop rfl (by decide +kernel) rfl rfl (Nat.le_of_ble_eq_true rfl) ⟨(Nat.le_of_ble_eq_true rfl), (Nat.le_of_ble_eq_true rfl)⟩ (by decide) rfl (oM6 hM) hf (fun v2 T2 H locs hp2 u w => ?_)
  obtain ⟨ev, hr2⟩ := st_drop h hp1 hp2
  refine lv_icmp_eq (tgt := 872) hx hb dL_law_867 (by decide) (fun c_867 => ?_) (fun c_867 => absurd ev c_867)
  exact K _ _ _ _ w u hr2
