theorem REL.o79 {S T : PS} {n nr nh z tl pl : Nat} {wr br : Nat → Nat} {sp : Nat} (h : REL S T n nr nh z tl pl wr br sp) (x : Int64) : REL (uJ S 9 79 0 x) T n nr nh z tl pl wr br sp := by
  obtain ⟨d1, d2, d3, -⟩ := h.d
  have hn := h.nm.2.2
  have hz := h.p.z12
  have hnr := h.p.2.2.1
  have hnh := h.p.2.2.2.2.2.1
  have a1 : ag S (uJ S 9 79 0 x) (fun _ _ _ => False) (fun c r k => c = 9 ∧ r = 79 ∧ k = 0) := ⟨fun _ _ _ _ => rfl, fun c r k q => by rw [sJ_uJ, if_neg q]⟩
  have b1 := ag.rf T
  exact ⟨h.lk, h.lm, h.nm, h.s.fr a1 b1 (fun _ _ _ x => x.elim) (fun i k hi x => by omega) (fun _ _ _ _ x => x.elim) (fun _ _ _ _ x => x.elim), h.q, h.d, h.p, h.w.fr a1 b1 hz (fun _ _ x => x.elim) (fun i k hi x => by have := d1 i (by omega); omega) (fun _ _ x => x.elim) (fun _ _ _ _ x => x.elim), h.b.fr a1 b1 hz (fun _ _ _ x => x.elim) (fun _ x => x.elim) (fun j k hj x => by have := d2 j (by omega); omega) (fun _ _ _ _ x => x.elim), h.t⟩
theorem REL.aT {S T : PS} {n nr nh z tl pl : Nat} {wr br : Nat → Nat} {sp : Nat} (h : REL S T n nr nh z tl pl wr br sp) (i k : Int32) : atT n (sI T 8 0) (sI T 8 2) i k = atT n (fun j => sI S 2 j 0) (fun j => sI S 2 j 2) i k := by
  unfold atT
  by_cases c1 : inN i n
  · rw [if_pos c1, if_pos c1, (h.s _ (jn_lt c1)).1.1, (h.s _ (jn_lt c1)).1.2.2]
  · rw [if_neg c1, if_neg c1]
theorem REL.at0 {S T : PS} {n nr nh z tl pl : Nat} {wr br : Nat → Nat} {sp : Nat} (h : REL S T n nr nh z tl pl wr br sp) {i k : Int32} (e : atT n (fun j => sI S 2 j 0) (fun j => sI S 2 j 2) i k = 0) : sJ T 9 0 (12 * jn i + jn k) = sJ S 9 (jn i) (jn k) := by
  unfold atT at e
  by_cases c1 : inN i n
  · rw [if_pos c1] at e
    by_cases c2 : sI S 2 (jn i) 0 = -1
    · rw [if_pos c2] at e; exact absurd e (by decide)
    · rw [if_neg c2] at e
      by_cases c3 : inN k (sI S 2 (jn i) 2).toInt
      · refine (h.s _ (jn_lt c1)).2.2 (jn k) ?_
        have := c3.1; have := c3.2
        show k.toInt.toNat < (sI S 2 (jn i) 2).toInt.toNat
        omega
      · rw [if_neg c3] at e; exact absurd e (by decide)
  · rw [if_neg c1] at e; exact absurd e (by decide)

set_option maxHeartbeats 4000000 in
set_option maxRecDepth 100000 in
/-- the law: at -/
theorem law_at (l : Launch) {p : Program} {e : Env} {s : State} {m : MethodId} {args : Array Value} {below : List Frame} {meth : Method} {c : Code} {G M : GT} {A : Nat → Prop} {b L : Nat} {xs : Nat → Int32} {k : SK} {a0 a1 a2 : Nat} {S T : PS} {H : Heap} {locs : List Loc} {cells slots : Nat} {Q : State → Prop} {ls : Array Slot} {i : Nat} (hc : LX p l s m args meth c G M A b L xs k a0 a1 a2) (w : Wd G A s.heap S H locs) (u : Wd M A s.heap T H locs) (hr : RR S T) (hl : lv_has ls 8 (LV G M b i)) (hi : i + 5 ≤ L) (hf : cells + 1 ≤ room_1.cells ∧ slots + 6 ≤ room_1.slots) (K : ∀ S T H locs ls, Wd G A s.heap S H locs → Wd M A s.heap T H locs → RR S T → lv_has ls 8 (LV G M b i) → W p l e room_1 s m args below meth c H locs (cells + 1) (slots + 6) Q (F0 m 872 ls [])) : W p l e room_1 s m args below meth c H locs cells slots Q (F0 m 283 ls []) := by
  have hx := hc.1.1
  have hb := hc.1.2.1
  have hown := hc.1.2.2.2.1
  have hts := hc.1.2.2.2.2.1
  have hL := hc.2.2.2.1.2.2.2
  have hA := hc.1.2.2.2.2.2.2
  obtain ⟨hX, hM, hdj, hm79, hN79⟩ := hc.2.2.2.2.1
  obtain ⟨n, nr, nh, z, tl, pl, wr, br, sp, h⟩ := hr
  refine lv_aload_n hx hb dL_law_283 rfl (lv_at hl 1 rfl) ?_
  refine lv_aload_n hx hb dL_law_284 rfl (lv_at hl 0 rfl) ?_
  refine lv_iload hx hb dL_law_285 (lv_at hl 4 rfl) ?_
  refine lv_iconst (v := nI 1) hx hb dL_law_287 (by decide) ?_
  refine lv_iadd hx hb dL_law_288 ?_
  rw [nI_add]
  refine va_sld hx hb hc.2.2.2.1.1 hc.2.2.2.1.2.1 hc.2.2.2.1.2.2.1 w.2.2 (vp_in_nI (show i + 1 < L by omega) (by omega)) dL_law_289 ?_
  rw [nI_clamp (show i + 1 < 2 ^ 31 by omega)]
  refine lv_aload_n hx hb dL_law_290 rfl (lv_at hl 0 rfl) ?_
  refine lv_iload hx hb dL_law_291 (lv_at hl 4 rfl) ?_
  refine lv_iconst (v := nI 2) hx hb dL_law_293 (by decide) ?_
  refine lv_iadd hx hb dL_law_294 ?_
  rw [nI_add]
  refine va_sld hx hb hc.2.2.2.1.1 hc.2.2.2.1.2.1 hc.2.2.2.1.2.2.1 w.2.2 (vp_in_nI (show i + 2 < L by omega) (by omega)) dL_law_295 ?_
  rw [nI_clamp (show i + 2 < 2 ^ 31 by omega)]
  refine lv_aload_n hx hb dL_law_296 rfl (lv_at hl 3 rfl) ?_
  refine vx_calli (vx_runSX (As := [.ref (gA G 5 0), .int (xs (i + 1)), .int (xs (i + 2)), .ref (gA G 9 79)]) (rest := []) ⟨hc.1.1, hc.1.2.1, hc.1.2.2.1, hc.1.2.2.2.1, hc.1.2.2.2.2.1⟩ (c_L_at l hc.2.2.2.2.2 G hX S h.lk n h.nm.1 h.nm.2.2 h.sz hm79 hN79 (xs (i + 1)) (xs (i + 2)) a0 a1 a2 H.size) (vx_cwSW 4 hc.1.2.2.2.2.1 gL_law_L_at rfl rfl rfl (by decide +kernel) ⟨(Nat.le_of_ble_eq_true rfl), (Nat.le_of_ble_eq_true rfl)⟩) ⟨xPre_blind, fun U hU hW => ⟨rfl, ⟨by rw [hU], by rw [hU]; exact w.1, va_K.moved hW.alike hc.1.2.2.2.2.2.1, w.2.1.weaken (fun _ _ _ _ => trivial)⟩, hc.2.2.1.2.1.warm hW, hc.2.2.1.2.2.call w.2.2 (w.free hA) hU hW⟩⟩ rfl rfl hl.1 rfl (lv_room (Nat.le_of_ble_eq_true rfl)) dL_law_297 hf) w.2.2 (fun q _ h => w.free hA q h) (w.free hA) (fun q _ h => w.free hA q h) (fun E ce q9 u9 t H1 locs1 ht hvm hpx => hpx.elim) (fun v1 S2 t H1 locs1 ht hvm hp1 hB hz1 hk1 hS1 => ?_)
  replace u := Wd_other u hdj hk1 hS1
  replace w := Wb_wd w hA ht hB hS1
  obtain ⟨e1, e2⟩ := hp1
  subst e1
  refine lv_istore hx hb dL_law_300 hl (by decide) rfl (fun ls hl => ?_)
  refine lv_aload_n hx hb dL_law_302 rfl (lv_at hl 3 rfl) ?_
  refine lv_aload_n hx hb dL_law_303 rfl (lv_at hl 1 rfl) ?_
  refine lv_iload hx hb dL_law_304 (lv_at hl 5 rfl) ?_
  refine lv_iconst (v := nI 1) hx hb dL_law_306 (by decide) ?_
  refine lv_iadd hx hb dL_law_307 ?_
  rw [nI_add]
  refine va_sld hx hb hc.2.2.2.1.1 hc.2.2.2.1.2.1 hc.2.2.2.1.2.2.1 w.2.2 (vp_in_nI (show i + 1 < L by omega) (by omega)) dL_law_308 ?_
  rw [nI_clamp (show i + 1 < 2 ^ 31 by omega)]
  refine lv_aload_n hx hb dL_law_309 rfl (lv_at hl 1 rfl) ?_
  refine lv_iload hx hb dL_law_310 (lv_at hl 5 rfl) ?_
  refine lv_iconst (v := nI 2) hx hb dL_law_312 (by decide) ?_
  refine lv_iadd hx hb dL_law_313 ?_
  rw [nI_add]
  refine va_sld hx hb hc.2.2.2.1.1 hc.2.2.2.1.2.1 hc.2.2.2.1.2.2.1 w.2.2 (vp_in_nI (show i + 2 < L by omega) (by omega)) dL_law_314 ?_
  rw [nI_clamp (show i + 2 < 2 ^ 31 by omega)]
  refine c2L (n := 2) hc.2.1 u w hdj.sy hl dL_law_315 (c_X6_at l M hM T h.lm n h.nm.2.1 h.nm.2.2 h.szM (xs (i + 1)) (xs (i + 2))) gL_law_X6_at rfl (by decide +kernel) rfl rfl (Nat.le_of_ble_eq_true rfl) ⟨(Nat.le_of_ble_eq_true rfl), (Nat.le_of_ble_eq_true rfl)⟩ (by decide) rfl (oM6 hM) hf (fun v2 T2 H locs hp2 u w => ?_)
  rw [h.aT] at hp2
  obtain ⟨e3, e4⟩ := hp2
  subst e3
  refine lv_lstore hx hb dL_law_318 hl (by decide) rfl (fun ls hl => ?_)
  refine lv_aload_n hx hb dL_law_320 rfl (lv_at hl 4 rfl) ?_
  refine c2I (n := 0) hc.2.1 u w hdj.sy hl dL_law_321 (c_X6_thrown l M hM _) gL_law_X6_thrown rfl (by decide +kernel) rfl rfl (Nat.le_of_ble_eq_true rfl) ⟨(Nat.le_of_ble_eq_true rfl), (Nat.le_of_ble_eq_true rfl)⟩ (by decide) rfl (oM6 hM) hf (fun v3 T3 H locs hp3 u w => ?_)
  obtain ⟨e5, e6⟩ := hp3
  subst e6
  rw [sI_uI, if_pos ⟨rfl, rfl, rfl⟩] at e5
  have hr2 : RR S2 (uI T 6 0 17 (atT n (fun j => sI S 2 j 0) (fun j => sI S 2 j 2) (xs (i + 1)) (xs (i + 2)))) := by
    have k1 : REL S2 T n nr nh z tl pl wr br sp := by
      rw [e2]
      split
      · exact h.o79 _
      · exact h
    exact (k1.eX (eq4.rf S2) (eqM_uI (Or.inl ⟨rfl, Or.inl rfl⟩))).rl
  refine lv_iload hx hb dL_law_324 (lv_at hl 1 rfl) ?_
  refine lv_icmp_eq (tgt := 331) hx hb dL_law_326 (by decide) (fun c_326 => ?_) (fun c_326 => absurd e5 c_326)
  refine lv_iload hx hb dL_law_331 (lv_at hl 1 rfl) ?_
  refine lv_if_ne (tgt := 347) hx hb dL_law_333 (by decide) (fun c_333 => ?_) (fun c_333 => ?_)
  · 
    refine lv_goto (tgt := 872) hx hb dL_law_347 (by decide) ?_
    exact K _ _ _ _ _ w u hr2 (lv_sub hl [2, 3, 4, 5, 6] rfl)
  · have h0 : (atT n (fun j => sI S 2 j 0) (fun j => sI S 2 j 2) (xs (i + 1)) (xs (i + 2))) = 0 := c_333
    rw [if_pos h0] at e2
    refine lv_aload_n hx hb dL_law_336 rfl (lv_at hl 5 rfl) ?_
    refine lv_iconst (v := nI 0) hx hb dL_law_337 (by decide) ?_
    refine paJ (r := 79) (n := 0) hc.1 w dL_law_338 hm79 rfl hN79 (by decide) (by decide) (v := sJ S 9 (jn (xs (i + 1))) (jn (xs (i + 2)))) (by rw [e2, sJ_uJ, if_pos ⟨rfl, rfl, rfl⟩]) ?_
    refine lv_lload hx hb dL_law_339 (lv_at hl 0 rfl) ?_
    refine W.lcmp hx hb dL_law_341 ?_
    refine lv_if_eq (tgt := 347) hx hb dL_law_342 (by decide) (fun c_342 => ?_) (fun c_342 => absurd ((lg_cmp_eq _ _).mpr (by rw [e4 h0]; exact (h.at0 h0).symm)) c_342)
    rw [lg_cmp_eq] at c_342
    refine lv_goto (tgt := 872) hx hb dL_law_347 (by decide) ?_
    exact K _ _ _ _ _ w u hr2 (lv_sub hl [2, 3, 4, 5, 6] rfl)
