/-! The law's start. -/
theorem Wd_nil {G : GT} {A : Nat → Prop} {H0 H : Heap} {S : PS} {locs : List Loc} (h : gP G = []) (hS : va_S A H0 H locs) : Wd G A H0 S H locs := by
  have e : wl G S = [] := by unfold wl; rw [h]; rfl
  unfold Wd
  rw [e]
  exact ⟨fun k q h => by simp at h, ⟨fun i j p q h => by simp at h, fun k q h => by simp at h⟩, hS⟩
theorem wf_nil {G : GT} (h : gP G = []) : wf zS G := ⟨fun c r k t r1 hm => by rw [h] at hm; exact absurd hm List.not_mem_nil, fun c r _ => zS_blk c r⟩
theorem okX_of {G : GT} (mm : ∀ c r, (((c = 2 ∨ c = 9) ∧ r < 60) ∨ (c = 10 ∧ r = 0) ∨ (c = 3 ∧ r = 0) ∨ (c = 7 ∧ r < 3) ∨ (c = 0 ∧ r = 0) ∨ (c = 1 ∧ r = 0) ∨ plF c r ∨ (c = 4 ∧ r = 0)) → (c, r) ∈ gP G) (h5 : (5, 0) ∈ gP G) (hN : gN G = nX) : okX G := by
  have pl : ∀ c r, plF c r → (c, r) ∈ gP G := fun c r q => mm c r (Or.inr (Or.inr (Or.inr (Or.inr (Or.inr (Or.inr (Or.inl q)))))))
  have sc : ∀ c r, (c = 2 ∨ c = 9) → r < 79 → (c, r) ∈ gP G := fun c r hc hr => by
    by_cases h : r < 60
    · exact mm c r (Or.inl ⟨hc, h⟩)
    · exact pl c r (Or.inl ⟨hc, by omega, hr⟩)
  unfold okX
  rw [hN]
  refine ⟨fun r hr => ⟨sc 2 r (Or.inl rfl) hr, sc 9 r (Or.inr rfl) hr, ?_⟩, ⟨mm 0 0 (by omega), mm 1 0 (by omega), mm 3 0 (by omega), h5, pl 8 0 (by unfold plF; omega)⟩, fun r hr => ⟨?_, mm 7 r (by omega), ?_⟩, rfl, rfl, rfl, rfl, rfl, rfl, rfl⟩
  · show nX 9 r = 12
    unfold nX
    rw [if_neg (by decide), if_neg (by decide), if_pos rfl, if_neg (by omega)]
  · rcases (show r = 0 ∨ r = 1 ∨ r = 2 by omega) with rfl | rfl | rfl
    · exact mm 4 0 (by omega)
    · exact pl 4 1 (by unfold plF; omega)
    · exact pl 4 2 (by unfold plF; omega)
  · rcases (show r = 0 ∨ r = 1 ∨ r = 2 by omega) with rfl | rfl | rfl
    · exact mm 10 0 (by omega)
    · exact pl 10 1 (by unfold plF; omega)
    · exact pl 10 2 (by unfold plF; omega)
theorem okM_of {G : GT} (mm : ∀ x ∈ emL, x ∈ gP G) (h6 : (6, 0) ∈ gP G) (hN : gN G = nMo) : okM G := by
  unfold okM
  rw [hN]
  refine ⟨h6, fun r hr => ?_, fun r hr => ?_, rfl, rfl, rfl, rfl, rfl, rfl, rfl, rfl, rfl, rfl⟩
  · rcases (show r = 0 ∨ r = 1 ∨ r = 2 ∨ r = 3 ∨ r = 4 ∨ r = 5 by omega) with rfl | rfl | rfl | rfl | rfl | rfl <;> exact mm _ (by decide)
  · rcases (show r = 0 ∨ r = 1 ∨ r = 2 ∨ r = 3 by omega) with rfl | rfl | rfl | rfl <;> exact mm _ (by decide)
theorem okN_nX {G : GT} (h : gN G = nX) : okN G := by
  unfold okN
  rw [h]
  refine ⟨fun r hr => ?_, rfl, rfl, rfl, rfl, rfl, rfl, rfl⟩
  show nX 9 r = 12
  unfold nX
  rw [if_neg (by decide), if_neg (by decide), if_pos rfl, if_neg (by omega)]
theorem okNM_n {G : GT} (h : gN G = nMo) : okNM G := by
  unfold okNM
  rw [h]
  exact ⟨rfl, rfl, rfl, rfl, rfl, rfl, rfl, rfl, rfl, rfl⟩
set_option maxHeartbeats 4000000 in
set_option maxRecDepth 100000 in
/-- from the entry, for every script of at most 2560 ints, the law comes to its end with true -/
theorem whole_start {p : Program} {e : Env} {s : State} {m : MethodId} {below : List Frame} {meth : Method} {c : Code} (l : Launch) (hst : l.stackTraces = false) {b L : Nat} {xs : Nat → Int32} (hL : L ≤ 2560) (C0 : lw_At p s m meth c b L xs) : W p l e room_1 s m #[Value.ref b] below meth c s.heap [] 0 0 (lw_Z below #[Value.ref b] s) (entryFrame m ([Value.ref b] : List Value).toArray 8) := by
  obtain ⟨hx, hb, hret, hml, hown, hts, hX, hbl, hlk, hgv⟩ := C0
  obtain ⟨D, cB, cI, cJ, cO, hK⟩ := law_K hts
  obtain ⟨k, hk⟩ := law_KS hts hgv
  have hz := law_xZ hts hgv
  obtain ⟨a0, a1, a2, hxk⟩ := law_xK hts hgv
  have hnk := law_nK5 hts
  have ex : ∀ n : Nat → Nat → Nat, ∃ G : GT, gP G = [] ∧ gN G = n ∧ gD G = D ∧ Cx p s m #[Value.ref b] meth c cL_law RL wsL_law 8 G (fun q => s.heap.size ≤ q) := fun n => ⟨(D, (cB, cI, cJ, cO), [], fun _ _ => 0, n), rfl, rfl, rfl, hx, hb, hml, hown, fun w h => hts w (wsL_law_in w h), hK, fun _ h => h⟩
  obtain ⟨G0, hP0, hN0, hD0, C⟩ := ex nX
  obtain ⟨M0, hQ0, hO0, hE0, CM⟩ := ex nMo
  have hl := lv_entry [Value.ref b] (n := 8) (Nat.le_of_ble_eq_true rfl)
  rw [lg_entry_eq]
  refine pnO 5 (r := 0) (by decide) rfl tyX5_ok dfl_ok5 C (Wd_nil (S := zS) hP0 va_S.rf) inlX5 (by decide +kernel) (by decide +kernel) (by decide +kernel) dL_law_0 (wf_nil hP0) (by rw [hP0]; exact List.not_mem_nil) (Nat.le_of_ble_eq_true rfl) (Nat.le_of_ble_eq_true rfl) (fun G1 H x1 wf1 C w => ?_)
  have m1 : (5, 0) ∈ gP G1 := x1.nw (List.mem_cons_self ..)
  have f1 : ∀ c r, exF c r → (c, r) ∉ gP G1 := fun c r q => x1.no (by rw [hP0]; exact List.not_mem_nil) (fun z => q (by have := List.mem_singleton.mp z; exact Prod.mk.inj this))
  have n1 : gN G1 = nX := x1.2.2.2.1.trans hN0
  refine lv_dup hx hb dL_law_3 rfl ?_
  refine cnI okK_5 C hnk w hl dL_law_4 (c_X5_init l G1 zS m1 f1 wf1 (okN_nX n1)) gL_law_X5_init rfl (by decide +kernel) (by decide +kernel) (by decide +kernel) ⟨by decide, by decide, by decide +kernel⟩ rfl rfl (Nat.le_of_ble_eq_true rfl) ⟨(Nat.le_of_ble_eq_true rfl), (Nat.le_of_ble_eq_true rfl)⟩ ⟨(Nat.le_of_ble_eq_true rfl), (Nat.le_of_ble_eq_true rfl)⟩ (fun G2 S2 H locs x2 hp C w => ?_)
  subst hp
  have wf2 : wf (exI zS) G2 := wf1.ex x2 m1 f1
  rw [x2.a m1]
  have m2 := x2.m m1
  have n2 : gN G2 = nX := x2.2.2.2.1.trans n1
  refine lv_astore_n hx hb dL_law_7 rfl hl (by decide) rfl (fun ls hl => ?_)
  have dj0 : dj G2 M0 := fun x _ y hy => by rw [hQ0] at hy; exact absurd hy List.not_mem_nil
  have d2 : gD G2 = gD M0 := x2.1.trans (x1.1.trans (hD0.trans hE0.symm))
  refine pn2O 6 (r := 0) (by decide) rfl tyX6_ok dfl_ok6 CM w (Wd_nil (S := zS) hQ0 w.2.2) dj0 d2 inlX6 (by decide +kernel) (by decide +kernel) (by decide +kernel) dL_law_8 (wf_nil hQ0) (by rw [hQ0]; exact List.not_mem_nil) (Nat.le_of_ble_eq_true rfl) (Nat.le_of_ble_eq_true rfl) (fun M1 H y1 vf1 CM w u hdj => ?_)
  have k1 : (6, 0) ∈ gP M1 := y1.nw (List.mem_cons_self ..)
  have e1 : ∀ c r, emF c r → (c, r) ∉ gP M1 := fun c r q => y1.no (by rw [hQ0]; exact List.not_mem_nil) (fun z => q (by have := List.mem_singleton.mp z; exact Prod.mk.inj this))
  have o1 : gN M1 = nMo := y1.2.2.2.1.trans hO0
  refine lv_dup hx hb dL_law_11 rfl ?_
  refine cn2I okK_T CM trivial w u hdj hl dL_law_12 (c_X6_init l M1 zS k1 e1 vf1 (okNM_n o1)) gL_law_X6_init rfl (by decide +kernel) (by decide +kernel) (by decide +kernel) ⟨by decide, by decide, by decide +kernel⟩ rfl rfl (Nat.le_of_ble_eq_true rfl) ⟨(Nat.le_of_ble_eq_true rfl), (Nat.le_of_ble_eq_true rfl)⟩ ⟨(Nat.le_of_ble_eq_true rfl), (Nat.le_of_ble_eq_true rfl)⟩ (fun M2 T2 H locs y2 hq CM w u hdj => ?_)
  subst hq
  rw [y2.a k1]
  have k2 := y2.m k1
  have o2 : gN M2 = nMo := y2.2.2.2.1.trans o1
  refine lv_astore_n hx hb dL_law_15 rfl hl (by decide) rfl (fun ls hl => ?_)
  refine lv_iconst (v := 1) hx hb dL_law_16 (by decide) ?_
  have d3 : gD M2 = gD G2 := y2.1.trans (y1.1.trans d2.symm)
  have f2 : (9, 79) ∉ gP G2 := x2.no (f1 9 79 (by unfold exF; omega)) (fun z => by
    rcases exL_mem.mp z with h | h | h | h | h | h | h | h <;> (try unfold plF at h) <;> omega)
  refine pn2J (M := G2) (r := 79) (N' := 1) C u w hdj.sy d3 (by decide +kernel) dL_law_17 (by decide) rfl (by rw [n2]; rfl) (by decide) wf2 f2 (Nat.le_of_ble_eq_true rfl) (Nat.le_of_ble_eq_true rfl) (fun G3 H x3 wf3 C u w hdj => ?_)
  rw [x3.a m2] at hl
  refine lv_astore_n hx hb dL_law_19 rfl hl (by decide) rfl (fun ls hl => ?_)
  refine lv_iconst (v := nI 0) hx hb dL_law_20 (by decide) ?_
  refine lv_istore hx hb dL_law_21 hl (by decide) rfl (fun ls hl => ?_)
  have n3 : gN G3 = nX := x3.2.2.2.1.trans n2
  have hok : okX G3 := okX_of (fun c r q => x3.m (x2.nw (exL_mem.mpr q))) (x3.m m2) n3
  have hom : okM M2 := okM_of (fun x q => y2.nw q) k2 o2
  have hLX : LX p l s m #[Value.ref b] meth c G3 M2 (fun q => s.heap.size ≤ q) b L xs k a0 a1 a2 := ⟨C, CM, ⟨hk, hxk, hz⟩, ⟨hX, hbl, Nat.not_le.mpr hbl, hL⟩, ⟨hok, hom, hdj.sy, x3.nw (List.mem_cons_self ..), by rw [n3]; rfl⟩, hst⟩
  exact lw_loop hret hlk hLX 512 0 _ _ H locs ls _ _ (by omega) (Nat.zero_le _) (Nat.le_of_ble_eq_true rfl) (Nat.le_of_ble_eq_true rfl) w u RR_0 (lv_sub hl [4, 3, 2, 1, 0] rfl)
