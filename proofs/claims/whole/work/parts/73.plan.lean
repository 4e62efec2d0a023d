/-! Plan() and LevelScores(), LevelScoresModel(). -/
def plF (c r : Nat) : Prop := ((c = 2 ∨ c = 9) ∧ 60 ≤ r ∧ r < 79) ∨ (c = 10 ∧ (r = 1 ∨ r = 2)) ∨ (c = 8 ∧ r = 0) ∨ (c = 4 ∧ (r = 1 ∨ r = 2))
def plL1 : List (Nat × Nat) := [(2, 78), (9, 78), (10, 1), (8, 0), (10, 2), (2, 77), (9, 77), (4, 1), (4, 2)]
def plL : List (Nat × Nat) := (plL1 ++ scL 60 12) ++ scL 72 5
def plA (S : PS) : PS := fm (uQ (uQ (uQ (scI (uQ (uQ (uQ (uQ (scI S 78) 1 0 0 (some 78)) 1 0 1 (some 1)) 1 0 2 (some 0)) 1 0 4 (some 2)) 77) 1 0 6 (some 77)) 1 0 7 (some 1)) 1 0 8 (some 2)) 78 0 0 1
def plI (S : PS) : PS := lpS (lpS (plA S) 60 1 12) 72 2 5
theorem wf.fm {S : PS} {G : GT} (h : wf S G) {r : Nat} (hm : (2, r) ∈ gP G) (a b z : Int32) : wf (fm S r a b z) G := ((h.uI hm 0 a).uI hm 1 b).uI hm 2 z

set_option maxHeartbeats 4000000 in
set_option maxRecDepth 100000 in
/-- form, while the pool grows -/
theorem c_X2_formN (l : Launch) (G : GT) (S : PS) (r : Nat) (hm2 : (2, r) ∈ gP G) (a b z : Int32) : CtV l G yX2_form wsX2_form (rmK 0 0) [.ref (gA G 2 r), .int a, .int b, .int z] S (fun S2 => S2 = fm S r a b z) := by
  refine ofCtV (cc := cX2_form) (nL := 4) RX2 (by decide +kernel) rfl rfl (Nat.le_of_ble_eq_true rfl) ?_
  intro p e s m args below meth c A Q ls C w hl hret
  have hx := C.1
  have hb := C.2.1
  have hown := C.2.2.2.1
  have hts := C.2.2.2.2.1
  have hi2 : ∀ w ∈ wsX20, w ∈ wsX2_form := by decide +kernel
  refine lv_aload_n hx hb dX2_form_0 rfl (lv_at hl 0 rfl) ?_
  refine lv_iload_n hx hb dX2_form_1 rfl (lv_at hl 1 rfl) ?_
  refine ppI 2 0 (by decide) rfl (by decide) rfl rfl tyX2_ok nmX2 rfl (by decide +kernel) C w hi2 (by decide +kernel) dX2_form_2 hm2 (fun H locs w => ?_)
  refine lv_aload_n hx hb dX2_form_5 rfl (lv_at hl 0 rfl) ?_
  refine lv_iload_n hx hb dX2_form_6 rfl (lv_at hl 2 rfl) ?_
  refine ppI 2 1 (by decide) rfl (by decide) rfl rfl tyX2_ok nmX2 rfl (by decide +kernel) C w hi2 (by decide +kernel) dX2_form_7 hm2 (fun H locs w => ?_)
  refine lv_aload_n hx hb dX2_form_10 rfl (lv_at hl 0 rfl) ?_
  refine lv_iload_n hx hb dX2_form_11 rfl (lv_at hl 3 rfl) ?_
  refine ppI 2 2 (by decide) rfl (by decide) rfl rfl tyX2_ok nmX2 rfl (by decide +kernel) C w hi2 (by decide +kernel) dX2_form_12 hm2 (fun H locs w => ?_)
  exact hret _ _ _ _ _ dX2_form_15 w rfl

set_option maxHeartbeats 4000000 in
set_option maxRecDepth 100000 in
/-- Plan() -/
theorem c_X1_init (l : Launch) (G0 : GT) (S : PS) (hm : (1, 0) ∈ gP G0) (hfr : ∀ c r, plF c r → (c, r) ∉ gP G0) (hwf : wf S G0) (hN : okN G0) : CtN l nK1 G0 plL yX1_init wsX1_init (rmG 2 32 43 337) [.ref (gA G0 1 0)] S (fun S2 => S2 = plI S) := by
  refine ofCtN (cc := cX1_init) (nL := 2) RX1 (by decide +kernel) rfl rfl rfl (Nat.le_of_ble_eq_true rfl) ?_
  intro p e s m args below meth c A Q ls C hKs hin w hl hret
  have hx := C.1
  have hb := C.2.1
  have hown := C.2.2.2.1
  have hts := C.2.2.2.2.1
  have hxa := xt.rf G0
  have hi1 : ∀ w ∈ wsX10, w ∈ wsX1_init := by decide +kernel
  refine lv_aload_n hx hb dX1_init_0 rfl (lv_at hl 0 rfl) ?_
  refine W.objInit hx hb hown (hts (.methodLink RX1 3 objectInit) (by decide +kernel)) (hts (.instanceMethod objectInit) (by decide +kernel)) (hts (.code objectInit ⟨#[0xb1]⟩ 1 none) (by decide +kernel)) rfl (by rw [C.2.2.1]; exact hl.1) rfl dX1_init_1 (Nat.le_of_ble_eq_true rfl) (Nat.le_of_ble_eq_true rfl) ?_
  refine W.eq (g2 := F0 m 4 ls []) rfl ?_
  refine lv_aload_n hx hb dX1_init_4 rfl (lv_at hl 0 rfl) ?_
  refine pnO 2 (r := 78) (by decide) rfl tyX2_ok dfl_ok2 C w (by decide +kernel) (by decide +kernel) (by decide +kernel) (by decide +kernel) dX1_init_5 hwf (hxa.no (hfr 2 78 (by unfold plF; omega)) (by first | decide | (simp only [plL1, List.mem_append, List.mem_cons, List.not_mem_nil, Prod.mk.injEq, scL_mem, or_false, false_or]; omega))) (Nat.le_of_ble_eq_true rfl) (Nat.le_of_ble_eq_true rfl) (fun G H hxt hwf C w => ?_)
  first | rw [hxt.a hm] at hl ⊢ | rw [hxt.a hm] at hl | rw [hxt.a hm] | skip
  replace hm := hxt.m hm
  replace hxa := hxa.tr hxt
  replace hN := hxt.N hN
  have h78 := hxt.nw (List.mem_cons_self ..)
  refine lv_dup hx hb dX1_init_8 rfl ?_
  refine cnN okK_T C trivial w hl dX1_init_9 (c_X2_init l G _ 78 (by omega) h78 (hxa.no (hfr 9 78 (by unfold plF; omega)) (by first | decide | (simp only [plL1, List.mem_append, List.mem_cons, List.not_mem_nil, Prod.mk.injEq, scL_mem, or_false, false_or]; omega))) hwf hN) gX1_init_X2_init_n11 rfl hKs.2.1 (by decide +kernel) (by decide +kernel) ⟨by decide, by decide, by decide +kernel⟩ rfl rfl (Nat.le_of_ble_eq_true rfl) ⟨(Nat.le_of_ble_eq_true rfl), (Nat.le_of_ble_eq_true rfl)⟩ ⟨(Nat.le_of_ble_eq_true rfl), (Nat.le_of_ble_eq_true rfl)⟩ (fun G S2 H locs hxt hp C w => ?_)
  subst hp
  replace hwf := hwf.sc hxt h78 (hxa.no (hfr 9 78 (by unfold plF; omega)) (by first | decide | (simp only [plL1, List.mem_append, List.mem_cons, List.not_mem_nil, Prod.mk.injEq, scL_mem, or_false, false_or]; omega)))
  first | rw [hxt.a hm] at hl ⊢ | rw [hxt.a hm] at hl | rw [hxt.a hm] | skip
  first | rw [hxt.a h78] at hl ⊢ | rw [hxt.a h78] at hl | rw [hxt.a h78] | skip
  replace hm := hxt.m hm
  replace h78 := hxt.m h78
  replace hxa := hxa.tr hxt
  replace hN := hxt.N hN
  refine ppF (ty := .object "LevelScores$Score") 1 0 2 (by decide) rfl (by decide) rfl rfl tyX1_ok nmX1 rfl hin rfl (by decide +kernel) (fun _ => rfl) (fun _ => rfl) C w (by decide +kernel) (by decide +kernel) dX1_init_12 hm (fun H locs w => ?_)
  replace hwf := hwf.uQ (k := 0) (t := 2) hm (tgt_f (by decide) rfl) h78
  refine lv_aload_n hx hb dX1_init_15 rfl (lv_at hl 0 rfl) ?_
  refine lv_bipush (v := 12) hx hb dX1_init_16 (by decide) ?_
  refine pnQ (r := 1) C w (by decide +kernel) hKs.1 dX1_init_18 (by decide) rfl hN.2.2.2.2.2.2.1 (by decide) hwf (hxa.no (hfr 10 1 (by unfold plF; omega)) (by first | decide | (simp only [plL1, List.mem_append, List.mem_cons, List.not_mem_nil, Prod.mk.injEq, scL_mem, or_false, false_or]; omega))) (Nat.le_of_ble_eq_true rfl) (Nat.le_of_ble_eq_true rfl) (fun G H hxt hwf C w => ?_)
  first | rw [hxt.a hm] at hl ⊢ | rw [hxt.a hm] at hl | rw [hxt.a hm] | skip
  first | rw [hxt.a h78] at hl ⊢ | rw [hxt.a h78] at hl | rw [hxt.a h78] | skip
  replace hm := hxt.m hm
  replace h78 := hxt.m h78
  replace hxa := hxa.tr hxt
  replace hN := hxt.N hN
  have h101 := hxt.nw (List.mem_cons_self ..)
  refine ppF (ty := .array (.object "LevelScores$Score")) 1 1 10 (by decide) rfl (by decide) rfl rfl tyX1_ok nmX1 rfl hin rfl (by decide +kernel) (fun _ => rfl) (fun _ => rfl) C w (by decide +kernel) (by decide +kernel) dX1_init_21 hm (fun H locs w => ?_)
  replace hwf := hwf.uQ (k := 1) (t := 10) hm (tgt_f (by decide) rfl) h101
  refine lv_aload_n hx hb dX1_init_24 rfl (lv_at hl 0 rfl) ?_
  refine lv_bipush (v := 12) hx hb dX1_init_25 (by decide) ?_
  refine pnI (r := 0) C w (by decide +kernel) dX1_init_27 (by decide) rfl hN.2.2.2.2.1 (by decide) hwf (hxa.no (hfr 8 0 (by unfold plF; omega)) (by first | decide | (simp only [plL1, List.mem_append, List.mem_cons, List.not_mem_nil, Prod.mk.injEq, scL_mem, or_false, false_or]; omega))) (Nat.le_of_ble_eq_true rfl) (Nat.le_of_ble_eq_true rfl) (fun G H hxt hwf C w => ?_)
  first | rw [hxt.a hm] at hl ⊢ | rw [hxt.a hm] at hl | rw [hxt.a hm] | skip
  first | rw [hxt.a h78] at hl ⊢ | rw [hxt.a h78] at hl | rw [hxt.a h78] | skip
  first | rw [hxt.a h101] at hl ⊢ | rw [hxt.a h101] at hl | rw [hxt.a h101] | skip
  replace hm := hxt.m hm
  replace h78 := hxt.m h78
  replace h101 := hxt.m h101
  replace hxa := hxa.tr hxt
  replace hN := hxt.N hN
  have h80 := hxt.nw (List.mem_cons_self ..)
  refine ppF (ty := .array .int) 1 2 8 (by decide) rfl (by decide) rfl rfl tyX1_ok nmX1 rfl hin rfl (by decide +kernel) (fun _ => rfl) (fun _ => rfl) C w (by decide +kernel) (by decide +kernel) dX1_init_29 hm (fun H locs w => ?_)
  replace hwf := hwf.uQ (k := 2) (t := 8) hm (tgt_f (by decide) rfl) h80
  refine lv_aload_n hx hb dX1_init_32 rfl (lv_at hl 0 rfl) ?_
  refine lv_iconst (v := 5) hx hb dX1_init_33 (by decide) ?_
  refine pnQ (r := 2) C w (by decide +kernel) hKs.1 dX1_init_34 (by decide) rfl hN.2.2.2.2.2.2.2 (by decide) hwf (hxa.no (hfr 10 2 (by unfold plF; omega)) (by first | decide | (simp only [plL1, List.mem_append, List.mem_cons, List.not_mem_nil, Prod.mk.injEq, scL_mem, or_false, false_or]; omega))) (Nat.le_of_ble_eq_true rfl) (Nat.le_of_ble_eq_true rfl) (fun G H hxt hwf C w => ?_)
  first | rw [hxt.a hm] at hl ⊢ | rw [hxt.a hm] at hl | rw [hxt.a hm] | skip
  first | rw [hxt.a h78] at hl ⊢ | rw [hxt.a h78] at hl | rw [hxt.a h78] | skip
  first | rw [hxt.a h101] at hl ⊢ | rw [hxt.a h101] at hl | rw [hxt.a h101] | skip
  first | rw [hxt.a h80] at hl ⊢ | rw [hxt.a h80] at hl | rw [hxt.a h80] | skip
  replace hm := hxt.m hm
  replace h78 := hxt.m h78
  replace h101 := hxt.m h101
  replace h80 := hxt.m h80
  replace hxa := hxa.tr hxt
  replace hN := hxt.N hN
  have h102 := hxt.nw (List.mem_cons_self ..)
  refine ppF (ty := .array (.object "LevelScores$Score")) 1 4 10 (by decide) rfl (by decide) rfl rfl tyX1_ok nmX1 rfl hin rfl (by decide +kernel) (fun _ => rfl) (fun _ => rfl) C w (by decide +kernel) (by decide +kernel) dX1_init_37 hm (fun H locs w => ?_)
  replace hwf := hwf.uQ (k := 4) (t := 10) hm (tgt_f (by decide) rfl) h102
  refine lv_aload_n hx hb dX1_init_40 rfl (lv_at hl 0 rfl) ?_
  refine pnO 2 (r := 77) (by decide) rfl tyX2_ok dfl_ok2 C w (by decide +kernel) (by decide +kernel) (by decide +kernel) (by decide +kernel) dX1_init_41 hwf (hxa.no (hfr 2 77 (by unfold plF; omega)) (by first | decide | (simp only [plL1, List.mem_append, List.mem_cons, List.not_mem_nil, Prod.mk.injEq, scL_mem, or_false, false_or]; omega))) (Nat.le_of_ble_eq_true rfl) (Nat.le_of_ble_eq_true rfl) (fun G H hxt hwf C w => ?_)
  first | rw [hxt.a hm] at hl ⊢ | rw [hxt.a hm] at hl | rw [hxt.a hm] | skip
  first | rw [hxt.a h78] at hl ⊢ | rw [hxt.a h78] at hl | rw [hxt.a h78] | skip
  first | rw [hxt.a h101] at hl ⊢ | rw [hxt.a h101] at hl | rw [hxt.a h101] | skip
  first | rw [hxt.a h80] at hl ⊢ | rw [hxt.a h80] at hl | rw [hxt.a h80] | skip
  first | rw [hxt.a h102] at hl ⊢ | rw [hxt.a h102] at hl | rw [hxt.a h102] | skip
  replace hm := hxt.m hm
  replace h78 := hxt.m h78
  replace h101 := hxt.m h101
  replace h80 := hxt.m h80
  replace h102 := hxt.m h102
  replace hxa := hxa.tr hxt
  replace hN := hxt.N hN
  have h77 := hxt.nw (List.mem_cons_self ..)
  refine lv_dup hx hb dX1_init_44 rfl ?_
  refine cnN okK_T C trivial w hl dX1_init_45 (c_X2_init l G _ 77 (by omega) h77 (hxa.no (hfr 9 77 (by unfold plF; omega)) (by first | decide | (simp only [plL1, List.mem_append, List.mem_cons, List.not_mem_nil, Prod.mk.injEq, scL_mem, or_false, false_or]; omega))) hwf hN) gX1_init_X2_init_n11 rfl hKs.2.1 (by decide +kernel) (by decide +kernel) ⟨by decide, by decide, by decide +kernel⟩ rfl rfl (Nat.le_of_ble_eq_true rfl) ⟨(Nat.le_of_ble_eq_true rfl), (Nat.le_of_ble_eq_true rfl)⟩ ⟨(Nat.le_of_ble_eq_true rfl), (Nat.le_of_ble_eq_true rfl)⟩ (fun G S2 H locs hxt hp C w => ?_)
  subst hp
  replace hwf := hwf.sc hxt h77 (hxa.no (hfr 9 77 (by unfold plF; omega)) (by first | decide | (simp only [plL1, List.mem_append, List.mem_cons, List.not_mem_nil, Prod.mk.injEq, scL_mem, or_false, false_or]; omega)))
  first | rw [hxt.a hm] at hl ⊢ | rw [hxt.a hm] at hl | rw [hxt.a hm] | skip
  first | rw [hxt.a h78] at hl ⊢ | rw [hxt.a h78] at hl | rw [hxt.a h78] | skip
  first | rw [hxt.a h101] at hl ⊢ | rw [hxt.a h101] at hl | rw [hxt.a h101] | skip
  first | rw [hxt.a h80] at hl ⊢ | rw [hxt.a h80] at hl | rw [hxt.a h80] | skip
  first | rw [hxt.a h102] at hl ⊢ | rw [hxt.a h102] at hl | rw [hxt.a h102] | skip
  first | rw [hxt.a h77] at hl ⊢ | rw [hxt.a h77] at hl | rw [hxt.a h77] | skip
  replace hm := hxt.m hm
  replace h78 := hxt.m h78
  replace h101 := hxt.m h101
  replace h80 := hxt.m h80
  replace h102 := hxt.m h102
  replace h77 := hxt.m h77
  replace hxa := hxa.tr hxt
  replace hN := hxt.N hN
  refine ppQ (D := "LevelScores$Score") 1 6 2 (by decide) rfl (by decide) rfl rfl tyX1_ok nmX1 rfl (by decide +kernel) C w (by decide +kernel) (by decide +kernel) dX1_init_48 hm (fun H locs w => ?_)
  replace hwf := hwf.uQ (k := 6) (t := 2) hm (tgt_f (by decide) rfl) h77
  refine lv_aload_n hx hb dX1_init_51 rfl (lv_at hl 0 rfl) ?_
  refine pnO 4 (r := 1) (by decide) rfl tyX4_ok dfl_ok4 C w (by decide +kernel) (by decide +kernel) (by decide +kernel) (by decide +kernel) dX1_init_52 hwf (hxa.no (hfr 4 1 (by unfold plF; omega)) (by first | decide | (simp only [plL1, List.mem_append, List.mem_cons, List.not_mem_nil, Prod.mk.injEq, scL_mem, or_false, false_or]; omega))) (Nat.le_of_ble_eq_true rfl) (Nat.le_of_ble_eq_true rfl) (fun G H hxt hwf C w => ?_)
  first | rw [hxt.a hm] at hl ⊢ | rw [hxt.a hm] at hl | rw [hxt.a hm] | skip
  first | rw [hxt.a h78] at hl ⊢ | rw [hxt.a h78] at hl | rw [hxt.a h78] | skip
  first | rw [hxt.a h101] at hl ⊢ | rw [hxt.a h101] at hl | rw [hxt.a h101] | skip
  first | rw [hxt.a h80] at hl ⊢ | rw [hxt.a h80] at hl | rw [hxt.a h80] | skip
  first | rw [hxt.a h102] at hl ⊢ | rw [hxt.a h102] at hl | rw [hxt.a h102] | skip
  first | rw [hxt.a h77] at hl ⊢ | rw [hxt.a h77] at hl | rw [hxt.a h77] | skip
  replace hm := hxt.m hm
  replace h78 := hxt.m h78
  replace h101 := hxt.m h101
  replace h80 := hxt.m h80
  replace h102 := hxt.m h102
  replace h77 := hxt.m h77
  replace hxa := hxa.tr hxt
  replace hN := hxt.N hN
  have h41 := hxt.nw (List.mem_cons_self ..)
  refine lv_dup hx hb dX1_init_55 rfl ?_
  refine cnN okK_T C trivial w hl dX1_init_56 (c_X4_init l G _ 1) gX1_init_X4_init_n34 rfl hKs.2.2 (by decide +kernel) (by decide +kernel) ⟨by decide, by decide, by decide +kernel⟩ rfl rfl (Nat.le_of_ble_eq_true rfl) ⟨(Nat.le_of_ble_eq_true rfl), (Nat.le_of_ble_eq_true rfl)⟩ ⟨(Nat.le_of_ble_eq_true rfl), (Nat.le_of_ble_eq_true rfl)⟩ (fun G S2 H locs hxt hp C w => ?_)
  subst hp
  replace hwf := hwf.gr hxt (fun x h => by cases h)
  first | rw [hxt.a hm] at hl ⊢ | rw [hxt.a hm] at hl | rw [hxt.a hm] | skip
  first | rw [hxt.a h78] at hl ⊢ | rw [hxt.a h78] at hl | rw [hxt.a h78] | skip
  first | rw [hxt.a h101] at hl ⊢ | rw [hxt.a h101] at hl | rw [hxt.a h101] | skip
  first | rw [hxt.a h80] at hl ⊢ | rw [hxt.a h80] at hl | rw [hxt.a h80] | skip
  first | rw [hxt.a h102] at hl ⊢ | rw [hxt.a h102] at hl | rw [hxt.a h102] | skip
  first | rw [hxt.a h77] at hl ⊢ | rw [hxt.a h77] at hl | rw [hxt.a h77] | skip
  first | rw [hxt.a h41] at hl ⊢ | rw [hxt.a h41] at hl | rw [hxt.a h41] | skip
  replace hm := hxt.m hm
  replace h78 := hxt.m h78
  replace h101 := hxt.m h101
  replace h80 := hxt.m h80
  replace h102 := hxt.m h102
  replace h77 := hxt.m h77
  replace h41 := hxt.m h41
  replace hxa := hxa.tr hxt
  replace hN := hxt.N hN
  refine ppF (ty := .object "LevelScores$Wide") 1 7 4 (by decide) rfl (by decide) rfl rfl tyX1_ok nmX1 rfl hin rfl (by decide +kernel) (fun _ => rfl) (fun _ => rfl) C w (by decide +kernel) (by decide +kernel) dX1_init_59 hm (fun H locs w => ?_)
  replace hwf := hwf.uQ (k := 7) (t := 4) hm (tgt_f (by decide) rfl) h41
  refine lv_aload_n hx hb dX1_init_62 rfl (lv_at hl 0 rfl) ?_
  refine pnO 4 (r := 2) (by decide) rfl tyX4_ok dfl_ok4 C w (by decide +kernel) (by decide +kernel) (by decide +kernel) (by decide +kernel) dX1_init_63 hwf (hxa.no (hfr 4 2 (by unfold plF; omega)) (by first | decide | (simp only [plL1, List.mem_append, List.mem_cons, List.not_mem_nil, Prod.mk.injEq, scL_mem, or_false, false_or]; omega))) (Nat.le_of_ble_eq_true rfl) (Nat.le_of_ble_eq_true rfl) (fun G H hxt hwf C w => ?_)
  first | rw [hxt.a hm] at hl ⊢ | rw [hxt.a hm] at hl | rw [hxt.a hm] | skip
  first | rw [hxt.a h78] at hl ⊢ | rw [hxt.a h78] at hl | rw [hxt.a h78] | skip
  first | rw [hxt.a h101] at hl ⊢ | rw [hxt.a h101] at hl | rw [hxt.a h101] | skip
  first | rw [hxt.a h80] at hl ⊢ | rw [hxt.a h80] at hl | rw [hxt.a h80] | skip
  first | rw [hxt.a h102] at hl ⊢ | rw [hxt.a h102] at hl | rw [hxt.a h102] | skip
  first | rw [hxt.a h77] at hl ⊢ | rw [hxt.a h77] at hl | rw [hxt.a h77] | skip
  first | rw [hxt.a h41] at hl ⊢ | rw [hxt.a h41] at hl | rw [hxt.a h41] | skip
  replace hm := hxt.m hm
  replace h78 := hxt.m h78
  replace h101 := hxt.m h101
  replace h80 := hxt.m h80
  replace h102 := hxt.m h102
  replace h77 := hxt.m h77
  replace h41 := hxt.m h41
  replace hxa := hxa.tr hxt
  replace hN := hxt.N hN
  have h42 := hxt.nw (List.mem_cons_self ..)
  refine lv_dup hx hb dX1_init_66 rfl ?_
  refine cnN okK_T C trivial w hl dX1_init_67 (c_X4_init l G _ 2) gX1_init_X4_init_n34 rfl hKs.2.2 (by decide +kernel) (by decide +kernel) ⟨by decide, by decide, by decide +kernel⟩ rfl rfl (Nat.le_of_ble_eq_true rfl) ⟨(Nat.le_of_ble_eq_true rfl), (Nat.le_of_ble_eq_true rfl)⟩ ⟨(Nat.le_of_ble_eq_true rfl), (Nat.le_of_ble_eq_true rfl)⟩ (fun G S2 H locs hxt hp C w => ?_)
  subst hp
  replace hwf := hwf.gr hxt (fun x h => by cases h)
  first | rw [hxt.a hm] at hl ⊢ | rw [hxt.a hm] at hl | rw [hxt.a hm] | skip
  first | rw [hxt.a h78] at hl ⊢ | rw [hxt.a h78] at hl | rw [hxt.a h78] | skip
  first | rw [hxt.a h101] at hl ⊢ | rw [hxt.a h101] at hl | rw [hxt.a h101] | skip
  first | rw [hxt.a h80] at hl ⊢ | rw [hxt.a h80] at hl | rw [hxt.a h80] | skip
  first | rw [hxt.a h102] at hl ⊢ | rw [hxt.a h102] at hl | rw [hxt.a h102] | skip
  first | rw [hxt.a h77] at hl ⊢ | rw [hxt.a h77] at hl | rw [hxt.a h77] | skip
  first | rw [hxt.a h41] at hl ⊢ | rw [hxt.a h41] at hl | rw [hxt.a h41] | skip
  first | rw [hxt.a h42] at hl ⊢ | rw [hxt.a h42] at hl | rw [hxt.a h42] | skip
  replace hm := hxt.m hm
  replace h78 := hxt.m h78
  replace h101 := hxt.m h101
  replace h80 := hxt.m h80
  replace h102 := hxt.m h102
  replace h77 := hxt.m h77
  replace h41 := hxt.m h41
  replace h42 := hxt.m h42
  replace hxa := hxa.tr hxt
  replace hN := hxt.N hN
  refine ppF (ty := .object "LevelScores$Wide") 1 8 4 (by decide) rfl (by decide) rfl rfl tyX1_ok nmX1 rfl hin rfl (by decide +kernel) (fun _ => rfl) (fun _ => rfl) C w (by decide +kernel) (by decide +kernel) dX1_init_70 hm (fun H locs w => ?_)
  replace hwf := hwf.uQ (k := 8) (t := 4) hm (tgt_f (by decide) rfl) h42
  refine lv_aload_n hx hb dX1_init_73 rfl (lv_at hl 0 rfl) ?_
  refine pgQ 1 0 2 (by decide) rfl (by decide) rfl rfl C w hi1 (by decide +kernel) dX1_init_74 hm (r1 := 78) (by rfl) ?_
  refine lv_iconst (v := 0) hx hb dX1_init_77 (by decide) ?_
  refine lv_iconst (v := 0) hx hb dX1_init_78 (by decide) ?_
  refine lv_iconst (v := 1) hx hb dX1_init_79 (by decide) ?_
  refine cvV (n := 3) (hf := ⟨(Nat.le_of_ble_eq_true rfl), (Nat.le_of_ble_eq_true rfl)⟩) C w hl dX1_init_80 (c_X2_formN l G _ 78 h78 0 0 1) gX1_init_X2_form rfl (by decide +kernel) rfl rfl (Nat.le_of_ble_eq_true rfl) ⟨(Nat.le_of_ble_eq_true rfl), (Nat.le_of_ble_eq_true rfl)⟩ (by decide) rfl h78 (fun S2 H locs hp w => ?_)
  subst hp
  replace hwf := hwf.fm h78 0 0 1
  have hwf : wf (plA S) G := hwf
  have w : Wd G A s.heap (plA S) H locs := w
  have hxa : xt G0 G plL1 := hxa
  refine lv_iconst (v := 0) hx hb dX1_init_83 (by decide) ?_
  refine lv_istore_n hx hb dX1_init_84 rfl hl (by decide) rfl (fun ls hl => ?_)
  have loop_85 : ∀ (f9 : Nat) (j : Nat) (G : GT) (H : Heap) (locs : List Loc) (ls : Array Slot), (j + f9 = 12) → (Cx p s m args meth c cX1_init RX1 wsX1_init 2 G A) → (xt G0 G (plL1 ++ scL 60 j)) → (wf (lpS (plA S) 60 1 j) G) → (okN G) → ((1, 0) ∈ gP G) → ((10, 1) ∈ gP G) → ((10, 2) ∈ gP G) → Wd G A s.heap (lpS (plA S) 60 1 j) H locs → lv_has ls 2 [(0, .ref (gA G 1 0)), (1, .int (nI j))] → W p l e (rmG 2 32 43 337) s m args below meth c H locs (9 + 2 * j) (65 + 16 * j) Q (F0 m 85 ls []) := by
    intro f9
    induction f9 with
    | zero =>
      intro j G H locs ls hj C hxa hwf hN hm h101 h102 w hl
      refine lv_iload_n hx hb dX1_init_85 rfl (lv_at hl 1 rfl) ?_
      refine lv_bipush (v := 12) hx hb dX1_init_86 (by decide) ?_
      refine lv_icmp_ge (tgt := 110) hx hb dX1_init_88 (by decide) (fun c_88 => ?_) (fun c_88 => absurd (nI_le (a := 12) (by omega) (by omega)) c_88)
      have ej : j = 12 := by omega
      subst ej
      refine lv_iconst (v := 0) hx hb dX1_init_110 (by decide) ?_
      refine lv_istore_n hx hb dX1_init_111 rfl hl (by decide) rfl (fun ls hl => ?_)
      have loop_112 : ∀ (f9 : Nat) (j : Nat) (G : GT) (H : Heap) (locs : List Loc) (ls : Array Slot), (j + f9 = 5) → (Cx p s m args meth c cX1_init RX1 wsX1_init 2 G A) → (xt G0 G ((plL1 ++ scL 60 12) ++ scL 72 j)) → (wf (lpS (lpS (plA S) 60 1 12) 72 2 j) G) → (okN G) → ((1, 0) ∈ gP G) → ((10, 1) ∈ gP G) → ((10, 2) ∈ gP G) → Wd G A s.heap (lpS (lpS (plA S) 60 1 12) 72 2 j) H locs → lv_has ls 2 [(0, .ref (gA G 1 0)), (1, .int (nI j))] → W p l e (rmG 2 32 43 337) s m args below meth c H locs (33 + 2 * j) (257 + 16 * j) Q (F0 m 112 ls []) := by
        intro f9
        induction f9 with
        | zero =>
          intro j G H locs ls hj C hxa hwf hN hm h101 h102 w hl
          refine lv_iload_n hx hb dX1_init_112 rfl (lv_at hl 1 rfl) ?_
          refine lv_iconst (v := 5) hx hb dX1_init_113 (by decide) ?_
          refine lv_icmp_ge (tgt := 136) hx hb dX1_init_114 (by decide) (fun c_114 => ?_) (fun c_114 => absurd (nI_le (a := 5) (by omega) (by omega)) c_114)
          have ej : j = 5 := by omega
          subst ej
          exact hret _ _ _ _ _ _ dX1_init_136 hxa w rfl
        | succ f9 ih =>
          intro j G H locs ls hj C hxa hwf hN hm h101 h102 w hl
          refine lv_iload_n hx hb dX1_init_112 rfl (lv_at hl 1 rfl) ?_
          refine lv_iconst (v := 5) hx hb dX1_init_113 (by decide) ?_
          refine lv_icmp_ge (tgt := 136) hx hb dX1_init_114 (by decide) (fun c_114 => absurd c_114 (nI_ge (b := 5) (by omega) (by omega))) (fun c_114 => ?_)
          refine lv_aload_n hx hb dX1_init_117 rfl (lv_at hl 0 rfl) ?_
          refine pgQ 1 4 10 (by decide) rfl (by decide) rfl rfl C w hi1 (by decide +kernel) dX1_init_118 hm (r1 := 2) (by rfl) ?_
          refine lv_iload_n hx hb dX1_init_121 rfl (lv_at hl 1 rfl) ?_
          refine pnO 2 (r := (72 + j)) (by decide) rfl tyX2_ok dfl_ok2 C w (by decide +kernel) (by decide +kernel) (by decide +kernel) (by decide +kernel) dX1_init_122 hwf (hxa.no (hfr 2 (72 + j) (by unfold plF; omega)) (by first | decide | (simp only [plL1, List.mem_append, List.mem_cons, List.not_mem_nil, Prod.mk.injEq, scL_mem, or_false, false_or]; omega))) (by show 33 + 2 * j + 1 ≤ 43; omega) (by show 257 + 16 * j + 4 ≤ 337; omega) (fun G H hxt hwf C w => ?_)
          first | rw [hxt.a hm] at hl ⊢ | rw [hxt.a hm] at hl | rw [hxt.a hm] | skip
          first | rw [hxt.a h101] at hl ⊢ | rw [hxt.a h101] at hl | rw [hxt.a h101] | skip
          first | rw [hxt.a h102] at hl ⊢ | rw [hxt.a h102] at hl | rw [hxt.a h102] | skip
          replace hm := hxt.m hm
          replace h101 := hxt.m h101
          replace h102 := hxt.m h102
          replace hxa := hxa.tr hxt
          replace hN := hxt.N hN
          have hs := hxt.nw (List.mem_cons_self ..)
          refine lv_dup hx hb dX1_init_125 rfl ?_
          refine cnN okK_T C trivial w hl dX1_init_126 (c_X2_init l G _ (72 + j) (by omega) hs (hxa.no (hfr 9 (72 + j) (by unfold plF; omega)) (by first | decide | (simp only [plL1, List.mem_append, List.mem_cons, List.not_mem_nil, Prod.mk.injEq, scL_mem, or_false, false_or]; omega))) hwf hN) gX1_init_X2_init_n11 rfl hKs.2.1 (by decide +kernel) (by decide +kernel) ⟨by decide, by decide, by decide +kernel⟩ rfl rfl (Nat.le_of_ble_eq_true rfl) ⟨(Nat.le_of_ble_eq_true rfl), (Nat.le_of_ble_eq_true rfl)⟩ ⟨by show 33 + 2 * j + 1 + 1 ≤ 43; omega, by show 257 + 16 * j + 4 + 12 ≤ 337; omega⟩ (fun G S2 H locs hxt hp C w => ?_)
          subst hp
          replace hwf := hwf.sc hxt hs (hxa.no (hfr 9 (72 + j) (by unfold plF; omega)) (by first | decide | (simp only [plL1, List.mem_append, List.mem_cons, List.not_mem_nil, Prod.mk.injEq, scL_mem, or_false, false_or]; omega)))
          first | rw [hxt.a hm] at hl ⊢ | rw [hxt.a hm] at hl | rw [hxt.a hm] | skip
          first | rw [hxt.a h101] at hl ⊢ | rw [hxt.a h101] at hl | rw [hxt.a h101] | skip
          first | rw [hxt.a h102] at hl ⊢ | rw [hxt.a h102] at hl | rw [hxt.a h102] | skip
          first | rw [hxt.a hs] at hl ⊢ | rw [hxt.a hs] at hl | rw [hxt.a hs] | skip
          replace hm := hxt.m hm
          replace h101 := hxt.m h101
          replace h102 := hxt.m h102
          replace hs := hxt.m hs
          replace hxa := hxa.tr hxt
          replace hN := hxt.N hN
          refine psQ C w dX1_init_129 h102 hs (n := j) rfl hN.2.2.2.2.2.2.2 (by omega) (by decide) (fun H locs w => ?_)
          replace hwf := hwf.uQ (k := j) (t := 2) h102 tgt_10 hs
          rw [lpS_s] at w hwf
          refine lv_iinc (v := nI (j + 1)) hx hb dX1_init_130 hl (k := 1) rfl (nI_1 j) (by decide) rfl (fun ls hl => ?_)
          refine lv_goto (tgt := 112) hx hb dX1_init_133 (by decide) ?_
          rw [show 33 + 2 * j + 1 + 1 = 33 + 2 * (j + 1) by omega, show 257 + 16 * j + 4 + 12 = 257 + 16 * (j + 1) by omega]
          exact ih (j + 1) G _ _ _ (by omega) C (by rw [List.append_assoc, List.append_assoc] at hxa; exact hxa) hwf hN hm h101 h102 w (lv_sub hl [1, 0] rfl)
      rw [show 9 + 2 * 12 = 33 + 2 * 0 from rfl, show 65 + 16 * 12 = 257 + 16 * 0 from rfl]
      exact loop_112 5 0 G _ _ _ (by omega) C (by show xt G0 G ((plL1 ++ scL 60 12) ++ []); rw [List.append_nil]; exact hxa) (by rw [lpS_0]; exact hwf) hN hm h101 h102 (by rw [lpS_0]; exact w) (lv_sub hl [1, 0] rfl)
    | succ f9 ih =>
      intro j G H locs ls hj C hxa hwf hN hm h101 h102 w hl
      refine lv_iload_n hx hb dX1_init_85 rfl (lv_at hl 1 rfl) ?_
      refine lv_bipush (v := 12) hx hb dX1_init_86 (by decide) ?_
      refine lv_icmp_ge (tgt := 110) hx hb dX1_init_88 (by decide) (fun c_88 => absurd c_88 (nI_ge (b := 12) (by omega) (by omega))) (fun c_88 => ?_)
      refine lv_aload_n hx hb dX1_init_91 rfl (lv_at hl 0 rfl) ?_
      refine pgQ 1 1 10 (by decide) rfl (by decide) rfl rfl C w hi1 (by decide +kernel) dX1_init_92 hm (r1 := 1) (by rfl) ?_
      refine lv_iload_n hx hb dX1_init_95 rfl (lv_at hl 1 rfl) ?_
      refine pnO 2 (r := (60 + j)) (by decide) rfl tyX2_ok dfl_ok2 C w (by decide +kernel) (by decide +kernel) (by decide +kernel) (by decide +kernel) dX1_init_96 hwf (hxa.no (hfr 2 (60 + j) (by unfold plF; omega)) (by first | decide | (simp only [plL1, List.mem_append, List.mem_cons, List.not_mem_nil, Prod.mk.injEq, scL_mem, or_false, false_or]; omega))) (by show 9 + 2 * j + 1 ≤ 43; omega) (by show 65 + 16 * j + 4 ≤ 337; omega) (fun G H hxt hwf C w => ?_)
      first | rw [hxt.a hm] at hl ⊢ | rw [hxt.a hm] at hl | rw [hxt.a hm] | skip
      first | rw [hxt.a h101] at hl ⊢ | rw [hxt.a h101] at hl | rw [hxt.a h101] | skip
      first | rw [hxt.a h102] at hl ⊢ | rw [hxt.a h102] at hl | rw [hxt.a h102] | skip
      replace hm := hxt.m hm
      replace h101 := hxt.m h101
      replace h102 := hxt.m h102
      replace hxa := hxa.tr hxt
      replace hN := hxt.N hN
      have hs := hxt.nw (List.mem_cons_self ..)
      refine lv_dup hx hb dX1_init_99 rfl ?_
      refine cnN okK_T C trivial w hl dX1_init_100 (c_X2_init l G _ (60 + j) (by omega) hs (hxa.no (hfr 9 (60 + j) (by unfold plF; omega)) (by first | decide | (simp only [plL1, List.mem_append, List.mem_cons, List.not_mem_nil, Prod.mk.injEq, scL_mem, or_false, false_or]; omega))) hwf hN) gX1_init_X2_init_n11 rfl hKs.2.1 (by decide +kernel) (by decide +kernel) ⟨by decide, by decide, by decide +kernel⟩ rfl rfl (Nat.le_of_ble_eq_true rfl) ⟨(Nat.le_of_ble_eq_true rfl), (Nat.le_of_ble_eq_true rfl)⟩ ⟨by show 9 + 2 * j + 1 + 1 ≤ 43; omega, by show 65 + 16 * j + 4 + 12 ≤ 337; omega⟩ (fun G S2 H locs hxt hp C w => ?_)
      subst hp
      replace hwf := hwf.sc hxt hs (hxa.no (hfr 9 (60 + j) (by unfold plF; omega)) (by first | decide | (simp only [plL1, List.mem_append, List.mem_cons, List.not_mem_nil, Prod.mk.injEq, scL_mem, or_false, false_or]; omega)))
      first | rw [hxt.a hm] at hl ⊢ | rw [hxt.a hm] at hl | rw [hxt.a hm] | skip
      first | rw [hxt.a h101] at hl ⊢ | rw [hxt.a h101] at hl | rw [hxt.a h101] | skip
      first | rw [hxt.a h102] at hl ⊢ | rw [hxt.a h102] at hl | rw [hxt.a h102] | skip
      first | rw [hxt.a hs] at hl ⊢ | rw [hxt.a hs] at hl | rw [hxt.a hs] | skip
      replace hm := hxt.m hm
      replace h101 := hxt.m h101
      replace h102 := hxt.m h102
      replace hs := hxt.m hs
      replace hxa := hxa.tr hxt
      replace hN := hxt.N hN
      refine psQ C w dX1_init_103 h101 hs (n := j) rfl hN.2.2.2.2.2.2.1 (by omega) (by decide) (fun H locs w => ?_)
      replace hwf := hwf.uQ (k := j) (t := 2) h101 tgt_10 hs
      rw [lpS_s] at w hwf
      refine lv_iinc (v := nI (j + 1)) hx hb dX1_init_104 hl (k := 1) rfl (nI_1 j) (by decide) rfl (fun ls hl => ?_)
      refine lv_goto (tgt := 85) hx hb dX1_init_107 (by decide) ?_
      rw [show 9 + 2 * j + 1 + 1 = 9 + 2 * (j + 1) by omega, show 65 + 16 * j + 4 + 12 = 65 + 16 * (j + 1) by omega]
      exact ih (j + 1) G _ _ _ (by omega) C (by rw [List.append_assoc, List.append_assoc] at hxa; exact hxa) hwf hN hm h101 h102 w (lv_sub hl [1, 0] rfl)
  exact loop_85 12 0 G _ _ _ (by omega) C (by show xt G0 G (plL1 ++ []); rw [List.append_nil]; exact hxa) (by rw [lpS_0]; exact hwf) hN hm h101 h102 (by rw [lpS_0]; exact w) (lv_sub hl [1, 0] rfl)
