def exF (c r : Nat) : Prop := ¬ (c = 5 ∧ r = 0)
def exL : List (Nat × Nat) := ((((((((([(10, 0)] ++ scL 0 60) ++ [(3, 0)]) ++ [(7, 0)]) ++ [(0, 0)]) ++ [(7, 1), (7, 2)]) ++ [(1, 0)]) ++ plL) ++ [(4, 0)]) ++ [])
def exI (S : PS) : PS := uQ (uQ (plI (uQ (uQ (uQ (uQ (uQ (lpS (uQ S 5 0 0 (some 0)) 0 0 60) 3 0 0 (some 0)) 5 0 2 (some 0)) 0 0 0 (some 1)) 0 0 2 (some 2)) 5 0 3 (some 0))) 5 0 4 (some 0)) 5 0 5 (some 0)
theorem wf.sc2 {S : PS} {G : GT} {r : Nat} (h : wf S G) (hm : (2, r) ∈ gP G) (hm9 : (9, r) ∈ gP G) : wf (scI S r) G := (h.uI hm 0 (-1)).uQ (t := 9) hm (tgt_f (by decide) rfl) hm9
theorem wf.lp {S : PS} {G : GT} {a q : Nat} (h : wf S G) (h10 : (10, q) ∈ gP G) : ∀ j, (∀ i, i < j → (2, a + i) ∈ gP G ∧ (9, a + i) ∈ gP G) → wf (lpS S a q j) G := by
  intro j
  induction j with
  | zero => intro _; rw [lpS_0]; exact h
  | succ j ih =>
    intro hj
    rw [← lpS_s]
    exact ((ih (fun i hi => hj i (by omega))).sc2 (hj j (by omega)).1 (hj j (by omega)).2).uQ (k := j) (t := 2) h10 tgt_10 (hj j (by omega)).1
theorem plL_mem {c r : Nat} : (c, r) ∈ plL ↔ plF c r := by
  unfold plL plL1 plF
  simp only [List.mem_append, List.mem_cons, List.not_mem_nil, Prod.mk.injEq, scL_mem, or_false, false_or]
  omega
theorem wf.pl {S : PS} {G G' : GT} (h : wf S G) (hx : xt G G' plL) (hm : (1, 0) ∈ gP G) (hf : ∀ c r, plF c r → (c, r) ∉ gP G) : wf (plI S) G' := by
  have h0 : wf S G' := h.gr hx (fun x q => hf x.1 x.2 (plL_mem.mp q))
  have m : ∀ c r, plF c r → (c, r) ∈ gP G' := fun c r q => hx.nw (plL_mem.mpr q)
  have m1 := hx.m hm
  have h1 : wf (plA S) G' := by
    refine wf.fm ?_ (m 2 78 (by unfold plF; omega)) 0 0 1
    refine wf.uQ (t := 4) ?_ m1 (tgt_f (by decide) rfl) (m 4 2 (by unfold plF; omega))
    refine wf.uQ (t := 4) ?_ m1 (tgt_f (by decide) rfl) (m 4 1 (by unfold plF; omega))
    refine wf.uQ (t := 2) ?_ m1 (tgt_f (by decide) rfl) (m 2 77 (by unfold plF; omega))
    refine wf.sc2 ?_ (m 2 77 (by unfold plF; omega)) (m 9 77 (by unfold plF; omega))
    refine wf.uQ (t := 10) ?_ m1 (tgt_f (by decide) rfl) (m 10 2 (by unfold plF; omega))
    refine wf.uQ (t := 8) ?_ m1 (tgt_f (by decide) rfl) (m 8 0 (by unfold plF; omega))
    refine wf.uQ (t := 10) ?_ m1 (tgt_f (by decide) rfl) (m 10 1 (by unfold plF; omega))
    refine wf.uQ (t := 2) ?_ m1 (tgt_f (by decide) rfl) (m 2 78 (by unfold plF; omega))
    exact h0.sc2 (m 2 78 (by unfold plF; omega)) (m 9 78 (by unfold plF; omega))
  exact (h1.lp (a := 60) (m 10 1 (by unfold plF; omega)) 12 (fun i hi => ⟨m 2 (60 + i) (by unfold plF; omega), m 9 (60 + i) (by unfold plF; omega)⟩)).lp (a := 72) (m 10 2 (by unfold plF; omega)) 5 (fun i hi => ⟨m 2 (72 + i) (by unfold plF; omega), m 9 (72 + i) (by unfold plF; omega)⟩)

set_option maxHeartbeats 4000000 in
set_option maxRecDepth 100000 in
/-- LevelScores() -/
theorem c_X5_init (l : Launch) (G0 : GT) (S : PS) (hm : (5, 0) ∈ gP G0) (hfr : ∀ c r, exF c r → (c, r) ∉ gP G0) (hwf : wf S G0) (hN : okN G0) : CtN l nK5 G0 exL yX5_init wsX5_init (rmG 3 53 171 1956) [.ref (gA G0 5 0)] S (fun S2 => S2 = exI S) := by
  refine ofCtN (cc := cX5_init) (nL := 2) RX5 (by decide +kernel) rfl rfl rfl (Nat.le_of_ble_eq_true rfl) ?_
  intro p e s m args below meth c A Q ls C hKs hin w hl hret
  have hx := C.1
  have hb := C.2.1
  have hown := C.2.2.2.1
  have hts := C.2.2.2.2.1
  have hxa := xt.rf G0
  have hi5 : ∀ w ∈ wsX50, w ∈ wsX5_init := by decide +kernel
  refine lv_aload_n hx hb dX5_init_0 rfl (lv_at hl 0 rfl) ?_
  refine W.objInit hx hb hown (hts (.methodLink RX5 1 objectInit) (by decide +kernel)) (hts (.instanceMethod objectInit) (by decide +kernel)) (hts (.code objectInit ⟨#[0xb1]⟩ 1 none) (by decide +kernel)) rfl (by rw [C.2.2.1]; exact hl.1) rfl dX5_init_1 (Nat.le_of_ble_eq_true rfl) (Nat.le_of_ble_eq_true rfl) ?_
  refine W.eq (g2 := F0 m 4 ls []) rfl ?_
  refine lv_aload_n hx hb dX5_init_4 rfl (lv_at hl 0 rfl) ?_
  refine lv_bipush (v := 60) hx hb dX5_init_5 (by decide) ?_
  refine pnQ (r := 0) C w (by decide +kernel) hKs.1.1 dX5_init_7 (by decide) rfl hN.2.2.2.2.2.1 (by decide) hwf (hxa.no (hfr 10 0 (by unfold exF; omega)) (by first | exact List.not_mem_nil | (simp only [List.mem_append, List.mem_cons, List.not_mem_nil, Prod.mk.injEq, scL_mem, or_false, false_or]; omega) | (simp only [plL_mem, List.mem_append, List.mem_cons, List.not_mem_nil, Prod.mk.injEq, scL_mem, or_false, false_or]; unfold plF; omega))) (Nat.le_of_ble_eq_true rfl) (Nat.le_of_ble_eq_true rfl) (fun G H hxt hwf C w => ?_)
  first | rw [hxt.a hm] at hl ⊢ | rw [hxt.a hm] at hl | rw [hxt.a hm] | skip
  replace hm := hxt.m hm
  replace hxa := hxa.tr hxt
  replace hN := hxt.N hN
  have h100 := hxt.nw (List.mem_cons_self ..)
  refine ppF (ty := .array (.object "LevelScores$Score")) 5 0 10 (by decide) rfl (by decide) rfl rfl tyX5_ok nmX5 rfl hin rfl (by decide +kernel) (fun _ => rfl) (fun _ => rfl) C w (by decide +kernel) (by decide +kernel) dX5_init_10 hm (fun H locs w => ?_)
  replace hwf := hwf.uQ (k := 0) (t := 10) hm (tgt_f (by decide) rfl) h100
  refine lv_iconst (v := 0) hx hb dX5_init_13 (by decide) ?_
  refine lv_istore_n hx hb dX5_init_14 rfl hl (by decide) rfl (fun ls hl => ?_)
  have loop_15 : ∀ (f9 : Nat) (j : Nat) (G : GT) (H : Heap) (locs : List Loc) (ls : Array Slot), (j + f9 = 60) → (Cx p s m args meth c cX5_init RX5 wsX5_init 2 G A) → (xt G0 G ([(10, 0)] ++ scL 0 j)) → (wf (lpS (uQ S 5 0 0 (some 0)) 0 0 j) G) → (okN G) → ((5, 0) ∈ gP G) → ((10, 0) ∈ gP G) → Wd G A s.heap (lpS (uQ S 5 0 0 (some 0)) 0 0 j) H locs → lv_has ls 2 [(0, .ref (gA G 5 0)), (1, .int (nI j))] → W p l e (rmG 3 53 171 1956) s m args below meth c H locs (1 + 2 * j) (60 + 16 * j) Q (F0 m 15 ls []) := by
    intro f9
    induction f9 with
    | zero =>
      intro j G H locs ls hj C hxa hwf hN hm h100 w hl
      refine lv_iload_n hx hb dX5_init_15 rfl (lv_at hl 1 rfl) ?_
      refine lv_bipush (v := 60) hx hb dX5_init_16 (by decide) ?_
      refine lv_icmp_ge (tgt := 40) hx hb dX5_init_18 (by decide) (fun c_18 => ?_) (fun c_18 => absurd (nI_le (a := 60) (by omega) (by omega)) c_18)
      have ej : j = 60 := by omega
      subst ej
      refine lv_aload_n hx hb dX5_init_40 rfl (lv_at hl 0 rfl) ?_
      refine pnO 3 (r := 0) (by decide) rfl tyX3_ok dfl_ok3 C w (by decide +kernel) (by decide +kernel) (by decide +kernel) (by decide +kernel) dX5_init_41 hwf (hxa.no (hfr 3 0 (by unfold exF; omega)) (by first | exact List.not_mem_nil | (simp only [List.mem_append, List.mem_cons, List.not_mem_nil, Prod.mk.injEq, scL_mem, or_false, false_or]; omega) | (simp only [plL_mem, List.mem_append, List.mem_cons, List.not_mem_nil, Prod.mk.injEq, scL_mem, or_false, false_or]; unfold plF; omega))) (Nat.le_of_ble_eq_true rfl) (Nat.le_of_ble_eq_true rfl) (fun G H hxt hwf C w => ?_)
      first | rw [hxt.a hm] at hl ⊢ | rw [hxt.a hm] at hl | rw [hxt.a hm] | skip
      first | rw [hxt.a h100] at hl ⊢ | rw [hxt.a h100] at hl | rw [hxt.a h100] | skip
      replace hm := hxt.m hm
      replace h100 := hxt.m h100
      replace hxa := hxa.tr hxt
      replace hN := hxt.N hN
      have h30 := hxt.nw (List.mem_cons_self ..)
      refine lv_dup hx hb dX5_init_44 rfl ?_
      refine cnN okK_T C trivial w hl dX5_init_45 (c_X3_init l G _ h30 (hxa.no (hfr 7 0 (by unfold exF; omega)) (by first | exact List.not_mem_nil | (simp only [List.mem_append, List.mem_cons, List.not_mem_nil, Prod.mk.injEq, scL_mem, or_false, false_or]; omega) | (simp only [plL_mem, List.mem_append, List.mem_cons, List.not_mem_nil, Prod.mk.injEq, scL_mem, or_false, false_or]; unfold plF; omega))) hwf hN) gX5_init_X3_init_n18 rfl hKs.2.2.1 (by decide +kernel) (by decide +kernel) ⟨by decide, by decide, by decide +kernel⟩ rfl rfl (Nat.le_of_ble_eq_true rfl) ⟨(Nat.le_of_ble_eq_true rfl), (Nat.le_of_ble_eq_true rfl)⟩ ⟨(Nat.le_of_ble_eq_true rfl), (Nat.le_of_ble_eq_true rfl)⟩ (fun G S2 H locs hxt hp C w => ?_)
      subst hp
      replace hwf := (hwf.g1 hxt (hxa.no (hfr 7 0 (by unfold exF; omega)) (by first | exact List.not_mem_nil | (simp only [List.mem_append, List.mem_cons, List.not_mem_nil, Prod.mk.injEq, scL_mem, or_false, false_or]; omega) | (simp only [plL_mem, List.mem_append, List.mem_cons, List.not_mem_nil, Prod.mk.injEq, scL_mem, or_false, false_or]; unfold plF; omega)))).uQ (k := 0) (t := 7) (r1 := 0) (hxt.m h30) (tgt_f (by decide) rfl) (hxt.nw (List.mem_cons_self ..))
      first | rw [hxt.a hm] at hl ⊢ | rw [hxt.a hm] at hl | rw [hxt.a hm] | skip
      first | rw [hxt.a h100] at hl ⊢ | rw [hxt.a h100] at hl | rw [hxt.a h100] | skip
      first | rw [hxt.a h30] at hl ⊢ | rw [hxt.a h30] at hl | rw [hxt.a h30] | skip
      replace hm := hxt.m hm
      replace h100 := hxt.m h100
      replace h30 := hxt.m h30
      replace hxa := hxa.tr hxt
      replace hN := hxt.N hN
      refine ppF (ty := .object "LevelScores$Tape") 5 2 3 (by decide) rfl (by decide) rfl rfl tyX5_ok nmX5 rfl hin rfl (by decide +kernel) (fun _ => rfl) (fun _ => rfl) C w (by decide +kernel) (by decide +kernel) dX5_init_48 hm (fun H locs w => ?_)
      replace hwf := hwf.uQ (k := 2) (t := 3) hm (tgt_f (by decide) rfl) h30
      refine lv_aload_n hx hb dX5_init_51 rfl (lv_at hl 0 rfl) ?_
      refine pnO 0 (r := 0) (by decide) rfl tyX0_ok dfl_ok0 C w (by decide +kernel) (by decide +kernel) (by decide +kernel) (by decide +kernel) dX5_init_52 hwf (hxa.no (hfr 0 0 (by unfold exF; omega)) (by first | exact List.not_mem_nil | (simp only [List.mem_append, List.mem_cons, List.not_mem_nil, Prod.mk.injEq, scL_mem, or_false, false_or]; omega) | (simp only [plL_mem, List.mem_append, List.mem_cons, List.not_mem_nil, Prod.mk.injEq, scL_mem, or_false, false_or]; unfold plF; omega))) (Nat.le_of_ble_eq_true rfl) (Nat.le_of_ble_eq_true rfl) (fun G H hxt hwf C w => ?_)
      first | rw [hxt.a hm] at hl ⊢ | rw [hxt.a hm] at hl | rw [hxt.a hm] | skip
      first | rw [hxt.a h100] at hl ⊢ | rw [hxt.a h100] at hl | rw [hxt.a h100] | skip
      first | rw [hxt.a h30] at hl ⊢ | rw [hxt.a h30] at hl | rw [hxt.a h30] | skip
      replace hm := hxt.m hm
      replace h100 := hxt.m h100
      replace h30 := hxt.m h30
      replace hxa := hxa.tr hxt
      replace hN := hxt.N hN
      have h00 := hxt.nw (List.mem_cons_self ..)
      refine lv_dup hx hb dX5_init_55 rfl ?_
      refine cnN okK_T C trivial w hl dX5_init_56 (c_X0_init l G _ h00 (hxa.no (hfr 7 1 (by unfold exF; omega)) (by first | exact List.not_mem_nil | (simp only [List.mem_append, List.mem_cons, List.not_mem_nil, Prod.mk.injEq, scL_mem, or_false, false_or]; omega) | (simp only [plL_mem, List.mem_append, List.mem_cons, List.not_mem_nil, Prod.mk.injEq, scL_mem, or_false, false_or]; unfold plF; omega))) (hxa.no (hfr 7 2 (by unfold exF; omega)) (by first | exact List.not_mem_nil | (simp only [List.mem_append, List.mem_cons, List.not_mem_nil, Prod.mk.injEq, scL_mem, or_false, false_or]; omega) | (simp only [plL_mem, List.mem_append, List.mem_cons, List.not_mem_nil, Prod.mk.injEq, scL_mem, or_false, false_or]; unfold plF; omega))) hwf hN) gX5_init_X0_init_n25 rfl hKs.2.2.2.1 (by decide +kernel) (by decide +kernel) ⟨by decide, by decide, by decide +kernel⟩ rfl rfl (Nat.le_of_ble_eq_true rfl) ⟨(Nat.le_of_ble_eq_true rfl), (Nat.le_of_ble_eq_true rfl)⟩ ⟨(Nat.le_of_ble_eq_true rfl), (Nat.le_of_ble_eq_true rfl)⟩ (fun G S2 H locs hxt hp C w => ?_)
      subst hp
      replace hwf := ((hwf.gr hxt (fun x h => by
        rcases List.mem_cons.mp h with h | h
        · rw [h]; exact (hxa.no (hfr 7 1 (by unfold exF; omega)) (by first | exact List.not_mem_nil | (simp only [List.mem_append, List.mem_cons, List.not_mem_nil, Prod.mk.injEq, scL_mem, or_false, false_or]; omega) | (simp only [plL_mem, List.mem_append, List.mem_cons, List.not_mem_nil, Prod.mk.injEq, scL_mem, or_false, false_or]; unfold plF; omega)))
        · rw [List.mem_singleton.mp h]; exact (hxa.no (hfr 7 2 (by unfold exF; omega)) (by first | exact List.not_mem_nil | (simp only [List.mem_append, List.mem_cons, List.not_mem_nil, Prod.mk.injEq, scL_mem, or_false, false_or]; omega) | (simp only [plL_mem, List.mem_append, List.mem_cons, List.not_mem_nil, Prod.mk.injEq, scL_mem, or_false, false_or]; unfold plF; omega))))).uQ (k := 0) (t := 7) (r1 := 1) (hxt.m h00) (tgt_f (by decide) rfl) (hxt.nw (by decide))).uQ (k := 2) (t := 7) (r1 := 2) (hxt.m h00) (tgt_f (by decide) rfl) (hxt.nw (by decide))
      first | rw [hxt.a hm] at hl ⊢ | rw [hxt.a hm] at hl | rw [hxt.a hm] | skip
      first | rw [hxt.a h100] at hl ⊢ | rw [hxt.a h100] at hl | rw [hxt.a h100] | skip
      first | rw [hxt.a h30] at hl ⊢ | rw [hxt.a h30] at hl | rw [hxt.a h30] | skip
      first | rw [hxt.a h00] at hl ⊢ | rw [hxt.a h00] at hl | rw [hxt.a h00] | skip
      replace hm := hxt.m hm
      replace h100 := hxt.m h100
      replace h30 := hxt.m h30
      replace h00 := hxt.m h00
      replace hxa := hxa.tr hxt
      replace hN := hxt.N hN
      refine ppF (ty := .object "LevelScores$Page") 5 3 0 (by decide) rfl (by decide) rfl rfl tyX5_ok nmX5 rfl hin rfl (by decide +kernel) (fun _ => rfl) (fun _ => rfl) C w (by decide +kernel) (by decide +kernel) dX5_init_59 hm (fun H locs w => ?_)
      replace hwf := hwf.uQ (k := 3) (t := 0) hm (tgt_f (by decide) rfl) h00
      refine lv_aload_n hx hb dX5_init_62 rfl (lv_at hl 0 rfl) ?_
      refine pnO 1 (r := 0) (by decide) rfl tyX1_ok dfl_ok1 C w (by decide +kernel) (by decide +kernel) (by decide +kernel) (by decide +kernel) dX5_init_63 hwf (hxa.no (hfr 1 0 (by unfold exF; omega)) (by first | exact List.not_mem_nil | (simp only [List.mem_append, List.mem_cons, List.not_mem_nil, Prod.mk.injEq, scL_mem, or_false, false_or]; omega) | (simp only [plL_mem, List.mem_append, List.mem_cons, List.not_mem_nil, Prod.mk.injEq, scL_mem, or_false, false_or]; unfold plF; omega))) (Nat.le_of_ble_eq_true rfl) (Nat.le_of_ble_eq_true rfl) (fun G H hxt hwf C w => ?_)
      first | rw [hxt.a hm] at hl ⊢ | rw [hxt.a hm] at hl | rw [hxt.a hm] | skip
      first | rw [hxt.a h100] at hl ⊢ | rw [hxt.a h100] at hl | rw [hxt.a h100] | skip
      first | rw [hxt.a h30] at hl ⊢ | rw [hxt.a h30] at hl | rw [hxt.a h30] | skip
      first | rw [hxt.a h00] at hl ⊢ | rw [hxt.a h00] at hl | rw [hxt.a h00] | skip
      replace hm := hxt.m hm
      replace h100 := hxt.m h100
      replace h30 := hxt.m h30
      replace h00 := hxt.m h00
      replace hxa := hxa.tr hxt
      replace hN := hxt.N hN
      have h10 := hxt.nw (List.mem_cons_self ..)
      refine lv_dup hx hb dX5_init_66 rfl ?_
      have hpf : ∀ c r, plF c r → (c, r) ∉ gP G := fun c r h => hxa.no (hfr c r (by unfold plF at h; unfold exF; omega)) (by simp only [List.mem_append, List.mem_cons, List.not_mem_nil, Prod.mk.injEq, scL_mem, or_false, false_or]; unfold plF at h; omega)
      refine cnI okK_1 C hKs.1 w hl dX5_init_67 (c_X1_init l G _ h10 hpf hwf hN) gX5_init_X1_init rfl (by decide +kernel) (by decide +kernel) (by decide +kernel) ⟨by decide, by decide, by decide +kernel⟩ rfl rfl (Nat.le_of_ble_eq_true rfl) ⟨(Nat.le_of_ble_eq_true rfl), (Nat.le_of_ble_eq_true rfl)⟩ ⟨(Nat.le_of_ble_eq_true rfl), (Nat.le_of_ble_eq_true rfl)⟩ (fun G S2 H locs hxt hp C w => ?_)
      subst hp
      replace hwf := hwf.pl hxt h10 hpf
      first | rw [hxt.a hm] at hl ⊢ | rw [hxt.a hm] at hl | rw [hxt.a hm] | skip
      first | rw [hxt.a h100] at hl ⊢ | rw [hxt.a h100] at hl | rw [hxt.a h100] | skip
      first | rw [hxt.a h30] at hl ⊢ | rw [hxt.a h30] at hl | rw [hxt.a h30] | skip
      first | rw [hxt.a h00] at hl ⊢ | rw [hxt.a h00] at hl | rw [hxt.a h00] | skip
      first | rw [hxt.a h10] at hl ⊢ | rw [hxt.a h10] at hl | rw [hxt.a h10] | skip
      replace hm := hxt.m hm
      replace h100 := hxt.m h100
      replace h30 := hxt.m h30
      replace h00 := hxt.m h00
      replace h10 := hxt.m h10
      replace hxa := hxa.tr hxt
      replace hN := hxt.N hN
      refine ppF (ty := .object "LevelScores$Plan") 5 4 1 (by decide) rfl (by decide) rfl rfl tyX5_ok nmX5 rfl hin rfl (by decide +kernel) (fun _ => rfl) (fun _ => rfl) C w (by decide +kernel) (by decide +kernel) dX5_init_70 hm (fun H locs w => ?_)
      replace hwf := hwf.uQ (k := 4) (t := 1) hm (tgt_f (by decide) rfl) h10
      refine lv_aload_n hx hb dX5_init_73 rfl (lv_at hl 0 rfl) ?_
      refine pnO 4 (r := 0) (by decide) rfl tyX4_ok dfl_ok4 C w (by decide +kernel) (by decide +kernel) (by decide +kernel) (by decide +kernel) dX5_init_74 hwf (hxa.no (hfr 4 0 (by unfold exF; omega)) (by first | exact List.not_mem_nil | (simp only [List.mem_append, List.mem_cons, List.not_mem_nil, Prod.mk.injEq, scL_mem, or_false, false_or]; omega) | (simp only [plL_mem, List.mem_append, List.mem_cons, List.not_mem_nil, Prod.mk.injEq, scL_mem, or_false, false_or]; unfold plF; omega))) (Nat.le_of_ble_eq_true rfl) (Nat.le_of_ble_eq_true rfl) (fun G H hxt hwf C w => ?_)
      first | rw [hxt.a hm] at hl ⊢ | rw [hxt.a hm] at hl | rw [hxt.a hm] | skip
      first | rw [hxt.a h100] at hl ⊢ | rw [hxt.a h100] at hl | rw [hxt.a h100] | skip
      first | rw [hxt.a h30] at hl ⊢ | rw [hxt.a h30] at hl | rw [hxt.a h30] | skip
      first | rw [hxt.a h00] at hl ⊢ | rw [hxt.a h00] at hl | rw [hxt.a h00] | skip
      first | rw [hxt.a h10] at hl ⊢ | rw [hxt.a h10] at hl | rw [hxt.a h10] | skip
      replace hm := hxt.m hm
      replace h100 := hxt.m h100
      replace h30 := hxt.m h30
      replace h00 := hxt.m h00
      replace h10 := hxt.m h10
      replace hxa := hxa.tr hxt
      replace hN := hxt.N hN
      have h40 := hxt.nw (List.mem_cons_self ..)
      refine lv_dup hx hb dX5_init_77 rfl ?_
      refine cnN okK_T C trivial w hl dX5_init_78 (c_X4_init l G _ 0) gX5_init_X4_init_n39 rfl hKs.2.2.2.2 (by decide +kernel) (by decide +kernel) ⟨by decide, by decide, by decide +kernel⟩ rfl rfl (Nat.le_of_ble_eq_true rfl) ⟨(Nat.le_of_ble_eq_true rfl), (Nat.le_of_ble_eq_true rfl)⟩ ⟨(Nat.le_of_ble_eq_true rfl), (Nat.le_of_ble_eq_true rfl)⟩ (fun G S2 H locs hxt hp C w => ?_)
      subst hp
      replace hwf := hwf.gr hxt (fun x h => by cases h)
      first | rw [hxt.a hm] at hl ⊢ | rw [hxt.a hm] at hl | rw [hxt.a hm] | skip
      first | rw [hxt.a h100] at hl ⊢ | rw [hxt.a h100] at hl | rw [hxt.a h100] | skip
      first | rw [hxt.a h30] at hl ⊢ | rw [hxt.a h30] at hl | rw [hxt.a h30] | skip
      first | rw [hxt.a h00] at hl ⊢ | rw [hxt.a h00] at hl | rw [hxt.a h00] | skip
      first | rw [hxt.a h10] at hl ⊢ | rw [hxt.a h10] at hl | rw [hxt.a h10] | skip
      first | rw [hxt.a h40] at hl ⊢ | rw [hxt.a h40] at hl | rw [hxt.a h40] | skip
      replace hm := hxt.m hm
      replace h100 := hxt.m h100
      replace h30 := hxt.m h30
      replace h00 := hxt.m h00
      replace h10 := hxt.m h10
      replace h40 := hxt.m h40
      replace hxa := hxa.tr hxt
      replace hN := hxt.N hN
      refine ppF (ty := .object "LevelScores$Wide") 5 5 4 (by decide) rfl (by decide) rfl rfl tyX5_ok nmX5 rfl hin rfl (by decide +kernel) (fun _ => rfl) (fun _ => rfl) C w (by decide +kernel) (by decide +kernel) dX5_init_81 hm (fun H locs w => ?_)
      replace hwf := hwf.uQ (k := 5) (t := 4) hm (tgt_f (by decide) rfl) h40
      exact hret _ _ _ _ _ _ dX5_init_84 hxa w rfl
    | succ f9 ih =>
      intro j G H locs ls hj C hxa hwf hN hm h100 w hl
      refine lv_iload_n hx hb dX5_init_15 rfl (lv_at hl 1 rfl) ?_
      refine lv_bipush (v := 60) hx hb dX5_init_16 (by decide) ?_
      refine lv_icmp_ge (tgt := 40) hx hb dX5_init_18 (by decide) (fun c_18 => absurd c_18 (nI_ge (b := 60) (by omega) (by omega))) (fun c_18 => ?_)
      refine lv_aload_n hx hb dX5_init_21 rfl (lv_at hl 0 rfl) ?_
      refine pgQ 5 0 10 (by decide) rfl (by decide) rfl rfl C w hi5 (by decide +kernel) dX5_init_22 hm (r1 := 0) (by rfl) ?_
      refine lv_iload_n hx hb dX5_init_25 rfl (lv_at hl 1 rfl) ?_
      refine pnO 2 (r := (0 + j)) (by decide) rfl tyX2_ok dfl_ok2 C w (by decide +kernel) (by decide +kernel) (by decide +kernel) (by decide +kernel) dX5_init_26 hwf (hxa.no (hfr 2 (0 + j) (by unfold exF; omega)) (by first | exact List.not_mem_nil | (simp only [List.mem_append, List.mem_cons, List.not_mem_nil, Prod.mk.injEq, scL_mem, or_false, false_or]; omega) | (simp only [plL_mem, List.mem_append, List.mem_cons, List.not_mem_nil, Prod.mk.injEq, scL_mem, or_false, false_or]; unfold plF; omega))) (by show 1 + 2 * j + 1 ≤ 171; omega) (by show 60 + 16 * j + 4 ≤ 1956; omega) (fun G H hxt hwf C w => ?_)
      first | rw [hxt.a hm] at hl ⊢ | rw [hxt.a hm] at hl | rw [hxt.a hm] | skip
      first | rw [hxt.a h100] at hl ⊢ | rw [hxt.a h100] at hl | rw [hxt.a h100] | skip
      replace hm := hxt.m hm
      replace h100 := hxt.m h100
      replace hxa := hxa.tr hxt
      replace hN := hxt.N hN
      have hs := hxt.nw (List.mem_cons_self ..)
      refine lv_dup hx hb dX5_init_29 rfl ?_
      refine cnN okK_T C trivial w hl dX5_init_30 (c_X2_init l G _ (0 + j) (by omega) hs (hxa.no (hfr 9 (0 + j) (by unfold exF; omega)) (by first | exact List.not_mem_nil | (simp only [List.mem_append, List.mem_cons, List.not_mem_nil, Prod.mk.injEq, scL_mem, or_false, false_or]; omega) | (simp only [plL_mem, List.mem_append, List.mem_cons, List.not_mem_nil, Prod.mk.injEq, scL_mem, or_false, false_or]; unfold plF; omega))) hwf hN) gX5_init_X2_init_n15 rfl hKs.2.1 (by decide +kernel) (by decide +kernel) ⟨by decide, by decide, by decide +kernel⟩ rfl rfl (Nat.le_of_ble_eq_true rfl) ⟨(Nat.le_of_ble_eq_true rfl), (Nat.le_of_ble_eq_true rfl)⟩ ⟨by show 1 + 2 * j + 1 + 1 ≤ 171; omega, by show 60 + 16 * j + 4 + 12 ≤ 1956; omega⟩ (fun G S2 H locs hxt hp C w => ?_)
      subst hp
      replace hwf := hwf.sc hxt hs (hxa.no (hfr 9 (0 + j) (by unfold exF; omega)) (by first | exact List.not_mem_nil | (simp only [List.mem_append, List.mem_cons, List.not_mem_nil, Prod.mk.injEq, scL_mem, or_false, false_or]; omega) | (simp only [plL_mem, List.mem_append, List.mem_cons, List.not_mem_nil, Prod.mk.injEq, scL_mem, or_false, false_or]; unfold plF; omega)))
      first | rw [hxt.a hm] at hl ⊢ | rw [hxt.a hm] at hl | rw [hxt.a hm] | skip
      first | rw [hxt.a h100] at hl ⊢ | rw [hxt.a h100] at hl | rw [hxt.a h100] | skip
      first | rw [hxt.a hs] at hl ⊢ | rw [hxt.a hs] at hl | rw [hxt.a hs] | skip
      replace hm := hxt.m hm
      replace h100 := hxt.m h100
      replace hs := hxt.m hs
      replace hxa := hxa.tr hxt
      replace hN := hxt.N hN
      refine psQ C w dX5_init_33 h100 hs (n := j) rfl hN.2.2.2.2.2.1 (by omega) (by decide) (fun H locs w => ?_)
      replace hwf := hwf.uQ (k := j) (t := 2) h100 tgt_10 hs
      rw [lpS_s] at w hwf
      refine lv_iinc (v := nI (j + 1)) hx hb dX5_init_34 hl (k := 1) rfl (nI_1 j) (by decide) rfl (fun ls hl => ?_)
      refine lv_goto (tgt := 15) hx hb dX5_init_37 (by decide) ?_
      rw [show 1 + 2 * j + 1 + 1 = 1 + 2 * (j + 1) by omega, show 60 + 16 * j + 4 + 12 = 60 + 16 * (j + 1) by omega]
      exact ih (j + 1) G _ _ _ (by omega) C (by rw [List.append_assoc, List.append_assoc] at hxa; exact hxa) hwf hN hm h100 w (lv_sub hl [1, 0] rfl)
  exact loop_15 60 0 G _ _ _ (by omega) C (by show xt G0 G ([(10, 0)] ++ []); rw [List.append_nil]; exact hxa) (by rw [lpS_0]; exact hwf) hN hm h100 (by rw [lpS_0]; exact w) (lv_sub hl [1, 0] rfl)

def okNM (G : GT) : Prop := gN G 8 0 = 61 ∧ gN G 8 1 = 61 ∧ gN G 8 2 = 61 ∧ gN G 8 3 = 12 ∧ gN G 8 4 = 300 ∧ gN G 8 5 = 400 ∧ gN G 9 0 = 732 ∧ gN G 9 1 = 144 ∧ gN G 9 2 = 72 ∧ gN G 9 3 = 12
theorem xt.NM {G G' : GT} {L : List (Nat × Nat)} (h : xt G G' L) (q : okNM G) : okNM G' := by unfold okNM; rw [h.2.2.2.1]; exact q
def emF (c r : Nat) : Prop := ¬ (c = 6 ∧ r = 0)
def emL : List (Nat × Nat) := [(8, 0), (8, 1), (8, 2), (9, 0), (9, 1), (8, 3), (9, 2), (8, 4), (8, 5), (9, 3)]
def emI (S : PS) : PS := uQ (uQ (uQ (uQ (uQ (uQ (uI (uQ (uQ (uQ (uQ S 6 0 1 (some 0)) 6 0 2 (some 1)) 6 0 3 (some 2)) 6 0 4 (some 0)) 6 0 7 1) 6 0 9 (some 1)) 6 0 10 (some 3)) 6 0 12 (some 2)) 6 0 14 (some 4)) 6 0 16 (some 5)) 6 0 23 (some 3)

set_option maxHeartbeats 4000000 in
set_option maxRecDepth 100000 in
/-- LevelScoresModel() -/
theorem c_X6_init (l : Launch) (G0 : GT) (S : PS) (hm : (6, 0) ∈ gP G0) (hfr : ∀ c r, emF c r → (c, r) ∉ gP G0) (hwf : wf S G0) (hN : okNM G0) : CtN l (fun _ => True) G0 emL yX6_init wsX6_init (rmG 1 12 10 1855) [.ref (gA G0 6 0)] S (fun S2 => S2 = emI S) := by
  refine ofCtN (cc := cX6_init) (nL := 1) RX6 (by decide +kernel) rfl rfl rfl (Nat.le_of_ble_eq_true rfl) ?_
  intro p e s m args below meth c A Q ls C hKs hin w hl hret
  have hx := C.1
  have hb := C.2.1
  have hown := C.2.2.2.1
  have hts := C.2.2.2.2.1
  have hxa := xt.rf G0
  have hi6 : ∀ w ∈ wsX60, w ∈ wsX6_init := by decide +kernel
  refine lv_aload_n hx hb dX6_init_0 rfl (lv_at hl 0 rfl) ?_
  refine W.objInit hx hb hown (hts (.methodLink RX6 1 objectInit) (by decide +kernel)) (hts (.instanceMethod objectInit) (by decide +kernel)) (hts (.code objectInit ⟨#[0xb1]⟩ 1 none) (by decide +kernel)) rfl (by rw [C.2.2.1]; exact hl.1) rfl dX6_init_1 (Nat.le_of_ble_eq_true rfl) (Nat.le_of_ble_eq_true rfl) ?_
  refine W.eq (g2 := F0 m 4 ls []) rfl ?_
  refine lv_aload_n hx hb dX6_init_4 rfl (lv_at hl 0 rfl) ?_
  refine lv_bipush (v := 61) hx hb dX6_init_5 (by decide) ?_
  refine pnI (r := 0) C w (by decide +kernel) dX6_init_7 (by decide) rfl hN.1 (by decide) hwf (hxa.no (hfr 8 0 (by unfold emF; omega)) (by first | decide | (simp only [List.mem_append, List.mem_cons, List.not_mem_nil, Prod.mk.injEq, or_false, false_or]; omega))) (Nat.le_of_ble_eq_true rfl) (Nat.le_of_ble_eq_true rfl) (fun G H hxt hwf C w => ?_)
  first | rw [hxt.a hm] at hl ⊢ | rw [hxt.a hm] at hl | rw [hxt.a hm] | skip
  replace hm := hxt.m hm
  replace hxa := hxa.tr hxt
  replace hN := hxt.NM hN
  have h80 := hxt.nw (List.mem_cons_self ..)
  refine ppF (ty := .array .int) 6 1 8 (by decide) rfl (by decide) rfl rfl tyX6_ok nmX6 rfl hin rfl (by decide +kernel) (fun _ => rfl) (fun _ => rfl) C w (by decide +kernel) (by decide +kernel) dX6_init_9 hm (fun H locs w => ?_)
  replace hwf := hwf.uQ (k := 1) (t := 8) hm (tgt_f (by decide) rfl) h80
  refine lv_aload_n hx hb dX6_init_12 rfl (lv_at hl 0 rfl) ?_
  refine lv_bipush (v := 61) hx hb dX6_init_13 (by decide) ?_
  refine pnI (r := 1) C w (by decide +kernel) dX6_init_15 (by decide) rfl hN.2.1 (by decide) hwf (hxa.no (hfr 8 1 (by unfold emF; omega)) (by first | decide | (simp only [List.mem_append, List.mem_cons, List.not_mem_nil, Prod.mk.injEq, or_false, false_or]; omega))) (Nat.le_of_ble_eq_true rfl) (Nat.le_of_ble_eq_true rfl) (fun G H hxt hwf C w => ?_)
  first | rw [hxt.a hm] at hl ⊢ | rw [hxt.a hm] at hl | rw [hxt.a hm] | skip
  replace hm := hxt.m hm
  replace hxa := hxa.tr hxt
  replace hN := hxt.NM hN
  have h81 := hxt.nw (List.mem_cons_self ..)
  refine ppF (ty := .array .int) 6 2 8 (by decide) rfl (by decide) rfl rfl tyX6_ok nmX6 rfl hin rfl (by decide +kernel) (fun _ => rfl) (fun _ => rfl) C w (by decide +kernel) (by decide +kernel) dX6_init_17 hm (fun H locs w => ?_)
  replace hwf := hwf.uQ (k := 2) (t := 8) hm (tgt_f (by decide) rfl) h81
  refine lv_aload_n hx hb dX6_init_20 rfl (lv_at hl 0 rfl) ?_
  refine lv_bipush (v := 61) hx hb dX6_init_21 (by decide) ?_
  refine pnI (r := 2) C w (by decide +kernel) dX6_init_23 (by decide) rfl hN.2.2.1 (by decide) hwf (hxa.no (hfr 8 2 (by unfold emF; omega)) (by first | decide | (simp only [List.mem_append, List.mem_cons, List.not_mem_nil, Prod.mk.injEq, or_false, false_or]; omega))) (Nat.le_of_ble_eq_true rfl) (Nat.le_of_ble_eq_true rfl) (fun G H hxt hwf C w => ?_)
  first | rw [hxt.a hm] at hl ⊢ | rw [hxt.a hm] at hl | rw [hxt.a hm] | skip
  replace hm := hxt.m hm
  replace hxa := hxa.tr hxt
  replace hN := hxt.NM hN
  have h82 := hxt.nw (List.mem_cons_self ..)
  refine ppF (ty := .array .int) 6 3 8 (by decide) rfl (by decide) rfl rfl tyX6_ok nmX6 rfl hin rfl (by decide +kernel) (fun _ => rfl) (fun _ => rfl) C w (by decide +kernel) (by decide +kernel) dX6_init_25 hm (fun H locs w => ?_)
  replace hwf := hwf.uQ (k := 3) (t := 8) hm (tgt_f (by decide) rfl) h82
  refine lv_aload_n hx hb dX6_init_28 rfl (lv_at hl 0 rfl) ?_
  refine lv_sipush (v := 732) hx hb dX6_init_29 (by decide) ?_
  refine pnJ (r := 0) C w (by decide +kernel) dX6_init_32 (by decide) rfl hN.2.2.2.2.2.2.1 (by decide) hwf (hxa.no (hfr 9 0 (by unfold emF; omega)) (by first | decide | (simp only [List.mem_append, List.mem_cons, List.not_mem_nil, Prod.mk.injEq, or_false, false_or]; omega))) (Nat.le_of_ble_eq_true rfl) (Nat.le_of_ble_eq_true rfl) (fun G H hxt hwf C w => ?_)
  first | rw [hxt.a hm] at hl ⊢ | rw [hxt.a hm] at hl | rw [hxt.a hm] | skip
  replace hm := hxt.m hm
  replace hxa := hxa.tr hxt
  replace hN := hxt.NM hN
  have h90 := hxt.nw (List.mem_cons_self ..)
  refine ppF (ty := .array .long) 6 4 9 (by decide) rfl (by decide) rfl rfl tyX6_ok nmX6 rfl hin rfl (by decide +kernel) (fun _ => rfl) (fun _ => rfl) C w (by decide +kernel) (by decide +kernel) dX6_init_34 hm (fun H locs w => ?_)
  replace hwf := hwf.uQ (k := 4) (t := 9) hm (tgt_f (by decide) rfl) h90
  refine lv_aload_n hx hb dX6_init_37 rfl (lv_at hl 0 rfl) ?_
  refine lv_iconst (v := 1) hx hb dX6_init_38 (by decide) ?_
  refine ppI 6 7 (by decide) rfl (by decide) rfl rfl tyX6_ok nmX6 rfl (by decide +kernel) C w hi6 (by decide +kernel) dX6_init_39 hm (fun H locs w => ?_)
  replace hwf := hwf.uI hm 7 1
  refine lv_aload_n hx hb dX6_init_42 rfl (lv_at hl 0 rfl) ?_
  refine lv_sipush (v := 144) hx hb dX6_init_43 (by decide) ?_
  refine pnJ (r := 1) C w (by decide +kernel) dX6_init_46 (by decide) rfl hN.2.2.2.2.2.2.2.1 (by decide) hwf (hxa.no (hfr 9 1 (by unfold emF; omega)) (by first | decide | (simp only [List.mem_append, List.mem_cons, List.not_mem_nil, Prod.mk.injEq, or_false, false_or]; omega))) (Nat.le_of_ble_eq_true rfl) (Nat.le_of_ble_eq_true rfl) (fun G H hxt hwf C w => ?_)
  first | rw [hxt.a hm] at hl ⊢ | rw [hxt.a hm] at hl | rw [hxt.a hm] | skip
  replace hm := hxt.m hm
  replace hxa := hxa.tr hxt
  replace hN := hxt.NM hN
  have h91 := hxt.nw (List.mem_cons_self ..)
  refine ppF (ty := .array .long) 6 9 9 (by decide) rfl (by decide) rfl rfl tyX6_ok nmX6 rfl hin rfl (by decide +kernel) (fun _ => rfl) (fun _ => rfl) C w (by decide +kernel) (by decide +kernel) dX6_init_48 hm (fun H locs w => ?_)
  replace hwf := hwf.uQ (k := 9) (t := 9) hm (tgt_f (by decide) rfl) h91
  refine lv_aload_n hx hb dX6_init_51 rfl (lv_at hl 0 rfl) ?_
  refine lv_bipush (v := 12) hx hb dX6_init_52 (by decide) ?_
  refine pnI (r := 3) C w (by decide +kernel) dX6_init_54 (by decide) rfl hN.2.2.2.1 (by decide) hwf (hxa.no (hfr 8 3 (by unfold emF; omega)) (by first | decide | (simp only [List.mem_append, List.mem_cons, List.not_mem_nil, Prod.mk.injEq, or_false, false_or]; omega))) (Nat.le_of_ble_eq_true rfl) (Nat.le_of_ble_eq_true rfl) (fun G H hxt hwf C w => ?_)
  first | rw [hxt.a hm] at hl ⊢ | rw [hxt.a hm] at hl | rw [hxt.a hm] | skip
  replace hm := hxt.m hm
  replace hxa := hxa.tr hxt
  replace hN := hxt.NM hN
  have h83 := hxt.nw (List.mem_cons_self ..)
  refine ppF (ty := .array .int) 6 10 8 (by decide) rfl (by decide) rfl rfl tyX6_ok nmX6 rfl hin rfl (by decide +kernel) (fun _ => rfl) (fun _ => rfl) C w (by decide +kernel) (by decide +kernel) dX6_init_56 hm (fun H locs w => ?_)
  replace hwf := hwf.uQ (k := 10) (t := 8) hm (tgt_f (by decide) rfl) h83
  refine lv_aload_n hx hb dX6_init_59 rfl (lv_at hl 0 rfl) ?_
  refine lv_bipush (v := 72) hx hb dX6_init_60 (by decide) ?_
  refine pnJ (r := 2) C w (by decide +kernel) dX6_init_62 (by decide) rfl hN.2.2.2.2.2.2.2.2.1 (by decide) hwf (hxa.no (hfr 9 2 (by unfold emF; omega)) (by first | decide | (simp only [List.mem_append, List.mem_cons, List.not_mem_nil, Prod.mk.injEq, or_false, false_or]; omega))) (Nat.le_of_ble_eq_true rfl) (Nat.le_of_ble_eq_true rfl) (fun G H hxt hwf C w => ?_)
  first | rw [hxt.a hm] at hl ⊢ | rw [hxt.a hm] at hl | rw [hxt.a hm] | skip
  replace hm := hxt.m hm
  replace hxa := hxa.tr hxt
  replace hN := hxt.NM hN
  have h92 := hxt.nw (List.mem_cons_self ..)
  refine ppF (ty := .array .long) 6 12 9 (by decide) rfl (by decide) rfl rfl tyX6_ok nmX6 rfl hin rfl (by decide +kernel) (fun _ => rfl) (fun _ => rfl) C w (by decide +kernel) (by decide +kernel) dX6_init_64 hm (fun H locs w => ?_)
  replace hwf := hwf.uQ (k := 12) (t := 9) hm (tgt_f (by decide) rfl) h92
  refine lv_aload_n hx hb dX6_init_67 rfl (lv_at hl 0 rfl) ?_
  refine lv_sipush (v := 300) hx hb dX6_init_68 (by decide) ?_
  refine pnI (r := 4) C w (by decide +kernel) dX6_init_71 (by decide) rfl hN.2.2.2.2.1 (by decide) hwf (hxa.no (hfr 8 4 (by unfold emF; omega)) (by first | decide | (simp only [List.mem_append, List.mem_cons, List.not_mem_nil, Prod.mk.injEq, or_false, false_or]; omega))) (Nat.le_of_ble_eq_true rfl) (Nat.le_of_ble_eq_true rfl) (fun G H hxt hwf C w => ?_)
  first | rw [hxt.a hm] at hl ⊢ | rw [hxt.a hm] at hl | rw [hxt.a hm] | skip
  replace hm := hxt.m hm
  replace hxa := hxa.tr hxt
  replace hN := hxt.NM hN
  have h84 := hxt.nw (List.mem_cons_self ..)
  refine ppF (ty := .array .int) 6 14 8 (by decide) rfl (by decide) rfl rfl tyX6_ok nmX6 rfl hin rfl (by decide +kernel) (fun _ => rfl) (fun _ => rfl) C w (by decide +kernel) (by decide +kernel) dX6_init_73 hm (fun H locs w => ?_)
  replace hwf := hwf.uQ (k := 14) (t := 8) hm (tgt_f (by decide) rfl) h84
  refine lv_aload_n hx hb dX6_init_76 rfl (lv_at hl 0 rfl) ?_
  refine lv_sipush (v := 400) hx hb dX6_init_77 (by decide) ?_
  refine pnI (r := 5) C w (by decide +kernel) dX6_init_80 (by decide) rfl hN.2.2.2.2.2.1 (by decide) hwf (hxa.no (hfr 8 5 (by unfold emF; omega)) (by first | decide | (simp only [List.mem_append, List.mem_cons, List.not_mem_nil, Prod.mk.injEq, or_false, false_or]; omega))) (Nat.le_of_ble_eq_true rfl) (Nat.le_of_ble_eq_true rfl) (fun G H hxt hwf C w => ?_)
  first | rw [hxt.a hm] at hl ⊢ | rw [hxt.a hm] at hl | rw [hxt.a hm] | skip
  replace hm := hxt.m hm
  replace hxa := hxa.tr hxt
  replace hN := hxt.NM hN
  have h85 := hxt.nw (List.mem_cons_self ..)
  refine ppF (ty := .array .int) 6 16 8 (by decide) rfl (by decide) rfl rfl tyX6_ok nmX6 rfl hin rfl (by decide +kernel) (fun _ => rfl) (fun _ => rfl) C w (by decide +kernel) (by decide +kernel) dX6_init_82 hm (fun H locs w => ?_)
  replace hwf := hwf.uQ (k := 16) (t := 8) hm (tgt_f (by decide) rfl) h85
  refine lv_aload_n hx hb dX6_init_85 rfl (lv_at hl 0 rfl) ?_
  refine lv_bipush (v := 12) hx hb dX6_init_86 (by decide) ?_
  refine pnJ (r := 3) C w (by decide +kernel) dX6_init_88 (by decide) rfl hN.2.2.2.2.2.2.2.2.2 (by decide) hwf (hxa.no (hfr 9 3 (by unfold emF; omega)) (by first | decide | (simp only [List.mem_append, List.mem_cons, List.not_mem_nil, Prod.mk.injEq, or_false, false_or]; omega))) (Nat.le_of_ble_eq_true rfl) (Nat.le_of_ble_eq_true rfl) (fun G H hxt hwf C w => ?_)
  first | rw [hxt.a hm] at hl ⊢ | rw [hxt.a hm] at hl | rw [hxt.a hm] | skip
  replace hm := hxt.m hm
  replace hxa := hxa.tr hxt
  replace hN := hxt.NM hN
  have h93 := hxt.nw (List.mem_cons_self ..)
  refine ppF (ty := .array .long) 6 23 9 (by decide) rfl (by decide) rfl rfl tyX6_ok nmX6 rfl hin rfl (by decide +kernel) (fun _ => rfl) (fun _ => rfl) C w (by decide +kernel) (by decide +kernel) dX6_init_90 hm (fun H locs w => ?_)
  replace hwf := hwf.uQ (k := 23) (t := 9) hm (tgt_f (by decide) rfl) h93
  exact hret _ _ _ _ _ _ dX6_init_93 (by exact hxa) w rfl
