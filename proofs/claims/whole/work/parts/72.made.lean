/-- the rows' lengths -/
def okN (G : GT) : Prop := (∀ r, r < 79 → gN G 9 r = 12) ∧ gN G 7 0 = 300 ∧ gN G 7 1 = 263 ∧ gN G 7 2 = 19 ∧ gN G 8 0 = 12 ∧ gN G 10 0 = 60 ∧ gN G 10 1 = 12 ∧ gN G 10 2 = 5
theorem xt.N {G G' : GT} {L : List (Nat × Nat)} (h : xt G G' L) (q : okN G) : okN G' := by unfold okN; rw [h.2.2.2.1]; exact q
/-- a score just made -/
def scI (S : PS) (r : Nat) : PS := uQ (uI S 2 r 0 (-1)) 2 r 3 (some r)
theorem wf.sc {S : PS} {G G' : GT} {r : Nat} (h : wf S G) (hx : xt G G' [(9, r)]) (hm : (2, r) ∈ gP G) (hf : (9, r) ∉ gP G) : wf (scI S r) G' :=
  ((h.g1 hx hf).uI (hx.m hm) 0 (-1)).uQ (t := 9) (hx.m hm) (tgt_f (by decide) rfl) (hx.nw (List.mem_cons_self ..))
/-- j scores from place a on, laid into row q -/
def lpS (S : PS) (a q j : Nat) : PS := (fun c r k => if c = 2 ∧ a ≤ r ∧ r < a + j ∧ k = 0 then -1 else sI S c r k, sJ S, fun c r k => if c = 2 ∧ a ≤ r ∧ r < a + j ∧ k = 3 then some r else if c = 10 ∧ r = q ∧ k < j then some (a + k) else sQ S c r k)
def scL (a : Nat) : Nat → List (Nat × Nat)
  | 0 => []
  | j + 1 => scL a j ++ [(2, a + j), (9, a + j)]
theorem lpS_0 (S : PS) (a q : Nat) : lpS S a q 0 = S := by
  refine PS_ext (fun c r k => ?_) (fun _ _ _ => rfl) (fun c r k => ?_)
  · exact if_neg (by omega)
  · exact (if_neg (by omega)).trans (if_neg (by omega))
theorem lpS_s (S : PS) (a q j : Nat) : uQ (scI (lpS S a q j) (a + j)) 10 q j (some (a + j)) = lpS S a q (j + 1) := by
  refine PS_ext (fun c r k => ?_) (fun _ _ _ => rfl) (fun c r k => ?_)
  · show (if c = 2 ∧ r = a + j ∧ k = 0 then (-1 : Int32) else if c = 2 ∧ a ≤ r ∧ r < a + j ∧ k = 0 then -1 else sI S c r k) = if c = 2 ∧ a ≤ r ∧ r < a + (j + 1) ∧ k = 0 then -1 else sI S c r k
    by_cases z1 : c = 2 ∧ r = a + j ∧ k = 0
    · rw [if_pos z1, if_pos (by omega)]
    · rw [if_neg z1]
      by_cases z2 : c = 2 ∧ a ≤ r ∧ r < a + j ∧ k = 0
      · rw [if_pos z2, if_pos (by omega)]
      · rw [if_neg z2, if_neg (by omega)]
  · show (if c = 10 ∧ r = q ∧ k = j then some (a + j) else if c = 2 ∧ r = a + j ∧ k = 3 then some (a + j) else if c = 2 ∧ a ≤ r ∧ r < a + j ∧ k = 3 then some r else if c = 10 ∧ r = q ∧ k < j then some (a + k) else sQ S c r k) = if c = 2 ∧ a ≤ r ∧ r < a + (j + 1) ∧ k = 3 then some r else if c = 10 ∧ r = q ∧ k < j + 1 then some (a + k) else sQ S c r k
    by_cases z1 : c = 10 ∧ r = q ∧ k = j
    · rw [if_pos z1, if_neg (by omega), if_pos (by omega), z1.2.2]
    · rw [if_neg z1]
      by_cases z2 : c = 2 ∧ r = a + j ∧ k = 3
      · rw [if_pos z2, if_pos (by omega), z2.2.1]
      · rw [if_neg z2]
        by_cases z3 : c = 2 ∧ a ≤ r ∧ r < a + j ∧ k = 3
        · rw [if_pos z3, if_pos (by omega)]
        · rw [if_neg z3, if_neg (show ¬ (c = 2 ∧ a ≤ r ∧ r < a + (j + 1) ∧ k = 3) by omega)]
          by_cases z4 : c = 10 ∧ r = q ∧ k < j
          · rw [if_pos z4, if_pos (by omega)]
          · rw [if_neg z4, if_neg (by omega)]
theorem scL_mem {a : Nat} : ∀ {j c r : Nat}, (c, r) ∈ scL a j ↔ (c = 2 ∨ c = 9) ∧ a ≤ r ∧ r < a + j := by
  intro j
  induction j with
  | zero => intro c r; exact ⟨fun h => (by cases h), fun h => absurd h.2.2 (by omega)⟩
  | succ j ih =>
    intro c r
    show (c, r) ∈ scL a j ++ [(2, a + j), (9, a + j)] ↔ _
    rw [List.mem_append, ih]
    simp only [List.mem_cons, Prod.mk.injEq, List.not_mem_nil, or_false]
    omega

set_option maxHeartbeats 4000000 in
set_option maxRecDepth 100000 in
/-- Score() -/
theorem c_X2_init (l : Launch) (G0 : GT) (S : PS) (r : Nat) (hr79 : r < 79) (hm : (2, r) ∈ gP G0) (hf : (9, r) ∉ gP G0) (hwf : wf S G0) (hN : okN G0) : CtN l (fun _ => True) G0 [(9, r)] yX2_init wsX2_init (rmG 1 12 1 12) [.ref (gA G0 2 r)] S (fun S2 => S2 = scI S r) := by
  refine ofCtN (cc := cX2_init) (nL := 1) RX2 (by decide +kernel) rfl rfl rfl (Nat.le_of_ble_eq_true rfl) ?_
  intro p e s m args below meth c A Q ls C hKs hin w hl hret
  have hx := C.1
  have hb := C.2.1
  have hown := C.2.2.2.1
  have hts := C.2.2.2.2.1
  have hxa := xt.rf G0
  have hi2 : ∀ w ∈ wsX20, w ∈ wsX2_init := by decide +kernel
  refine lv_aload_n hx hb dX2_init_0 rfl (lv_at hl 0 rfl) ?_
  refine W.objInit hx hb hown (hts (.methodLink RX2 3 objectInit) (by decide +kernel)) (hts (.instanceMethod objectInit) (by decide +kernel)) (hts (.code objectInit ⟨#[0xb1]⟩ 1 none) (by decide +kernel)) rfl (by rw [C.2.2.1]; exact hl.1) rfl dX2_init_1 (Nat.le_of_ble_eq_true rfl) (Nat.le_of_ble_eq_true rfl) ?_
  refine W.eq (g2 := F0 m 4 ls []) rfl ?_
  refine lv_aload_n hx hb dX2_init_4 rfl (lv_at hl 0 rfl) ?_
  refine lv_iconst (v := (-1)) hx hb dX2_init_5 (by decide) ?_
  refine ppI 2 0 (by decide) rfl (by decide) rfl rfl tyX2_ok nmX2 rfl (by decide +kernel) C w hi2 (by decide +kernel) dX2_init_6 hm (fun H locs w => ?_)
  replace hwf := hwf.uI hm 0 (-1)
  refine lv_aload_n hx hb dX2_init_9 rfl (lv_at hl 0 rfl) ?_
  refine lv_bipush (v := 12) hx hb dX2_init_10 (by decide) ?_
  refine pnJ (r := r) C w (by decide +kernel) dX2_init_12 (by decide) rfl (hN.1 r hr79) (by decide) hwf hf (Nat.le_of_ble_eq_true rfl) (Nat.le_of_ble_eq_true rfl) (fun G H hxt hwf C w => ?_)
  first | rw [hxt.a hm] at hl ⊢ | rw [hxt.a hm] at hl | rw [hxt.a hm] | skip
  replace hm := hxt.m hm
  replace hxa := hxa.tr hxt
  replace hN := hxt.N hN
  have hm9 := hxt.nw (List.mem_cons_self ..)
  refine ppF (ty := .array .long) 2 3 9 (by decide) rfl (by decide) rfl rfl tyX2_ok nmX2 rfl hin rfl (by decide +kernel) (fun _ => rfl) (fun _ => rfl) C w (by decide +kernel) (by decide +kernel) dX2_init_14 hm (fun H locs w => ?_)
  replace hwf := hwf.uQ (k := 3) (t := 9) hm (tgt_f (by decide) rfl) hm9
  exact hret _ _ _ _ _ _ dX2_init_17 (by exact hxa) w rfl

set_option maxHeartbeats 4000000 in
set_option maxRecDepth 100000 in
/-- Wide() -/
theorem c_X4_init (l : Launch) (G0 : GT) (S : PS) (r : Nat) : CtN l (fun _ => True) G0 [] yX4_init wsX4_init (rmG 1 12 0 0) [.ref (gA G0 4 r)] S (fun S2 => S2 = S) := by
  refine ofCtN (cc := cX4_init) (nL := 1) RX4 (by decide +kernel) rfl rfl rfl (Nat.le_of_ble_eq_true rfl) ?_
  intro p e s m args below meth c A Q ls C hKs hin w hl hret
  have hx := C.1
  have hb := C.2.1
  have hown := C.2.2.2.1
  have hts := C.2.2.2.2.1
  have hxa := xt.rf G0
  refine lv_aload_n hx hb dX4_init_0 rfl (lv_at hl 0 rfl) ?_
  refine W.objInit hx hb hown (hts (.methodLink RX4 1 objectInit) (by decide +kernel)) (hts (.instanceMethod objectInit) (by decide +kernel)) (hts (.code objectInit ⟨#[0xb1]⟩ 1 none) (by decide +kernel)) rfl (by rw [C.2.2.1]; exact hl.1) rfl dX4_init_1 (Nat.le_of_ble_eq_true rfl) (Nat.le_of_ble_eq_true rfl) ?_
  refine W.eq (g2 := F0 m 4 ls []) rfl ?_
  exact hret _ _ _ _ _ _ dX4_init_4 (by exact hxa) w rfl

set_option maxHeartbeats 4000000 in
set_option maxRecDepth 100000 in
/-- Tape() -/
theorem c_X3_init (l : Launch) (G0 : GT) (S : PS) (hm : (3, 0) ∈ gP G0) (hf : (7, 0) ∉ gP G0) (hwf : wf S G0) (hN : okN G0) : CtN l (fun _ => True) G0 [(7, 0)] yX3_init wsX3_init (rmG 1 12 1 300) [.ref (gA G0 3 0)] S (fun S2 => S2 = uQ S 3 0 0 (some 0)) := by
  refine ofCtN (cc := cX3_init) (nL := 1) RX3 (by decide +kernel) rfl rfl rfl (Nat.le_of_ble_eq_true rfl) ?_
  intro p e s m args below meth c A Q ls C hKs hin w hl hret
  have hx := C.1
  have hb := C.2.1
  have hown := C.2.2.2.1
  have hts := C.2.2.2.2.1
  have hxa := xt.rf G0
  have hi3 : ∀ w ∈ wsX30, w ∈ wsX3_init := by decide +kernel
  refine lv_aload_n hx hb dX3_init_0 rfl (lv_at hl 0 rfl) ?_
  refine W.objInit hx hb hown (hts (.methodLink RX3 3 objectInit) (by decide +kernel)) (hts (.instanceMethod objectInit) (by decide +kernel)) (hts (.code objectInit ⟨#[0xb1]⟩ 1 none) (by decide +kernel)) rfl (by rw [C.2.2.1]; exact hl.1) rfl dX3_init_1 (Nat.le_of_ble_eq_true rfl) (Nat.le_of_ble_eq_true rfl) ?_
  refine W.eq (g2 := F0 m 4 ls []) rfl ?_
  refine lv_aload_n hx hb dX3_init_4 rfl (lv_at hl 0 rfl) ?_
  refine lv_sipush (v := 300) hx hb dX3_init_5 (by decide) ?_
  refine pnB (r := 0) C w (by decide +kernel) dX3_init_8 (by decide) rfl hN.2.1 (by decide) hwf hf (Nat.le_of_ble_eq_true rfl) (Nat.le_of_ble_eq_true rfl) (fun G H hxt hwf C w => ?_)
  first | rw [hxt.a hm] at hl ⊢ | rw [hxt.a hm] at hl | rw [hxt.a hm] | skip
  replace hm := hxt.m hm
  replace hxa := hxa.tr hxt
  replace hN := hxt.N hN
  have hm9 := hxt.nw (List.mem_cons_self ..)
  refine ppF (ty := .array .byte) 3 0 7 (by decide) rfl (by decide) rfl rfl tyX3_ok nmX3 rfl hin rfl (by decide +kernel) (fun _ => rfl) (fun _ => rfl) C w (by decide +kernel) (by decide +kernel) dX3_init_10 hm (fun H locs w => ?_)
  replace hwf := hwf.uQ (k := 0) (t := 7) hm (tgt_f (by decide) rfl) hm9
  exact hret _ _ _ _ _ _ dX3_init_13 (by exact hxa) w rfl

set_option maxHeartbeats 4000000 in
set_option maxRecDepth 100000 in
/-- Page() -/
theorem c_X0_init (l : Launch) (G0 : GT) (S : PS) (hm : (0, 0) ∈ gP G0) (hf1 : (7, 1) ∉ gP G0) (hf2 : (7, 2) ∉ gP G0) (hwf : wf S G0) (hN : okN G0) : CtN l (fun _ => True) G0 [(7, 1), (7, 2)] yX0_init wsX0_init (rmG 1 12 2 282) [.ref (gA G0 0 0)] S (fun S2 => S2 = uQ (uQ S 0 0 0 (some 1)) 0 0 2 (some 2)) := by
  refine ofCtN (cc := cX0_init) (nL := 1) RX0 (by decide +kernel) rfl rfl rfl (Nat.le_of_ble_eq_true rfl) ?_
  intro p e s m args below meth c A Q ls C hKs hin w hl hret
  have hx := C.1
  have hb := C.2.1
  have hown := C.2.2.2.1
  have hts := C.2.2.2.2.1
  have hxa := xt.rf G0
  have hi0 : ∀ w ∈ wsX00, w ∈ wsX0_init := by decide +kernel
  refine lv_aload_n hx hb dX0_init_0 rfl (lv_at hl 0 rfl) ?_
  refine W.objInit hx hb hown (hts (.methodLink RX0 3 objectInit) (by decide +kernel)) (hts (.instanceMethod objectInit) (by decide +kernel)) (hts (.code objectInit ⟨#[0xb1]⟩ 1 none) (by decide +kernel)) rfl (by rw [C.2.2.1]; exact hl.1) rfl dX0_init_1 (Nat.le_of_ble_eq_true rfl) (Nat.le_of_ble_eq_true rfl) ?_
  refine W.eq (g2 := F0 m 4 ls []) rfl ?_
  refine lv_aload_n hx hb dX0_init_4 rfl (lv_at hl 0 rfl) ?_
  refine lv_sipush (v := 263) hx hb dX0_init_5 (by decide) ?_
  refine pnB (r := 1) C w (by decide +kernel) dX0_init_8 (by decide) rfl hN.2.2.1 (by decide) hwf hf1 (Nat.le_of_ble_eq_true rfl) (Nat.le_of_ble_eq_true rfl) (fun G H hxt hwf C w => ?_)
  first | rw [hxt.a hm] at hl ⊢ | rw [hxt.a hm] at hl | rw [hxt.a hm] | skip
  replace hm := hxt.m hm
  replace hxa := hxa.tr hxt
  replace hN := hxt.N hN
  have hm9 := hxt.nw (List.mem_cons_self ..)
  replace hf2 := hxt.no hf2 (by decide)
  refine ppF (ty := .array .byte) 0 0 7 (by decide) rfl (by decide) rfl rfl tyX0_ok nmX0 rfl hin rfl (by decide +kernel) (fun _ => rfl) (fun _ => rfl) C w (by decide +kernel) (by decide +kernel) dX0_init_10 hm (fun H locs w => ?_)
  replace hwf := hwf.uQ (k := 0) (t := 7) hm (tgt_f (by decide) rfl) hm9
  refine lv_aload_n hx hb dX0_init_13 rfl (lv_at hl 0 rfl) ?_
  refine lv_bipush (v := 19) hx hb dX0_init_14 (by decide) ?_
  refine pnB (r := 2) C w (by decide +kernel) dX0_init_16 (by decide) rfl hN.2.2.2.1 (by decide) hwf hf2 (Nat.le_of_ble_eq_true rfl) (Nat.le_of_ble_eq_true rfl) (fun G H hxt hwf C w => ?_)
  first | rw [hxt.a hm] at hl ⊢ | rw [hxt.a hm] at hl | rw [hxt.a hm] | skip
  first | rw [hxt.a hm9] at hl ⊢ | rw [hxt.a hm9] at hl | rw [hxt.a hm9] | skip
  replace hm := hxt.m hm
  replace hm9 := hxt.m hm9
  replace hxa := hxa.tr hxt
  replace hN := hxt.N hN
  have hm8 := hxt.nw (List.mem_cons_self ..)
  refine ppF (ty := .array .byte) 0 2 7 (by decide) rfl (by decide) rfl rfl tyX0_ok nmX0 rfl hin rfl (by decide +kernel) (fun _ => rfl) (fun _ => rfl) C w (by decide +kernel) (by decide +kernel) dX0_init_18 hm (fun H locs w => ?_)
  replace hwf := hwf.uQ (k := 2) (t := 7) hm (tgt_f (by decide) rfl) hm8
  exact hret _ _ _ _ _ _ dX0_init_21 (by exact hxa) w rfl
