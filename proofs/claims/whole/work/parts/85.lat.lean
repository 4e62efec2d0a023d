set_option maxHeartbeats 4000000 in
set_option maxRecDepth 100000 in
/-- the law's own at: what was thrown, as a number -/
theorem c_L_at (l : Launch) (hlt : l.stackTraces = false) (G : GT) (hX : okX G) (S : PS) (hS : lkX S) (n : Nat) (hn : sI S 5 0 1 = nI n) (hn60 : n ≤ 60) (hsz : ∀ i, i < n → 0 ≤ (sI S 2 i 2).toInt ∧ (sI S 2 i 2).toInt ≤ 12) (hm79 : (9, 79) ∈ gP G) (hN79 : gN G 9 79 = 1) (i k : Int32) (a0 a1 a2 sz : Nat) : vx_Met l yL_at wsL_at (rmG 7 104 1 6) (va_Pc [.ref (gA G 5 0), .int i, .int k, .ref (gA G 9 79)] (xPre G S a0 a1 a2 sz)) (va_Qi (fun v (S2 : PS) => v = atT n (fun j => sI S 2 j 0) (fun j => sI S 2 j 2) i k ∧ S2 = if atT n (fun j => sI S 2 j 0) (fun j => sI S 2 j 2) i k = 0 then uJ S 9 79 0 (sJ S 9 (jn i) (jn k)) else S) (Wb G (va_A (wl G S) sz)) (va_A (wl G S) sz)) (vx_X (fun _ : PS => False) (fun _ _ _ => True) (va_A (wl G S) sz)) 1 6 (va_A (wl G S) sz) := by
  refine vx_ofWH (cc := cL_at) (maxL := 5) (ret := some .int) (hh := [(0, 9, 12, 13), (0, 9, 16, 15)]) (by decide +kernel) rfl ?_
  intro p e s m args below meth c s₁ B hml hv
  obtain ⟨rfl, ⟨hsz', hP, hK, hD0⟩, hxK, hxZ⟩ := hv
  have hts := atoms_spec (ws := wsL_at) B.pre
  have hown : s.vm.findClass RL = some m.cls := findClass_of_methodNamed B.named
  have htab : c.exceptionTable.toList = tableOf [(0, 9, 12, 13), (0, 9, 16, 15)] := vx_table (x := yL_at) B (hts (.codeWith yL_at cL_at 5 (some .int) [(0, 9, 12, 13), (0, 9, 16, 15)]) List.mem_cons_self)
  subst hsz'
  have hD := hD0.self (sz := s.heap.size)
  have hl0 := lv_entry [.ref (gA G 5 0), .int i, .int k, .ref (gA G 9 79)] (n := 5) (Nat.le_of_ble_eq_true rfl)
  rw [lg_entry_eq]
  generalize (lg_sl ([.ref (gA G 5 0), .int i, .int k, .ref (gA G 9 79)]) ++ List.replicate (5 - (lg_sl ([.ref (gA G 5 0), .int i, .int k, .ref (gA G 9 79)])).length) Slot.unset).toArray = ls at hl0 ⊢
  have hl : lv_has ls 5 [(0, .ref (gA G 5 0)), (1, .int i), (2, .int k), (3, .ref (gA G 9 79))] := hl0
  have C : Cx p s m (([.ref (gA G 5 0), .int i, .int k, .ref (gA G 9 79)] : List Value).toArray) meth c cL_at RL wsL_at 5 G (va_A (wl G S) s.heap.size) := ⟨B.exec, B.bytes, hml, hown, hts, hK, fun q h => Or.inr h⟩
  have w : Wd G (va_A (wl G S) s.heap.size) s.heap S s.heap [] := ⟨hP, hD, va_S.rf⟩
  have hx := C.1
  have hb := C.2.1
  have hA := C.2.2.2.2.2.2
  obtain ⟨q, hq⟩ := wl_get S (oP5 hX)
  rw [en_obj (by decide)] at hq
  refine lv_aload_n hx hb dL_at_0 rfl (lv_at hl 3 rfl) ?_
  refine lv_iconst (v := nI 0) hx hb dL_at_1 (by decide) ?_
  refine lv_aload_n hx hb dL_at_2 rfl (lv_at hl 0 rfl) ?_
  refine lv_iload_n hx hb dL_at_3 rfl (lv_at hl 1 rfl) ?_
  refine lv_iload_n hx hb dL_at_4 rfl (lv_at hl 2 rfl) ?_
  refine vx_calll (vx_runV (As := [.int i, .int k]) (rest := [.int (nI 0), .ref (gA G 9 79)]) ⟨C.1, C.2.1, C.2.2.1, C.2.2.2.1, C.2.2.2.2.1⟩ (c_X5_at l hlt G hX S hS n hn hn60 hsz i k a0 a1 a2 s.heap.size) (cwV 2 C.2.2.2.2.1 gL_at_X5_at rfl rfl rfl (by decide +kernel) ⟨Nat.le_of_ble_eq_true rfl, Nat.le_of_ble_eq_true rfl⟩) ⟨xPre_blind, va_recv C.2.2.2.2.2.1 w.1 (by rfl) hq, fun U hU hW => ⟨rfl, ⟨by rw [hU], by rw [hU]; exact w.1, va_K.moved hW.alike hK, w.2.1.weaken (fun _ _ _ _ => trivial)⟩, hxK.warm hW, hxZ.call w.2.2 (w.free hA) hU hW⟩⟩ rfl rfl hl.1 rfl (lv_room (Nat.le_of_ble_eq_true rfl)) dL_at_5 ⟨Nat.le_of_ble_eq_true rfl, Nat.le_of_ble_eq_true rfl⟩) w.2.2 (fun q _ h => w.free hA q h) (w.free hA) (fun q _ h => w.free hA q h) ?_ ?_
  · intro E ce q9 u t H1 locs1 ht hvm hpx hBX hz1 hk1 hS1 hce hcv hcl
    subst hpx
    obtain ⟨hE, hB⟩ := hBX
    have w1 := Wb_wd w hA ht hB hS1
    rcases hE with ⟨rfl, hT⟩ | ⟨rfl, hT⟩
    · refine vx_catch (name := "java/lang/IndexOutOfBoundsException") hown [] ⟨0, 9, 12, 13⟩ [⟨0, 9, 16, 15⟩] (by rw [htab]; rfl) (fun z hz => by cases hz) (by decide +kernel) (by decide +kernel) (hts (.classLink RL 13 "java/lang/IndexOutOfBoundsException") (by decide +kernel)) (va_Nw.use rfl (hxK.2.2.2.1 (.castable "java/lang/IndexOutOfBoundsException" "java/lang/IndexOutOfBoundsException") (by decide +kernel))) hce hcv hcl ?_
      refine lv_astore hx hb dL_at_12 hl (by decide) rfl (fun ls hl => ?_)
      refine lv_iconst (v := 1) hx hb dL_at_14 (by decide) ?_
      exact vx_ret (W.iret B.exec B.bytes B.returns (fun t ht hW => ⟨⟨1, u, rfl, ⟨hT.symm, by rw [hT]; rfl⟩, by rw [ht]; exact w1.1, va_K.moved hW.alike hK, w1.2.1⟩, w1.2.2.F ht⟩) w1.2.2.2.2 dL_at_15 B.notSynchronized)
    · refine vx_catch (name := "java/util/NoSuchElementException") hown [⟨0, 9, 12, 13⟩] ⟨0, 9, 16, 15⟩ [] (by rw [htab]; rfl) (fun z hz => by rw [List.mem_singleton.mp hz]; exact Or.inr ⟨by decide, "java/lang/IndexOutOfBoundsException", hts (.classLink RL 13 "java/lang/IndexOutOfBoundsException") (by decide +kernel), hxK.2.2.2.2.2⟩) (by decide +kernel) (by decide +kernel) (hts (.classLink RL 15 "java/util/NoSuchElementException") (by decide +kernel)) (va_Nw.use rfl (hxK.2.2.2.2.1 (.castable "java/util/NoSuchElementException" "java/util/NoSuchElementException") (by decide +kernel))) hce hcv hcl ?_
      refine lv_astore hx hb dL_at_16 hl (by decide) rfl (fun ls hl => ?_)
      refine lv_iconst (v := 2) hx hb dL_at_18 (by decide) ?_
      exact vx_ret (W.iret B.exec B.bytes B.returns (fun t ht hW => ⟨⟨2, u, rfl, ⟨hT.symm, by rw [hT]; rfl⟩, by rw [ht]; exact w1.1, va_K.moved hW.alike hK, w1.2.1⟩, w1.2.2.F ht⟩) w1.2.2.2.2 dL_at_19 B.notSynchronized)
  · intro r u t H1 locs1 ht hvm hp hB hz1 hk1 hS1
    obtain ⟨hT, rfl, rfl⟩ := hp
    have w1 := Wb_wd w hA ht hB hS1
    refine psJ C w1 dL_at_8 hm79 (n := 0) rfl hN79 (by decide) (by decide) (fun H locs w => ?_)
    refine lv_goto (tgt := 20) hx hb dL_at_9 (by decide) ?_
    refine lv_iconst (v := 0) hx hb dL_at_20 (by decide) ?_
    exact vx_ret (W.iret B.exec B.bytes B.returns (fun t ht hW => ⟨⟨0, _, rfl, ⟨hT.symm, by rw [if_pos hT]⟩, by rw [ht]; exact w.1, va_K.moved hW.alike hK, w.2.1⟩, w.2.2.F ht⟩) w.2.2.2.2 dL_at_21 B.notSynchronized)
