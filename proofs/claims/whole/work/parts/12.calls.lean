/-! Rows (arrays) and calls, over pools. -/
section RA
variable {p : Program} {l : Launch} {e : Env} {R : Room} {s : State} {m : MethodId} {args : Array Value} {below : List Frame} {meth : Method} {c : Code} {H : Heap} {locs : List Loc} {cells slots : Nat} {Q : State → Prop}
variable {cc : ByteArray} {own : String} {Ts : List Cond} {nL : Nat} {G : GT} {A : Nat → Prop} {S : PS} {pc : Nat} {ls : Array Slot} {rest : List Value}
theorem paI {r n : Nat} {i v : Int32} (C : Cx p s m args meth c cc own Ts nL G A) (w : Wd G A s.heap S H locs) (hdg : decode cc pc = .ok (.iaload, 1)) (hP : (8, r) ∈ gP G) (hi : i = nI n) {N0 : Nat} (hN0 : gN G 8 r = N0) (hn : n < N0) (hN : N0 < 2 ^ 31) (hv : sI S 8 r n = v)
    (kk : W p l e R s m args below meth c H locs cells slots Q (F0 m (pc + 1) ls (.int v :: rest))) : W p l e R s m args below meth c H locs cells slots Q (F0 m pc ls (.int i :: .ref (gA G 8 r) :: rest)) := by
  obtain ⟨q, hq⟩ := wl_get S hP
  subst hi
  subst hN0
  refine va_iald C.1 C.2.1 C.2.2.2.2.2.1 w.1 q 1 (cA := gI G) (n := gN G 8 r) (f := sI S 8 r) hq rfl (vp_in_nI hn hN) hdg ?_
  rw [nI_clamp (Nat.lt_trans hn hN), hv]; exact kk
theorem paB {r n : Nat} {i v : Int32} (C : Cx p s m args meth c cc own Ts nL G A) (w : Wd G A s.heap S H locs) (hdg : decode cc pc = .ok (.baload, 1)) (hP : (7, r) ∈ gP G) (hi : i = nI n) {N0 : Nat} (hN0 : gN G 7 r = N0) (hn : n < N0) (hN : N0 < 2 ^ 31) (hv : sI S 7 r n = v)
    (kk : W p l e R s m args below meth c H locs cells slots Q (F0 m (pc + 1) ls (.int v :: rest))) : W p l e R s m args below meth c H locs cells slots Q (F0 m pc ls (.int i :: .ref (gA G 7 r) :: rest)) := by
  obtain ⟨q, hq⟩ := wl_get S hP
  subst hi
  subst hN0
  refine va_bald C.1 C.2.1 C.2.2.2.2.2.1 w.1 q 0 (cA := gB G) (n := gN G 7 r) (f := sI S 7 r) hq rfl (vp_in_nI hn hN) hdg ?_
  rw [nI_clamp (Nat.lt_trans hn hN), hv]; exact kk
theorem paJ {r n : Nat} {i : Int32} {v : Int64} (C : Cx p s m args meth c cc own Ts nL G A) (w : Wd G A s.heap S H locs) (hdg : decode cc pc = .ok (.laload, 1)) (hP : (9, r) ∈ gP G) (hi : i = nI n) {N0 : Nat} (hN0 : gN G 9 r = N0) (hn : n < N0) (hN : N0 < 2 ^ 31) (hv : sJ S 9 r n = v)
    (kk : W p l e R s m args below meth c H locs cells slots Q (F0 m (pc + 1) ls (.long v :: rest))) : W p l e R s m args below meth c H locs cells slots Q (F0 m pc ls (.int i :: .ref (gA G 9 r) :: rest)) := by
  obtain ⟨q, hq⟩ := wl_get S hP
  subst hi
  subst hN0
  refine va_lald C.1 C.2.1 C.2.2.2.2.2.1 w.1 q 2 (cA := gJ G) (n := gN G 9 r) (f := sJ S 9 r) hq rfl (vp_in_nI hn hN) hdg ?_
  rw [nI_clamp (Nat.lt_trans hn hN), hv]; exact kk
theorem paQ {r n : Nat} {i : Int32} {r1 : Nat} (C : Cx p s m args meth c cc own Ts nL G A) (w : Wd G A s.heap S H locs) (hdg : decode cc pc = .ok (.aaload, 1)) (hP : (10, r) ∈ gP G) (hi : i = nI n) {N0 : Nat} (hN0 : gN G 10 r = N0) (hn : n < N0) (hN : N0 < 2 ^ 31) (hv : sQ S 10 r n = some r1)
    (kk : W p l e R s m args below meth c H locs cells slots Q (F0 m (pc + 1) ls (.ref (gA G 2 r1) :: rest))) : W p l e R s m args below meth c H locs cells slots Q (F0 m pc ls (.int i :: .ref (gA G 10 r) :: rest)) := by
  obtain ⟨q, hq⟩ := wl_get S hP
  subst hi
  subst hN0
  refine va_aldq C.1 C.2.1 C.2.2.2.2.2.1 w.1 q 3 (cA := gO G) (C := "LevelScores$Score") (n := gN G 10 r) (f := fun k => (sQ S 10 r k).map (gA G 2)) hq rfl (vp_in_nI hn hN) hdg ?_
  rw [nI_clamp (Nat.lt_trans hn hN)]
  show W p l e R s m args below meth c H locs cells slots Q (F0 m (pc + 1) ls (va_rf ((sQ S 10 r n).map (gA G 2)) :: rest))
  rw [hv]; exact kk
theorem plen (c0 : Nat) {r n : Nat} (h7 : c0 = 7 ∨ c0 = 8 ∨ c0 = 9 ∨ c0 = 10) (C : Cx p s m args meth c cc own Ts nL G A) (w : Wd G A s.heap S H locs) (hdg : decode cc pc = .ok (.arraylength, 1)) (hP : (c0, r) ∈ gP G) (hn : gN G c0 r = n)
    (kk : W p l e R s m args below meth c H locs cells slots Q (F0 m (pc + 1) ls (.int (nI n) :: rest))) : W p l e R s m args below meth c H locs cells slots Q (F0 m pc ls (.ref (gA G c0 r) :: rest)) := by
  obtain ⟨q, hq⟩ := wl_get S hP
  subst hn
  rcases h7 with rfl | rfl | rfl | rfl
  · exact va_alen C.1 C.2.1 C.2.2.2.2.2.1 w.1 q 0 (cA := gB G) (x := (gN G 7 r, .inl (sI S 7 r))) hq rfl rfl hdg kk
  · exact va_alen C.1 C.2.1 C.2.2.2.2.2.1 w.1 q 1 (cA := gI G) (x := (gN G 8 r, .inl (sI S 8 r))) hq rfl rfl hdg kk
  · exact va_alen C.1 C.2.1 C.2.2.2.2.2.1 w.1 q 2 (cA := gJ G) (x := (gN G 9 r, .inr (.inl (sJ S 9 r)))) hq rfl rfl hdg kk
  · exact va_alen C.1 C.2.1 C.2.2.2.2.2.1 w.1 q 3 (cA := gO G) (x := (gN G 10 r, .inr (.inr (.inr (.inr (fun k => (sQ S 10 r k).map (gA G 2))))))) hq rfl rfl hdg kk
theorem psI {r n : Nat} {i v : Int32} (C : Cx p s m args meth c cc own Ts nL G A) (w : Wd G A s.heap S H locs) (hdg : decode cc pc = .ok (.iastore, 1)) (hP : (8, r) ∈ gP G) (hi : i = nI n) {N0 : Nat} (hN0 : gN G 8 r = N0) (hn : n < N0) (hN : N0 < 2 ^ 31)
    (kk : ∀ (H1 : Heap) (locs1 : List Loc), Wd G A s.heap (uI S 8 r n v) H1 locs1 → W p l e R s m args below meth c H1 locs1 cells slots Q (F0 m (pc + 1) ls rest)) : W p l e R s m args below meth c H locs cells slots Q (F0 m pc ls (.int v :: .int i :: .ref (gA G 8 r) :: rest)) := by
  obtain ⟨q, hq⟩ := wl_get S hP
  subst hi
  subst hN0
  have he : en G (uI S 8 r n v) 8 r = .inl (gI G, gN G 8 r, .inl (upd (sI S 8 r) n v)) := by
    show Sum.inl (gI G, gN G 8 r, Sum.inl (sI (uI S 8 r n v) 8 r)) = _
    have : sI (uI S 8 r n v) 8 r = upd (sI S 8 r) n v := by
      funext j; rw [sI_uI]; unfold upd
      by_cases h : j = n
      · rw [if_pos ⟨rfl, rfl, h⟩, if_pos h]
      · rw [if_neg (fun q => h q.2.2), if_neg h]
    rw [this]
  have hset := wl_set (S' := uI S 8 r n v) w.2.1 hP hq he (fun c' r' h => uI_far h)
  refine va_iast C.1 C.2.1 C.2.2.2.2.2.1 w.1 w.2.1 w.2.2 q 1 (cA := gI G) (n := gN G 8 r) (f := sI S 8 r) hq rfl (vp_in_nI hn hN) hdg fun H1 locs1 h1 h2 h3 => ?_
  rw [nI_clamp (Nat.lt_trans hn hN), hset] at h1 h2
  exact kk H1 locs1 ⟨h1, h2, h3⟩
theorem psB {r n : Nat} {i v : Int32} (C : Cx p s m args meth c cc own Ts nL G A) (w : Wd G A s.heap S H locs) (hdg : decode cc pc = .ok (.bastore, 1)) (hP : (7, r) ∈ gP G) (hi : i = nI n) {N0 : Nat} (hN0 : gN G 7 r = N0) (hn : n < N0) (hN : N0 < 2 ^ 31)
    (kk : ∀ (H1 : Heap) (locs1 : List Loc), Wd G A s.heap (uI S 7 r n (vp_nar .byte v)) H1 locs1 → W p l e R s m args below meth c H1 locs1 cells slots Q (F0 m (pc + 1) ls rest)) : W p l e R s m args below meth c H locs cells slots Q (F0 m pc ls (.int v :: .int i :: .ref (gA G 7 r) :: rest)) := by
  obtain ⟨q, hq⟩ := wl_get S hP
  subst hi
  subst hN0
  have he : en G (uI S 7 r n (vp_nar .byte v)) 7 r = .inl (gB G, gN G 7 r, .inl (upd (sI S 7 r) n (vp_nar .byte v))) := by
    show Sum.inl (gB G, gN G 7 r, Sum.inl (sI (uI S 7 r n (vp_nar .byte v)) 7 r)) = _
    have : sI (uI S 7 r n (vp_nar .byte v)) 7 r = upd (sI S 7 r) n (vp_nar .byte v) := by
      funext j; rw [sI_uI]; unfold upd
      by_cases h : j = n
      · rw [if_pos ⟨rfl, rfl, h⟩, if_pos h]
      · rw [if_neg (fun q => h q.2.2), if_neg h]
    rw [this]
  have hset := wl_set (S' := uI S 7 r n (vp_nar .byte v)) w.2.1 hP hq he (fun c' r' h => uI_far h)
  refine va_bast C.1 C.2.1 C.2.2.2.2.2.1 w.1 w.2.1 w.2.2 q 0 (cA := gB G) (n := gN G 7 r) (f := sI S 7 r) hq rfl (vp_in_nI hn hN) hdg fun H1 locs1 h1 h2 h3 => ?_
  rw [nI_clamp (Nat.lt_trans hn hN), hset] at h1 h2
  exact kk H1 locs1 ⟨h1, h2, h3⟩
theorem psJ {r n : Nat} {i : Int32} {v : Int64} (C : Cx p s m args meth c cc own Ts nL G A) (w : Wd G A s.heap S H locs) (hdg : decode cc pc = .ok (.lastore, 1)) (hP : (9, r) ∈ gP G) (hi : i = nI n) {N0 : Nat} (hN0 : gN G 9 r = N0) (hn : n < N0) (hN : N0 < 2 ^ 31)
    (kk : ∀ (H1 : Heap) (locs1 : List Loc), Wd G A s.heap (uJ S 9 r n v) H1 locs1 → W p l e R s m args below meth c H1 locs1 cells slots Q (F0 m (pc + 1) ls rest)) : W p l e R s m args below meth c H locs cells slots Q (F0 m pc ls (.long v :: .int i :: .ref (gA G 9 r) :: rest)) := by
  obtain ⟨q, hq⟩ := wl_get S hP
  subst hi
  subst hN0
  have he : en G (uJ S 9 r n v) 9 r = .inl (gJ G, gN G 9 r, .inr (.inl (vp_updL (sJ S 9 r) n v))) := by
    show Sum.inl (gJ G, gN G 9 r, Sum.inr (Sum.inl (sJ (uJ S 9 r n v) 9 r))) = _
    have : sJ (uJ S 9 r n v) 9 r = vp_updL (sJ S 9 r) n v := by
      funext j; rw [sJ_uJ]; unfold vp_updL
      by_cases h : j = n
      · rw [if_pos ⟨rfl, rfl, h⟩, if_pos h]
      · rw [if_neg (fun q => h q.2.2), if_neg h]
    rw [this]
  have hset := wl_set (S' := uJ S 9 r n v) w.2.1 hP hq he (fun c' r' h => uJ_far h)
  refine va_last C.1 C.2.1 C.2.2.2.2.2.1 w.1 w.2.1 w.2.2 q 2 (cA := gJ G) (n := gN G 9 r) (f := sJ S 9 r) hq rfl (vp_in_nI hn hN) hdg fun H1 locs1 h1 h2 h3 => ?_
  rw [nI_clamp (Nat.lt_trans hn hN), hset] at h1 h2
  exact kk H1 locs1 ⟨h1, h2, h3⟩
theorem psQ {r n : Nat} {i : Int32} {r1 : Nat} (C : Cx p s m args meth c cc own Ts nL G A) (w : Wd G A s.heap S H locs) (hdg : decode cc pc = .ok (.aastore, 1)) (hP : (10, r) ∈ gP G) (hP1 : (2, r1) ∈ gP G) (hi : i = nI n) {N0 : Nat} (hN0 : gN G 10 r = N0) (hn : n < N0) (hN : N0 < 2 ^ 31)
    (kk : ∀ (H1 : Heap) (locs1 : List Loc), Wd G A s.heap (uQ S 10 r n (some r1)) H1 locs1 → W p l e R s m args below meth c H1 locs1 cells slots Q (F0 m (pc + 1) ls rest)) : W p l e R s m args below meth c H locs cells slots Q (F0 m pc ls (.ref (gA G 2 r1) :: .int i :: .ref (gA G 10 r) :: rest)) := by
  obtain ⟨q, hq⟩ := wl_get S hP
  obtain ⟨q1, hq1⟩ := wl_get S hP1
  rw [en_obj (by decide)] at hq1
  subst hi
  subst hN0
  have he : en G (uQ S 10 r n (some r1)) 10 r = .inl (gO G, gN G 10 r, .inr (.inr (.inr (.inr (va_up (fun k => (sQ S 10 r k).map (gA G 2)) n (some (gA G 2 r1))))))) := by
    show Sum.inl (gO G, gN G 10 r, Sum.inr (Sum.inr (Sum.inr (Sum.inr (fun k => (sQ (uQ S 10 r n (some r1)) 10 r k).map (gA G 2)))))) = _
    have : (fun k => (sQ (uQ S 10 r n (some r1)) 10 r k).map (gA G 2)) = va_up (fun k => (sQ S 10 r k).map (gA G 2)) n (some (gA G 2 r1)) := by
      funext j; rw [sQ_uQ]; unfold va_up
      by_cases h : j = n
      · rw [if_pos ⟨rfl, rfl, h⟩, if_pos h]; rfl
      · rw [if_neg (fun q => h q.2.2), if_neg h]
    rw [this]
  have hset := wl_set (S' := uQ S 10 r n (some r1)) w.2.1 hP hq he (fun c' r' h => uQ_far h)
  refine va_astq C.1 C.2.1 C.2.2.2.2.2.1 w.1 w.2.1 w.2.2 q 3 q1 2 (cA := gO G) (n := gN G 10 r) (r := (RX2, TX2, 4)) (f := fun k => (sQ S 10 r k).map (gA G 2)) hq rfl hq1 rfl (vp_in_nI hn hN) hdg fun H1 locs1 h1 h2 h3 => ?_
  rw [nI_clamp (Nat.lt_trans hn hN), hset] at h1 h2
  exact kk H1 locs1 ⟨h1, h2, h3⟩
end RA
theorem Wd.free {G : GT} {A : Nat → Prop} {H0 H : Heap} {S : PS} {locs : List Loc} (w : Wd G A H0 S H locs) (hA : ∀ q : Nat, H0.size ≤ q → A q) : ∀ q, va_A (wl G S) H.size q → A q := by
  intro q h
  rcases h with ⟨k, e, h⟩ | h
  · exact w.2.1.2 k _ h
  · exact hA q (Nat.le_trans w.2.2.1 h)
theorem Wa_blind {G : GT} {S : PS} {sz : Nat} {as : List Value} : FrameBlind (va_Pc as (Wa G S sz)) := fun a U g mk q => by
  obtain ⟨q0, q1, qP, qK, qD⟩ := q
  exact ⟨q0, q1, qP, va_K.moved (u := U) (U := U.calling g mk a) (Vm.Alike.refl U.vm) qK, qD⟩
theorem Wa_pre {G : GT} {A : Nat → Prop} {S : PS} {s : State} {H : Heap} {locs : List Loc} {as : List Value} (hK : va_K (gD G) vwCl (gT G) s) (w : Wd G A s.heap S H locs) : ∀ U : State, U.heap = H → s.WarmedH U.vm → va_Pc as (Wa G S H.size) as.toArray U :=
  fun U hU hW => ⟨rfl, by rw [hU], by rw [hU]; exact w.1, va_K.moved hW.alike hK, w.2.1.weaken (fun _ _ _ _ => trivial)⟩
theorem Wb_wd {G : GT} {A : Nat → Prop} {S S' : PS} {s t : State} {H H1 : Heap} {locs locs1 : List Loc} (w : Wd G A s.heap S H locs) (hA : ∀ q : Nat, s.heap.size ≤ q → A q) (ht : t.heap = H1) (hB : Wb G (va_A (wl G S) H.size) S' t) (hS : va_S A s.heap H1 locs1) : Wd G A s.heap S' H1 locs1 := by
  obtain ⟨h1, -, h3⟩ := hB
  rw [ht] at h1
  exact ⟨h1, h3.weaken (fun k q _ h => w.free hA q.1 h), hS⟩
section RC
variable {p : Program} {l : Launch} {e : Env} {R : Room} {s : State} {m : MethodId} {args : Array Value} {below : List Frame} {meth : Method} {c : Code} {H : Heap} {locs : List Loc} {cells slots : Nat} {Q : State → Prop}
variable {cc : ByteArray} {own : String} {Ts : List Cond} {nL : Nat} {G : GT} {A : Nat → Prop} {S : PS} {pc : Nat} {ls : Array Slot} {rest st : List Value} {lv : List (Nat × Value)}
variable {c0 r index n f fn : Nat} {Cn : String} {T : u_T} {N maxL : Nat} {y : MethodName} {bytes : ByteArray} {ret' : Option FieldType} {ws ws' : List Cond} {As : List Value}
/-- invokevirtual: an int or a boolean comes back -/
theorem cvI {post : Int32 → PS → Prop} (C : Cx p s m args meth c cc own Ts nL G A) (w : Wd G A s.heap S H locs) (hl : lv_has ls nL lv) (hdg : decode cc pc = .ok (.invokevirtual index, 3)) (hM : CtI l G y ws (rmK f fn) (.ref (gA G c0 r) :: As) S post) (hT : GoodIn Ts (wsV own index Cn y ws)) (hw : ws = Cond.code y bytes maxL ret' :: ws')
    (hd : y.cls = Cn ∧ y.cls ≠ "java/lang/invoke/MethodHandle" ∧ y.cls ≠ "java/lang/invoke/VarHandle" ∧ (parseMethodDescriptor y.desc).map (fun d => d.parameters.length) = some n) (hn : As.length = n) (hst : st = As.reverse ++ .ref (gA G c0 r) :: rest) (hrest : (rest.map fun v => v.category).sum ≤ 8)
    (hR : f + 1 ≤ R.frames ∧ 8 + (maxL + 11) + fn ≤ R.locals) (hc7 : c0 < 7) (hc : vwCl[c0]? = some (Cn, T, N)) (hP : (c0, r) ∈ gP G)
    (kk : ∀ (v : Int32) (S' : PS) (H1 : Heap) (locs1 : List Loc), post v S' → Wd G A s.heap S' H1 locs1 → W p l e R s m args below meth c H1 locs1 cells slots Q (F0 m (pc + 3) ls (.int v :: rest))) (hf : cells ≤ R.cells ∧ slots ≤ R.slots := by exact ⟨Nat.zero_le _, Nat.zero_le _⟩) : W p l e R s m args below meth c H locs cells slots Q (F0 m pc ls st) := by
  obtain ⟨q, hq⟩ := wl_get S hP
  rw [en_obj hc7] at hq
  subst hst
  have hA := C.2.2.2.2.2.2
  refine va_calli (va_runV (As := As) (rest := rest) ⟨C.1, C.2.1, C.2.2.1, C.2.2.2.1, C.2.2.2.2.1⟩ (hM H.size) (cwV n C.2.2.2.2.1 hT hw rfl rfl hd hR) ⟨Wa_blind, va_recv C.2.2.2.2.2.1 w.1 hc hq, Wa_pre C.2.2.2.2.2.1 w⟩ rfl hn hl.1 rfl (lv_room hrest) hdg hf) w.2.2 (fun q _ h => w.free hA q h) (w.free hA) (fun v u t H1 locs1 ht hvm hp hB hz1 hk1 hS => kk v u H1 locs1 hp (Wb_wd w hA ht hB hS))
theorem cvL {post : Int64 → PS → Prop} (C : Cx p s m args meth c cc own Ts nL G A) (w : Wd G A s.heap S H locs) (hl : lv_has ls nL lv) (hdg : decode cc pc = .ok (.invokevirtual index, 3)) (hM : CtL l G y ws (rmK f fn) (.ref (gA G c0 r) :: As) S post) (hT : GoodIn Ts (wsV own index Cn y ws)) (hw : ws = Cond.code y bytes maxL ret' :: ws')
    (hd : y.cls = Cn ∧ y.cls ≠ "java/lang/invoke/MethodHandle" ∧ y.cls ≠ "java/lang/invoke/VarHandle" ∧ (parseMethodDescriptor y.desc).map (fun d => d.parameters.length) = some n) (hn : As.length = n) (hst : st = As.reverse ++ .ref (gA G c0 r) :: rest) (hrest : (rest.map fun v => v.category).sum ≤ 8)
    (hR : f + 1 ≤ R.frames ∧ 8 + (maxL + 11) + fn ≤ R.locals) (hc7 : c0 < 7) (hc : vwCl[c0]? = some (Cn, T, N)) (hP : (c0, r) ∈ gP G)
    (kk : ∀ (v : Int64) (S' : PS) (H1 : Heap) (locs1 : List Loc), post v S' → Wd G A s.heap S' H1 locs1 → W p l e R s m args below meth c H1 locs1 cells slots Q (F0 m (pc + 3) ls (.long v :: rest))) (hf : cells ≤ R.cells ∧ slots ≤ R.slots := by exact ⟨Nat.zero_le _, Nat.zero_le _⟩) : W p l e R s m args below meth c H locs cells slots Q (F0 m pc ls st) := by
  obtain ⟨q, hq⟩ := wl_get S hP
  rw [en_obj hc7] at hq
  subst hst
  have hA := C.2.2.2.2.2.2
  refine va_calll (va_runV (As := As) (rest := rest) ⟨C.1, C.2.1, C.2.2.1, C.2.2.2.1, C.2.2.2.2.1⟩ (hM H.size) (cwV n C.2.2.2.2.1 hT hw rfl rfl hd hR) ⟨Wa_blind, va_recv C.2.2.2.2.2.1 w.1 hc hq, Wa_pre C.2.2.2.2.2.1 w⟩ rfl hn hl.1 rfl (lv_room hrest) hdg hf) w.2.2 (fun q _ h => w.free hA q h) (w.free hA) (fun v u t H1 locs1 ht hvm hp hB hz1 hk1 hS => kk v u H1 locs1 hp (Wb_wd w hA ht hB hS))
theorem cvV {post : PS → Prop} (C : Cx p s m args meth c cc own Ts nL G A) (w : Wd G A s.heap S H locs) (hl : lv_has ls nL lv) (hdg : decode cc pc = .ok (.invokevirtual index, 3)) (hM : CtV l G y ws (rmK f fn) (.ref (gA G c0 r) :: As) S post) (hT : GoodIn Ts (wsV own index Cn y ws)) (hw : ws = Cond.code y bytes maxL ret' :: ws')
    (hd : y.cls = Cn ∧ y.cls ≠ "java/lang/invoke/MethodHandle" ∧ y.cls ≠ "java/lang/invoke/VarHandle" ∧ (parseMethodDescriptor y.desc).map (fun d => d.parameters.length) = some n) (hn : As.length = n) (hst : st = As.reverse ++ .ref (gA G c0 r) :: rest) (hrest : (rest.map fun v => v.category).sum ≤ 8)
    (hR : f + 1 ≤ R.frames ∧ 8 + (maxL + 11) + fn ≤ R.locals) (hc7 : c0 < 7) (hc : vwCl[c0]? = some (Cn, T, N)) (hP : (c0, r) ∈ gP G)
    (kk : ∀ (S' : PS) (H1 : Heap) (locs1 : List Loc), post S' → Wd G A s.heap S' H1 locs1 → W p l e R s m args below meth c H1 locs1 cells slots Q (F0 m (pc + 3) ls rest)) (hf : cells ≤ R.cells ∧ slots ≤ R.slots := by exact ⟨Nat.zero_le _, Nat.zero_le _⟩) : W p l e R s m args below meth c H locs cells slots Q (F0 m pc ls st) := by
  obtain ⟨q, hq⟩ := wl_get S hP
  rw [en_obj hc7] at hq
  subst hst
  have hA := C.2.2.2.2.2.2
  refine va_callv (va_runV (As := As) (rest := rest) ⟨C.1, C.2.1, C.2.2.1, C.2.2.2.1, C.2.2.2.2.1⟩ (hM H.size) (cwV n C.2.2.2.2.1 hT hw rfl rfl hd hR) ⟨Wa_blind, va_recv C.2.2.2.2.2.1 w.1 hc hq, Wa_pre C.2.2.2.2.2.1 w⟩ rfl hn hl.1 rfl (lv_room hrest) hdg hf) w.2.2 (fun q _ h => w.free hA q h) (w.free hA) (fun u t H1 locs1 ht hvm hp hB hz1 hk1 hS => kk u H1 locs1 hp (Wb_wd w hA ht hB hS))
theorem csI {post : Int32 → PS → Prop} (C : Cx p s m args meth c cc own Ts nL G A) (w : Wd G A s.heap S H locs) (hl : lv_has ls nL lv) (hdg : decode cc pc = .ok (.invokestatic index, 3)) (hM : CtI l G y ws (rmK f fn) As S post) (hT : GoodIn Ts (va_wsS own index y ws)) (hw : ws = Cond.code y bytes maxL ret' :: ws')
    (hd : y.cls ≠ "java/lang/invoke/MethodHandle" ∧ y.cls ≠ "java/lang/invoke/VarHandle" ∧ (parseMethodDescriptor y.desc).map (fun d => d.parameters.length) = some n) (hn : As.length = n) (hst : st = As.reverse ++ rest) (hrest : (rest.map fun v => v.category).sum ≤ 8)
    (hR : f + 1 ≤ R.frames ∧ 8 + (maxL + 11) + fn ≤ R.locals)
    (kk : ∀ (v : Int32) (S' : PS) (H1 : Heap) (locs1 : List Loc), post v S' → Wd G A s.heap S' H1 locs1 → W p l e R s m args below meth c H1 locs1 cells slots Q (F0 m (pc + 3) ls (.int v :: rest))) (hf : cells ≤ R.cells ∧ slots ≤ R.slots := by exact ⟨Nat.zero_le _, Nat.zero_le _⟩) : W p l e R s m args below meth c H locs cells slots Q (F0 m pc ls st) := by
  subst hst
  have hA := C.2.2.2.2.2.2
  refine va_calli (va_runS (As := As) (rest := rest) ⟨C.1, C.2.1, C.2.2.1, C.2.2.2.1, C.2.2.2.2.1⟩ (hM H.size) (va_cwS n C.2.2.2.2.1 hT hw rfl rfl hd hR) ⟨Wa_blind, Wa_pre C.2.2.2.2.2.1 w⟩ rfl hn hl.1 rfl (lv_room hrest) hdg hf) w.2.2 (fun q _ h => w.free hA q h) (w.free hA) (fun v u t H1 locs1 ht hvm hp hB hz1 hk1 hS => kk v u H1 locs1 hp (Wb_wd w hA ht hB hS))
theorem csL {post : Int64 → PS → Prop} (C : Cx p s m args meth c cc own Ts nL G A) (w : Wd G A s.heap S H locs) (hl : lv_has ls nL lv) (hdg : decode cc pc = .ok (.invokestatic index, 3)) (hM : CtL l G y ws (rmK f fn) As S post) (hT : GoodIn Ts (va_wsS own index y ws)) (hw : ws = Cond.code y bytes maxL ret' :: ws')
    (hd : y.cls ≠ "java/lang/invoke/MethodHandle" ∧ y.cls ≠ "java/lang/invoke/VarHandle" ∧ (parseMethodDescriptor y.desc).map (fun d => d.parameters.length) = some n) (hn : As.length = n) (hst : st = As.reverse ++ rest) (hrest : (rest.map fun v => v.category).sum ≤ 8)
    (hR : f + 1 ≤ R.frames ∧ 8 + (maxL + 11) + fn ≤ R.locals)
    (kk : ∀ (v : Int64) (S' : PS) (H1 : Heap) (locs1 : List Loc), post v S' → Wd G A s.heap S' H1 locs1 → W p l e R s m args below meth c H1 locs1 cells slots Q (F0 m (pc + 3) ls (.long v :: rest))) (hf : cells ≤ R.cells ∧ slots ≤ R.slots := by exact ⟨Nat.zero_le _, Nat.zero_le _⟩) : W p l e R s m args below meth c H locs cells slots Q (F0 m pc ls st) := by
  subst hst
  have hA := C.2.2.2.2.2.2
  refine va_calll (va_runS (As := As) (rest := rest) ⟨C.1, C.2.1, C.2.2.1, C.2.2.2.1, C.2.2.2.2.1⟩ (hM H.size) (va_cwS n C.2.2.2.2.1 hT hw rfl rfl hd hR) ⟨Wa_blind, Wa_pre C.2.2.2.2.2.1 w⟩ rfl hn hl.1 rfl (lv_room hrest) hdg hf) w.2.2 (fun q _ h => w.free hA q h) (w.free hA) (fun v u t H1 locs1 ht hvm hp hB hz1 hk1 hS => kk v u H1 locs1 hp (Wb_wd w hA ht hB hS))
end RC
