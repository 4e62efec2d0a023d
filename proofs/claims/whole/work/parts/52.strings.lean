/-! Contracts that rest on String constants. The six texts: hard/ medium/ soft [ ]hard/[ ]soft -/
def sLen : List Nat := [5, 7, 4, 1, 7, 5]
def sByt : List (List Int32) := [[104, 97, 114, 100, 47], [109, 101, 100, 105, 117, 109, 47], [115, 111, 102, 116], [91], [93, 104, 97, 114, 100, 47, 91], [93, 115, 111, 102, 116]]
def sTx (i : Nat) : List Int32 := sByt.getD i []
abbrev SK : Type := (Nat → Nat) × (Nat → Nat)
def kR (k : SK) (U : State) : Prop := vk_R RX0 42 "hard/" (k.1 0) U ∧ vk_R RX0 48 "medium/" (k.1 1) U ∧ vk_R RX0 50 "soft" (k.1 2) U ∧ vk_R RX0 52 "[" (k.1 3) U ∧ vk_R RX0 61 "]hard/[" (k.1 4) U ∧ vk_R RX0 66 "]soft" (k.1 5) U
  ∧ vk_R RX3 43 "hard/" (k.1 0) U ∧ vk_R RX3 51 "medium/" (k.1 1) U ∧ vk_R RX3 49 "soft" (k.1 2) U ∧ vk_R RX3 57 "]hard/[" (k.1 4) U ∧ vk_R RX3 59 "]soft" (k.1 5) U
def KS (k : SK) (A : Nat → Prop) (U : State) (H : Heap) : Prop := vk_S 6 sLen sByt k.1 k.2 A U H ∧ va_Z "java/lang/String" "COMPACT_STRINGS" "Z" (.int 1) A U H ∧ va_Zq "jdk/internal/util/Preconditions" "SIOOBE_FORMATTER" "Ljava/util/function/BiFunction;" A U H ∧ kR k U
theorem kR.same {k : SK} {u U : State} (hv : U.vm = u.vm) (h : kR k u) : kR k U := by
  obtain ⟨a, b, c, d, e, f, g, i, j, m, n⟩ := h
  exact ⟨a.same hv, b.same hv, c.same hv, d.same hv, e.same hv, f.same hv, g.same hv, i.same hv, j.same hv, m.same hv, n.same hv⟩
theorem kR.warm {k : SK} {u U : State} (hW : u.WarmedH U.vm) (h : kR k u) : kR k U := by
  obtain ⟨a, b, c, d, e, f, g, i, j, m, n⟩ := h
  exact ⟨a.warm hW, b.warm hW, c.warm hW, d.warm hW, e.warm hW, f.warm hW, g.warm hW, i.warm hW, j.warm hW, m.warm hW, n.warm hW⟩
/-- seen from a callee's start -/
theorem KS.call {k : SK} {A B : Nat → Prop} {s U : State} {H : Heap} {locs : List Loc} (h : KS k A s s.heap) (hS : va_S A s.heap H locs) (hB : ∀ q, B q → A q) (hU : U.heap = H) (hW : s.WarmedH U.vm) : KS k B U U.heap := by
  obtain ⟨a, b, c, d⟩ := h
  rw [hU]
  exact ⟨((a.kept hS.2.1).narrow hB).moved hW.alike, ((b.kept hS.2.1).narrow hB).moved hW.alike, ((c.kept hS.2.1).narrow hB).moved hW.alike, d.warm hW⟩
theorem KS.calling {k : SK} {A : Nat → Prop} {U : State} {g : JFrame} {mk : MethodId} {a : Array Value} (h : KS k A U U.heap) : KS k A (U.calling g mk a) (U.calling g mk a).heap := by
  obtain ⟨h1, h2, h3, h4⟩ := h
  exact ⟨vk_S.moved (u := U) (Vm.Alike.refl U.vm) h1, va_Z.moved (u := U) (Vm.Alike.refl U.vm) h2, va_Zq.moved (u := U) (Vm.Alike.refl U.vm) h3, h4.same rfl⟩
def Wk (G : GT) (k : SK) (S : PS) (sz : Nat) (U : State) : Prop := Wa G S sz U ∧ KS k (va_A (wl G S) sz) U U.heap
def CkI (l : Launch) (G : GT) (k : SK) (y : MethodName) (ws : List Cond) (rm : Room) (as : List Value) (S : PS) (post : Int32 → PS → Prop) : Prop :=
  ∀ sz : Nat, Met l y ws rm (va_Pc as (Wk G k S sz)) (va_Qi post (Wb G (va_A (wl G S) sz)) (va_A (wl G S) sz)) 0 0 (va_A (wl G S) sz)
def CkV (l : Launch) (G : GT) (k : SK) (y : MethodName) (ws : List Cond) (rm : Room) (as : List Value) (S : PS) (post : PS → Prop) : Prop :=
  ∀ sz : Nat, Met l y ws rm (va_Pc as (Wk G k S sz)) (va_Qv post (Wb G (va_A (wl G S) sz)) (va_A (wl G S) sz)) 0 0 (va_A (wl G S) sz)
section KL
variable {l : Launch} {G : GT} {k : SK} {y : MethodName} {ws ws' : List Cond} {f n : Nat} {as : List Value} {S : PS} {cc : ByteArray} {nL : Nat}
theorem ofCkN {post : Int32 → PS → Prop} (ty : FieldType) (own : String) (hy : plainFor y = true) (hw : ws = Cond.code y cc nL (some ty) :: ws') (hown : y.cls = own) (hlen : (lg_sl as).length ≤ nL)
    (body : ∀ (p : Program) (e : Env) (s : State) (m : MethodId) (args : Array Value) (below : List Frame) (meth : Method) (c : Code) (A : Nat → Prop) (Q : State → Prop) (ls : Array Slot), Cx p s m args meth c cc own ws nL G A → KS k A s s.heap → Wd G A s.heap S s.heap [] → lv_has ls nL (lv_args 0 as) →
      (∀ (pc : Nat) (ls : Array Slot) (v : Int32) (S' : PS) (H : Heap) (locs : List Loc), decode cc pc = .ok (.ireturn, 1) → Wd G A s.heap S' H locs → narrow ty (.int v) = .int v → post v S' → W p l e (rmK f n) s m args below meth c H locs 0 0 Q (F0 m pc ls [.int v])) →
      W p l e (rmK f n) s m args below meth c s.heap [] 0 0 Q (F0 m 0 ls [])) : CkI l G k y ws (rmK f n) as S post := by
  intro sz
  refine va_MetF (cc := cc) (maxL := nL) (ret := (some ty)) hy hw ?_
  intro p e s m args below meth c s₁ B hml hv
  obtain ⟨rfl, ⟨hsz, hP, hK, hD0⟩, hk⟩ := hv
  have hts := atoms_spec (ws := ws) B.pre
  have ho : s.vm.findClass own = some m.cls := hown ▸ findClass_of_methodNamed B.named
  subst hsz
  have hD := hD0.self (sz := s.heap.size)
  have hl := lv_entry as (n := nL) hlen
  rw [lg_entry_eq]
  refine body p e s m _ below meth c _ _ _ ⟨B.exec, B.bytes, hml, ho, hts, hK, fun q h => Or.inr h⟩ hk ⟨hP, hD, va_S.rf⟩ hl ?_
  intro pc ls v S' H locs hdg w hz h
  obtain ⟨hP, hD, hS⟩ := w
  exact W.zret B.exec B.bytes B.returns hz (fun t ht hW => ⟨⟨v, S', rfl, h, by rw [ht]; exact hP, va_K.moved hW.alike hK, hD⟩, hS.F ht⟩) hS.2.2 hdg B.notSynchronized
theorem ofCkV {post : PS → Prop} (own : String) (hy : plainFor y = true) (hw : ws = Cond.code y cc nL none :: ws') (hown : y.cls = own) (hlen : (lg_sl as).length ≤ nL)
    (body : ∀ (p : Program) (e : Env) (s : State) (m : MethodId) (args : Array Value) (below : List Frame) (meth : Method) (c : Code) (A : Nat → Prop) (Q : State → Prop) (ls : Array Slot), Cx p s m args meth c cc own ws nL G A → KS k A s s.heap → Wd G A s.heap S s.heap [] → lv_has ls nL (lv_args 0 as) →
      (∀ (pc : Nat) (ls : Array Slot) (S' : PS) (H : Heap) (locs : List Loc), decode cc pc = .ok (.return_, 1) → Wd G A s.heap S' H locs → post S' → W p l e (rmK f n) s m args below meth c H locs 0 0 Q (F0 m pc ls [])) →
      W p l e (rmK f n) s m args below meth c s.heap [] 0 0 Q (F0 m 0 ls [])) : CkV l G k y ws (rmK f n) as S post := by
  intro sz
  refine va_MetF (cc := cc) (maxL := nL) (ret := none) hy hw ?_
  intro p e s m args below meth c s₁ B hml hv
  obtain ⟨rfl, ⟨hsz, hP, hK, hD0⟩, hk⟩ := hv
  have hts := atoms_spec (ws := ws) B.pre
  have ho : s.vm.findClass own = some m.cls := hown ▸ findClass_of_methodNamed B.named
  subst hsz
  have hD := hD0.self (sz := s.heap.size)
  have hl := lv_entry as (n := nL) hlen
  rw [lg_entry_eq]
  refine body p e s m _ below meth c _ _ _ ⟨B.exec, B.bytes, hml, ho, hts, hK, fun q h => Or.inr h⟩ hk ⟨hP, hD, va_S.rf⟩ hl ?_
  intro pc ls S' H locs hdg w h
  obtain ⟨hP, hD, hS⟩ := w
  exact W.vret B.exec B.bytes B.returns (fun t ht hW => ⟨⟨S', rfl, h, by rw [ht]; exact hP, va_K.moved hW.alike hK, hD⟩, hS.F ht⟩) hS.2.2 hdg B.notSynchronized
theorem Wk_blind {sz : Nat} : FrameBlind (va_Pc as (Wk G k S sz)) := fun a U g mk q => by
  obtain ⟨q0, ⟨q1, qP, qK, qD⟩, qk⟩ := q
  exact ⟨q0, ⟨q1, qP, va_K.moved (u := U) (U := U.calling g mk a) (Vm.Alike.refl U.vm) qK, qD⟩, qk.calling⟩
theorem Wk_pre {A : Nat → Prop} {s : State} {H : Heap} {locs : List Loc} (hK : va_K (gD G) vwCl (gT G) s) (hA : ∀ q : Nat, s.heap.size ≤ q → A q) (hk : KS k A s s.heap) (w : Wd G A s.heap S H locs) : ∀ U : State, U.heap = H → s.WarmedH U.vm → va_Pc as (Wk G k S H.size) as.toArray U :=
  fun U hU hW => ⟨rfl, ⟨by rw [hU], by rw [hU]; exact w.1, va_K.moved hW.alike hK, w.2.1.weaken (fun _ _ _ _ => trivial)⟩, hk.call w.2.2 (w.free hA) hU hW⟩
end KL
section KC
variable {p : Program} {l : Launch} {e : Env} {R : Room} {s : State} {m : MethodId} {args : Array Value} {below : List Frame} {meth : Method} {c : Code} {H : Heap} {locs : List Loc} {cells slots : Nat} {Q : State → Prop}
variable {cc : ByteArray} {own : String} {Ts : List Cond} {nL : Nat} {G : GT} {k : SK} {A : Nat → Prop} {S : PS} {pc : Nat} {ls : Array Slot} {rest st : List Value} {lv : List (Nat × Value)}
variable {c0 r index n f fn : Nat} {Cn : String} {T : u_T} {N maxL : Nat} {y : MethodName} {bytes : ByteArray} {ret' : Option FieldType} {ws ws' : List Cond} {As : List Value}
/-- a call on a thing of the pool -/
theorem kvI {post : Int32 → PS → Prop} (C : Cx p s m args meth c cc own Ts nL G A) (hk : KS k A s s.heap) (w : Wd G A s.heap S H locs) (hl : lv_has ls nL lv) (hdg : decode cc pc = .ok (.invokevirtual index, 3)) (hM : CkI l G k y ws (rmK f fn) (.ref (gA G c0 r) :: As) S post) (hT : GoodIn Ts (wsV own index Cn y ws)) (hw : ws = Cond.code y bytes maxL ret' :: ws')
    (hd : y.cls = Cn ∧ y.cls ≠ "java/lang/invoke/MethodHandle" ∧ y.cls ≠ "java/lang/invoke/VarHandle" ∧ (parseMethodDescriptor y.desc).map (fun d => d.parameters.length) = some n) (hn : As.length = n) (hst : st = As.reverse ++ .ref (gA G c0 r) :: rest) (hrest : (rest.map fun v => v.category).sum ≤ 8)
    (hR : f + 1 ≤ R.frames ∧ 8 + (maxL + 11) + fn ≤ R.locals) (hc7 : c0 < 7) (hc : vwCl[c0]? = some (Cn, T, N)) (hP : (c0, r) ∈ gP G)
    (kk : ∀ (v : Int32) (S' : PS) (H1 : Heap) (locs1 : List Loc), post v S' → Wd G A s.heap S' H1 locs1 → W p l e R s m args below meth c H1 locs1 cells slots Q (F0 m (pc + 3) ls (.int v :: rest))) (hf : cells ≤ R.cells ∧ slots ≤ R.slots := by exact ⟨Nat.zero_le _, Nat.zero_le _⟩) : W p l e R s m args below meth c H locs cells slots Q (F0 m pc ls st) := by
  obtain ⟨q, hq⟩ := wl_get S hP
  rw [en_obj hc7] at hq
  subst hst
  have hA := C.2.2.2.2.2.2
  refine va_calli (va_runV (As := As) (rest := rest) ⟨C.1, C.2.1, C.2.2.1, C.2.2.2.1, C.2.2.2.2.1⟩ (hM H.size) (cwV n C.2.2.2.2.1 hT hw rfl rfl hd hR) ⟨Wk_blind, va_recv C.2.2.2.2.2.1 w.1 hc hq, Wk_pre C.2.2.2.2.2.1 hA hk w⟩ rfl hn hl.1 rfl (lv_room hrest) hdg hf) w.2.2 (fun q _ h => w.free hA q h) (w.free hA) (fun v u t H1 locs1 ht hvm hp hB hz1 hk1 hS => kk v u H1 locs1 hp (Wb_wd w hA ht hB hS))
theorem kvV {post : PS → Prop} (C : Cx p s m args meth c cc own Ts nL G A) (hk : KS k A s s.heap) (w : Wd G A s.heap S H locs) (hl : lv_has ls nL lv) (hdg : decode cc pc = .ok (.invokevirtual index, 3)) (hM : CkV l G k y ws (rmK f fn) (.ref (gA G c0 r) :: As) S post) (hT : GoodIn Ts (wsV own index Cn y ws)) (hw : ws = Cond.code y bytes maxL ret' :: ws')
    (hd : y.cls = Cn ∧ y.cls ≠ "java/lang/invoke/MethodHandle" ∧ y.cls ≠ "java/lang/invoke/VarHandle" ∧ (parseMethodDescriptor y.desc).map (fun d => d.parameters.length) = some n) (hn : As.length = n) (hst : st = As.reverse ++ .ref (gA G c0 r) :: rest) (hrest : (rest.map fun v => v.category).sum ≤ 8)
    (hR : f + 1 ≤ R.frames ∧ 8 + (maxL + 11) + fn ≤ R.locals) (hc7 : c0 < 7) (hc : vwCl[c0]? = some (Cn, T, N)) (hP : (c0, r) ∈ gP G)
    (kk : ∀ (S' : PS) (H1 : Heap) (locs1 : List Loc), post S' → Wd G A s.heap S' H1 locs1 → W p l e R s m args below meth c H1 locs1 cells slots Q (F0 m (pc + 3) ls rest)) (hf : cells ≤ R.cells ∧ slots ≤ R.slots := by exact ⟨Nat.zero_le _, Nat.zero_le _⟩) : W p l e R s m args below meth c H locs cells slots Q (F0 m pc ls st) := by
  obtain ⟨q, hq⟩ := wl_get S hP
  rw [en_obj hc7] at hq
  subst hst
  have hA := C.2.2.2.2.2.2
  refine va_callv (va_runV (As := As) (rest := rest) ⟨C.1, C.2.1, C.2.2.1, C.2.2.2.1, C.2.2.2.2.1⟩ (hM H.size) (cwV n C.2.2.2.2.1 hT hw rfl rfl hd hR) ⟨Wk_blind, va_recv C.2.2.2.2.2.1 w.1 hc hq, Wk_pre C.2.2.2.2.2.1 hA hk w⟩ rfl hn hl.1 rfl (lv_room hrest) hdg hf) w.2.2 (fun q _ h => w.free hA q h) (w.free hA) (fun u t H1 locs1 ht hvm hp hB hz1 hk1 hS => kk u H1 locs1 hp (Wb_wd w hA ht hB hS))
/-- a call on a String constant -/
theorem ktI {post : Int32 → PS → Prop} {i : Nat} (hi : i < 6) (C : Cx p s m args meth c cc own Ts nL G A) (hk : KS k A s s.heap) (w : Wd G A s.heap S H locs) (hl : lv_has ls nL lv) (hdg : decode cc pc = .ok (.invokevirtual index, 3)) (hM : CkI l G k y ws (rmK f fn) (.ref (k.1 i) :: As) S post) (hT : GoodIn Ts (wsV own index RJ0 y ws)) (hw : ws = Cond.code y bytes maxL ret' :: ws')
    (hd : y.cls = RJ0 ∧ y.cls ≠ "java/lang/invoke/MethodHandle" ∧ y.cls ≠ "java/lang/invoke/VarHandle" ∧ (parseMethodDescriptor y.desc).map (fun d => d.parameters.length) = some n) (hn : As.length = n) (hst : st = As.reverse ++ .ref (k.1 i) :: rest) (hrest : (rest.map fun v => v.category).sum ≤ 8)
    (hR : f + 1 ≤ R.frames ∧ 8 + (maxL + 11) + fn ≤ R.locals)
    (kk : ∀ (v : Int32) (S' : PS) (H1 : Heap) (locs1 : List Loc), post v S' → Wd G A s.heap S' H1 locs1 → W p l e R s m args below meth c H1 locs1 cells slots Q (F0 m (pc + 3) ls (.int v :: rest))) (hf : cells ≤ R.cells ∧ slots ≤ R.slots := by exact ⟨Nat.zero_le _, Nat.zero_le _⟩) : W p l e R s m args below meth c H locs cells slots Q (F0 m pc ls st) := by
  subst hst
  have hA := C.2.2.2.2.2.2
  refine va_calli (va_runV (C := RJ0) (As := As) (rest := rest) ⟨C.1, C.2.1, C.2.2.1, C.2.2.2.1, C.2.2.2.2.1⟩ (hM H.size) (cwV n C.2.2.2.2.1 hT hw rfl rfl hd hR) ⟨Wk_blind, vk_recv hk.1 hi w.2.2, Wk_pre C.2.2.2.2.2.1 hA hk w⟩ rfl hn hl.1 rfl (lv_room hrest) hdg hf) w.2.2 (fun q _ h => w.free hA q h) (w.free hA) (fun v u t H1 locs1 ht hvm hp hB hz1 hk1 hS => kk v u H1 locs1 hp (Wb_wd w hA ht hB hS))
/-- a static call -/
theorem ksI {post : Int32 → PS → Prop} (C : Cx p s m args meth c cc own Ts nL G A) (hk : KS k A s s.heap) (w : Wd G A s.heap S H locs) (hl : lv_has ls nL lv) (hdg : decode cc pc = .ok (.invokestatic index, 3)) (hM : CkI l G k y ws (rmK f fn) As S post) (hT : GoodIn Ts (va_wsS own index y ws)) (hw : ws = Cond.code y bytes maxL ret' :: ws')
    (hd : y.cls ≠ "java/lang/invoke/MethodHandle" ∧ y.cls ≠ "java/lang/invoke/VarHandle" ∧ (parseMethodDescriptor y.desc).map (fun d => d.parameters.length) = some n) (hn : As.length = n) (hst : st = As.reverse ++ rest) (hrest : (rest.map fun v => v.category).sum ≤ 8)
    (hR : f + 1 ≤ R.frames ∧ 8 + (maxL + 11) + fn ≤ R.locals)
    (kk : ∀ (v : Int32) (S' : PS) (H1 : Heap) (locs1 : List Loc), post v S' → Wd G A s.heap S' H1 locs1 → W p l e R s m args below meth c H1 locs1 cells slots Q (F0 m (pc + 3) ls (.int v :: rest))) (hf : cells ≤ R.cells ∧ slots ≤ R.slots := by exact ⟨Nat.zero_le _, Nat.zero_le _⟩) : W p l e R s m args below meth c H locs cells slots Q (F0 m pc ls st) := by
  subst hst
  have hA := C.2.2.2.2.2.2
  refine va_calli (va_runS (As := As) (rest := rest) ⟨C.1, C.2.1, C.2.2.1, C.2.2.2.1, C.2.2.2.2.1⟩ (hM H.size) (va_cwS n C.2.2.2.2.1 hT hw rfl rfl hd hR) ⟨Wk_blind, Wk_pre C.2.2.2.2.2.1 hA hk w⟩ rfl hn hl.1 rfl (lv_room hrest) hdg hf) w.2.2 (fun q _ h => w.free hA q h) (w.free hA) (fun v u t H1 locs1 ht hvm hp hB hz1 hk1 hS => kk v u H1 locs1 hp (Wb_wd w hA ht hB hS))
theorem ksV {post : PS → Prop} (C : Cx p s m args meth c cc own Ts nL G A) (hk : KS k A s s.heap) (w : Wd G A s.heap S H locs) (hl : lv_has ls nL lv) (hdg : decode cc pc = .ok (.invokestatic index, 3)) (hM : CkV l G k y ws (rmK f fn) As S post) (hT : GoodIn Ts (va_wsS own index y ws)) (hw : ws = Cond.code y bytes maxL ret' :: ws')
    (hd : y.cls ≠ "java/lang/invoke/MethodHandle" ∧ y.cls ≠ "java/lang/invoke/VarHandle" ∧ (parseMethodDescriptor y.desc).map (fun d => d.parameters.length) = some n) (hn : As.length = n) (hst : st = As.reverse ++ rest) (hrest : (rest.map fun v => v.category).sum ≤ 8)
    (hR : f + 1 ≤ R.frames ∧ 8 + (maxL + 11) + fn ≤ R.locals)
    (kk : ∀ (S' : PS) (H1 : Heap) (locs1 : List Loc), post S' → Wd G A s.heap S' H1 locs1 → W p l e R s m args below meth c H1 locs1 cells slots Q (F0 m (pc + 3) ls rest)) (hf : cells ≤ R.cells ∧ slots ≤ R.slots := by exact ⟨Nat.zero_le _, Nat.zero_le _⟩) : W p l e R s m args below meth c H locs cells slots Q (F0 m pc ls st) := by
  subst hst
  have hA := C.2.2.2.2.2.2
  refine va_callv (va_runS (As := As) (rest := rest) ⟨C.1, C.2.1, C.2.2.1, C.2.2.2.1, C.2.2.2.2.1⟩ (hM H.size) (va_cwS n C.2.2.2.2.1 hT hw rfl rfl hd hR) ⟨Wk_blind, Wk_pre C.2.2.2.2.2.1 hA hk w⟩ rfl hn hl.1 rfl (lv_room hrest) hdg hf) w.2.2 (fun q _ h => w.free hA q h) (w.free hA) (fun u t H1 locs1 ht hvm hp hB hz1 hk1 hS => kk u H1 locs1 hp (Wb_wd w hA ht hB hS))
end KC
