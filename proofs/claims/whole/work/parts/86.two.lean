/-! Two pools in one heap: a call on one leaves the other. -/
def dj (G G' : GT) : Prop := ∀ x ∈ gP G, ∀ y ∈ gP G', gA G x.1 x.2 ≠ gA G' y.1 y.2
theorem dj.sy {G G' : GT} (h : dj G G') : dj G' G := fun y hy x hx e => h x hx y hy e.symm
theorem wl_in {G : GT} {S : PS} {k : Nat} {q : Nat × va_E} (h : (wl G S)[k]? = some q) : ∃ x ∈ gP G, q.1 = gA G x.1 x.2 := by
  rw [wl, List.getElem?_map] at h
  cases hx : (gP G)[k]? with
  | none => rw [hx] at h; cases h
  | some x => rw [hx] at h; cases h; exact ⟨x, List.mem_of_getElem? hx, rfl⟩
/-- the other pool, behind a call on this one -/
theorem Wd_other {G G' : GT} {A : Nat → Prop} {S T : PS} {H0 H H1 : Heap} {locs locs1 : List Loc} (u : Wd G' A H0 T H locs) (hd : dj G G') (hk : ∀ q : Nat, q < H.size → ¬ va_A (wl G S) H.size q → H1[q]? = H[q]?) (hS : va_S A H0 H1 locs1) : Wd G' A H0 T H1 locs1 :=
  ⟨u.1.kept (fun k q hq => hk q.1 (u.1 k q hq).lt (fun z => by
    rcases z with ⟨j, e, hj⟩ | z
    · obtain ⟨x, hx, ex⟩ := wl_in hj
      obtain ⟨y, hy, ey⟩ := wl_in hq
      have ex : q.1 = gA G x.1 x.2 := ex
      exact hd x hx y hy (ex.symm.trans ey)
    · exact absurd (u.1 k q hq).lt (Nat.not_lt.mpr z))), u.2.1, hS⟩
section TW
variable {p : Program} {l : Launch} {e : Env} {R : Room} {s : State} {m : MethodId} {args : Array Value} {below : List Frame} {meth : Method} {c : Code} {H : Heap} {locs : List Loc} {cells slots : Nat} {Q : State → Prop}
variable {cc : ByteArray} {own : String} {Ts : List Cond} {nL : Nat} {G G' : GT} {A : Nat → Prop} {S T : PS} {pc : Nat} {ls : Array Slot} {rest st : List Value} {lv : List (Nat × Value)}
variable {c0 r index n f fn : Nat} {Cn : String} {TT : u_T} {N maxL : Nat} {y : MethodName} {bytes : ByteArray} {ret' : Option FieldType} {ws ws' : List Cond} {As : List Value} {k : SK}
theorem c2I {post : Int32 → PS → Prop} (C : Cx p s m args meth c cc own Ts nL G A) (w : Wd G A s.heap S H locs) (u : Wd G' A s.heap T H locs) (hdj : dj G G') (hl : lv_has ls nL lv) (hdg : decode cc pc = .ok (.invokevirtual index, 3)) (hM : CtI l G y ws (rmK f fn) (.ref (gA G c0 r) :: As) S post) (hT : GoodIn Ts (wsV own index Cn y ws)) (hw : ws = Cond.code y bytes maxL ret' :: ws')
    (hd : y.cls = Cn ∧ y.cls ≠ "java/lang/invoke/MethodHandle" ∧ y.cls ≠ "java/lang/invoke/VarHandle" ∧ (parseMethodDescriptor y.desc).map (fun d => d.parameters.length) = some n) (hn : As.length = n) (hst : st = As.reverse ++ .ref (gA G c0 r) :: rest) (hrest : (rest.map fun v => v.category).sum ≤ 8)
    (hR : f + 1 ≤ R.frames ∧ 8 + (maxL + 11) + fn ≤ R.locals) (hc7 : c0 < 7) (hc : vwCl[c0]? = some (Cn, TT, N)) (hP : (c0, r) ∈ gP G) (hf : cells ≤ R.cells ∧ slots ≤ R.slots)
    (kk : ∀ (v : Int32) (S' : PS) (H1 : Heap) (locs1 : List Loc), post v S' → Wd G A s.heap S' H1 locs1 → Wd G' A s.heap T H1 locs1 → W p l e R s m args below meth c H1 locs1 cells slots Q (F0 m (pc + 3) ls (.int v :: rest))) : W p l e R s m args below meth c H locs cells slots Q (F0 m pc ls st) := by
  obtain ⟨q, hq⟩ := wl_get S hP
  rw [en_obj hc7] at hq
  subst hst
  have hA := C.2.2.2.2.2.2
  refine va_calli (va_runV (As := As) (rest := rest) ⟨C.1, C.2.1, C.2.2.1, C.2.2.2.1, C.2.2.2.2.1⟩ (hM H.size) (cwV n C.2.2.2.2.1 hT hw rfl rfl hd hR) ⟨Wa_blind, va_recv C.2.2.2.2.2.1 w.1 hc hq, Wa_pre C.2.2.2.2.2.1 w⟩ rfl hn hl.1 rfl (lv_room hrest) hdg hf) w.2.2 (fun q _ h => w.free hA q h) (w.free hA) (fun v u9 t H1 locs1 ht hvm hp hB hz1 hk1 hS => kk v u9 H1 locs1 hp (Wb_wd w hA ht hB hS) (Wd_other u hdj hk1 hS))
theorem c2L {post : Int64 → PS → Prop} (C : Cx p s m args meth c cc own Ts nL G A) (w : Wd G A s.heap S H locs) (u : Wd G' A s.heap T H locs) (hdj : dj G G') (hl : lv_has ls nL lv) (hdg : decode cc pc = .ok (.invokevirtual index, 3)) (hM : CtL l G y ws (rmK f fn) (.ref (gA G c0 r) :: As) S post) (hT : GoodIn Ts (wsV own index Cn y ws)) (hw : ws = Cond.code y bytes maxL ret' :: ws')
    (hd : y.cls = Cn ∧ y.cls ≠ "java/lang/invoke/MethodHandle" ∧ y.cls ≠ "java/lang/invoke/VarHandle" ∧ (parseMethodDescriptor y.desc).map (fun d => d.parameters.length) = some n) (hn : As.length = n) (hst : st = As.reverse ++ .ref (gA G c0 r) :: rest) (hrest : (rest.map fun v => v.category).sum ≤ 8)
    (hR : f + 1 ≤ R.frames ∧ 8 + (maxL + 11) + fn ≤ R.locals) (hc7 : c0 < 7) (hc : vwCl[c0]? = some (Cn, TT, N)) (hP : (c0, r) ∈ gP G) (hf : cells ≤ R.cells ∧ slots ≤ R.slots)
    (kk : ∀ (v : Int64) (S' : PS) (H1 : Heap) (locs1 : List Loc), post v S' → Wd G A s.heap S' H1 locs1 → Wd G' A s.heap T H1 locs1 → W p l e R s m args below meth c H1 locs1 cells slots Q (F0 m (pc + 3) ls (.long v :: rest))) : W p l e R s m args below meth c H locs cells slots Q (F0 m pc ls st) := by
  obtain ⟨q, hq⟩ := wl_get S hP
  rw [en_obj hc7] at hq
  subst hst
  have hA := C.2.2.2.2.2.2
  refine va_calll (va_runV (As := As) (rest := rest) ⟨C.1, C.2.1, C.2.2.1, C.2.2.2.1, C.2.2.2.2.1⟩ (hM H.size) (cwV n C.2.2.2.2.1 hT hw rfl rfl hd hR) ⟨Wa_blind, va_recv C.2.2.2.2.2.1 w.1 hc hq, Wa_pre C.2.2.2.2.2.1 w⟩ rfl hn hl.1 rfl (lv_room hrest) hdg hf) w.2.2 (fun q _ h => w.free hA q h) (w.free hA) (fun v u9 t H1 locs1 ht hvm hp hB hz1 hk1 hS => kk v u9 H1 locs1 hp (Wb_wd w hA ht hB hS) (Wd_other u hdj hk1 hS))
theorem c2K {post : Int32 → PS → Prop} (C : Cx p s m args meth c cc own Ts nL G A) (hk : KS k A s s.heap) (w : Wd G A s.heap S H locs) (u : Wd G' A s.heap T H locs) (hdj : dj G G') (hl : lv_has ls nL lv) (hdg : decode cc pc = .ok (.invokevirtual index, 3)) (hM : CkI l G k y ws (rmK f fn) (.ref (gA G c0 r) :: As) S post) (hT : GoodIn Ts (wsV own index Cn y ws)) (hw : ws = Cond.code y bytes maxL ret' :: ws')
    (hd : y.cls = Cn ∧ y.cls ≠ "java/lang/invoke/MethodHandle" ∧ y.cls ≠ "java/lang/invoke/VarHandle" ∧ (parseMethodDescriptor y.desc).map (fun d => d.parameters.length) = some n) (hn : As.length = n) (hst : st = As.reverse ++ .ref (gA G c0 r) :: rest) (hrest : (rest.map fun v => v.category).sum ≤ 8)
    (hR : f + 1 ≤ R.frames ∧ 8 + (maxL + 11) + fn ≤ R.locals) (hc7 : c0 < 7) (hc : vwCl[c0]? = some (Cn, TT, N)) (hP : (c0, r) ∈ gP G) (hf : cells ≤ R.cells ∧ slots ≤ R.slots)
    (kk : ∀ (v : Int32) (S' : PS) (H1 : Heap) (locs1 : List Loc), post v S' → Wd G A s.heap S' H1 locs1 → Wd G' A s.heap T H1 locs1 → W p l e R s m args below meth c H1 locs1 cells slots Q (F0 m (pc + 3) ls (.int v :: rest))) : W p l e R s m args below meth c H locs cells slots Q (F0 m pc ls st) := by
  obtain ⟨q, hq⟩ := wl_get S hP
  rw [en_obj hc7] at hq
  subst hst
  have hA := C.2.2.2.2.2.2
  refine va_calli (va_runV (As := As) (rest := rest) ⟨C.1, C.2.1, C.2.2.1, C.2.2.2.1, C.2.2.2.2.1⟩ (hM H.size) (cwV n C.2.2.2.2.1 hT hw rfl rfl hd hR) ⟨Wk_blind, va_recv C.2.2.2.2.2.1 w.1 hc hq, Wk_pre C.2.2.2.2.2.1 hA hk w⟩ rfl hn hl.1 rfl (lv_room hrest) hdg hf) w.2.2 (fun q _ h => w.free hA q h) (w.free hA) (fun v u9 t H1 locs1 ht hvm hp hB hz1 hk1 hS => kk v u9 H1 locs1 hp (Wb_wd w hA ht hB hS) (Wd_other u hdj hk1 hS))
end TW
/-- what stands all along in the law -/
def LX (p : Program) (l : Launch) (s : State) (m : MethodId) (args : Array Value) (meth : Method) (c : Code) (G M : GT) (A : Nat → Prop) (b L : Nat) (xs : Nat → Int32) (k : SK) (a0 a1 a2 : Nat) : Prop :=
  Cx p s m args meth c cL_law RL wsL_law 8 G A ∧ Cx p s m args meth c cL_law RL wsL_law 8 M A ∧ (KS k A s s.heap ∧ xK a0 a1 a2 s ∧ xZ A s s.heap) ∧ (va_X b L xs s s.heap ∧ b < s.heap.size ∧ ¬ A b ∧ L ≤ 2560) ∧ (okX G ∧ okM M ∧ dj G M ∧ (9, 79) ∈ gP G ∧ gN G 9 79 = 1) ∧ l.stackTraces = false
abbrev LV (G M : GT) (b i : Nat) : List (Nat × Value) := [(0, .ref b), (1, .ref (gA G 5 0)), (2, .ref (gA M 6 0)), (3, .ref (gA G 9 79)), (4, .int (nI i))]
theorem REL.sz {S T : PS} {n nr nh z tl pl : Nat} {wr br : Nat → Nat} {sp : Nat} (h : REL S T n nr nh z tl pl wr br sp) : ∀ i, i < n → 0 ≤ (sI S 2 i 2).toInt ∧ (sI S 2 i 2).toInt ≤ 12 := fun i hi => (h.s i hi).2.1.2.1
theorem REL.szM {S T : PS} {n nr nh z tl pl : Nat} {wr br : Nat → Nat} {sp : Nat} (h : REL S T n nr nh z tl pl wr br sp) : ∀ i, i < n → 0 ≤ (sI T 8 2 i).toInt ∧ (sI T 8 2 i).toInt ≤ 12 := fun i hi => by rw [(h.s i hi).1.2.2]; exact (h.s i hi).2.1.2.1
theorem REL.hd {S T : PS} {n nr nh z tl pl : Nat} {wr br : Nat → Nat} {sp : Nat} (h : REL S T n nr nh z tl pl wr br sp) : ∀ i, i < n → 0 ≤ (sI S 2 i 1).toInt ∧ (sI S 2 i 1).toInt ≤ 12 := fun i hi => (h.s i hi).2.1.1
theorem REL.hdM {S T : PS} {n nr nh z tl pl : Nat} {wr br : Nat → Nat} {sp : Nat} (h : REL S T n nr nh z tl pl wr br sp) : ∀ i, i < n → 0 ≤ (sI T 8 1 i).toInt ∧ (sI T 8 1 i).toInt ≤ 12 := fun i hi => by rw [(h.s i hi).1.2.1]; exact (h.s i hi).2.1.1
theorem REL.s3 {S T : PS} {n nr nh z tl pl : Nat} {wr br : Nat → Nat} {sp : Nat} (h : REL S T n nr nh z tl pl wr br sp) : ∀ i, i < n → sI S 2 i 0 = 3 → jn (sI S 2 i 1) ≤ 6 ∧ jn (sI S 2 i 1) ≤ jn (sI S 2 i 2) ∧ jn (sI S 2 i 2) - jn (sI S 2 i 1) ≤ 6 := fun i hi e => ⟨((h.s i hi).2.1.2.2.2.1 e).1, (h.s i hi).2.1.2.2.1, ((h.s i hi).2.1.2.2.2.1 e).2⟩
theorem REL.s3M {S T : PS} {n nr nh z tl pl : Nat} {wr br : Nat → Nat} {sp : Nat} (h : REL S T n nr nh z tl pl wr br sp) : ∀ i, i < n → sI T 8 0 i = 3 → jn (sI T 8 1 i) ≤ 6 ∧ jn (sI T 8 1 i) ≤ jn (sI T 8 2 i) ∧ jn (sI T 8 2 i) - jn (sI T 8 1 i) ≤ 6 := fun i hi => by rw [(h.s i hi).1.1, (h.s i hi).1.2.1, (h.s i hi).1.2.2]; exact h.s3 i hi
theorem REL.s0M {S T : PS} {n nr nh z tl pl : Nat} {wr br : Nat → Nat} {sp : Nat} (h : REL S T n nr nh z tl pl wr br sp) : ∀ i, i < n → ¬ sI T 8 0 i = -1 → 0 ≤ (sI T 8 0 i).toInt := fun i hi => by rw [(h.s i hi).1.1]; exact (h.s i hi).2.1.2.2.2.2.1
