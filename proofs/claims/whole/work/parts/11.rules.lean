/-! One row an instruction, over pools. -/
/-- what holds in a method's body all along -/
def Cx (p : Program) (s : State) (m : MethodId) (args : Array Value) (meth : Method) (c : Code) (cc : ByteArray) (own : String) (Ts : List Cond) (nL : Nat) (G : GT) (A : Nat → Prop) : Prop :=
  p.tables.exec = Jvm.exec ∧ c.code = cc ∧ c.maxLocals = nL ∧ s.vm.findClass own = some m.cls ∧ (∀ w ∈ Ts, w.before args s = true) ∧ va_K (gD G) vwCl (gT G) s ∧ (∀ q : Nat, s.heap.size ≤ q → A q)
/-- the pool in the heap -/
def Wd (G : GT) (A : Nat → Prop) (H0 : Heap) (S : PS) (H : Heap) (locs : List Loc) : Prop := va_P (gD G) vwCl (wl G S) H ∧ va_D A (wl G S) ∧ va_S A H0 H locs
/-- the pool behind a call -/
def Wb (G : GT) (A : Nat → Prop) (S' : PS) (t : State) : Prop := va_P (gD G) vwCl (wl G S') t.heap ∧ va_K (gD G) vwCl (gT G) t ∧ va_D A (wl G S')
def Wa (G : GT) (S : PS) (sz : Nat) (U : State) : Prop := U.heap.size = sz ∧ va_P (gD G) vwCl (wl G S) U.heap ∧ va_K (gD G) vwCl (gT G) U ∧ va_D (fun _ => True) (wl G S)
/-- contracts of methods that make nothing: int or boolean, long, void -/
def CtI (l : Launch) (G : GT) (y : MethodName) (ws : List Cond) (rm : Room) (as : List Value) (S : PS) (post : Int32 → PS → Prop) : Prop :=
  ∀ sz : Nat, Met l y ws rm (va_Pc as (Wa G S sz)) (va_Qi post (Wb G (va_A (wl G S) sz)) (va_A (wl G S) sz)) 0 0 (va_A (wl G S) sz)
def CtL (l : Launch) (G : GT) (y : MethodName) (ws : List Cond) (rm : Room) (as : List Value) (S : PS) (post : Int64 → PS → Prop) : Prop :=
  ∀ sz : Nat, Met l y ws rm (va_Pc as (Wa G S sz)) (va_Ql post (Wb G (va_A (wl G S) sz)) (va_A (wl G S) sz)) 0 0 (va_A (wl G S) sz)
def CtV (l : Launch) (G : GT) (y : MethodName) (ws : List Cond) (rm : Room) (as : List Value) (S : PS) (post : PS → Prop) : Prop :=
  ∀ sz : Nat, Met l y ws rm (va_Pc as (Wa G S sz)) (va_Qv post (Wb G (va_A (wl G S) sz)) (va_A (wl G S) sz)) 0 0 (va_A (wl G S) sz)
/-- a method's room: frames below its own, words of their locals -/
def rmK (f n : Nat) : Room := { frames := f, cells := 0, slots := 0, locals := n }
section RL
variable {l : Launch} {G : GT} {y : MethodName} {ws ws' : List Cond} {f n : Nat} {as : List Value} {S : PS} {cc : ByteArray} {nL : Nat} {ret : Option FieldType}
theorem ofCtI {post : Int32 → PS → Prop} (own : String) (hy : plainFor y = true) (hw : ws = Cond.code y cc nL (some .int) :: ws') (hown : y.cls = own) (hlen : (lg_sl as).length ≤ nL)
    (body : ∀ (p : Program) (e : Env) (s : State) (m : MethodId) (args : Array Value) (below : List Frame) (meth : Method) (c : Code) (A : Nat → Prop) (Q : State → Prop) (ls : Array Slot), Cx p s m args meth c cc own ws nL G A → Wd G A s.heap S s.heap [] → lv_has ls nL (lv_args 0 as) →
      (∀ (pc : Nat) (ls : Array Slot) (v : Int32) (S' : PS) (H : Heap) (locs : List Loc), decode cc pc = .ok (.ireturn, 1) → Wd G A s.heap S' H locs → post v S' → W p l e (rmK f n) s m args below meth c H locs 0 0 Q (F0 m pc ls [.int v])) →
      W p l e (rmK f n) s m args below meth c s.heap [] 0 0 Q (F0 m 0 ls [])) : CtI l G y ws (rmK f n) as S post := by
  intro sz
  refine va_MetF (cc := cc) (maxL := nL) (ret := (some .int)) hy hw ?_
  intro p e s m args below meth c s₁ B hml hv
  obtain ⟨rfl, hsz, hP, hK, hD0⟩ := hv
  have hts := atoms_spec (ws := ws) B.pre
  have ho : s.vm.findClass own = some m.cls := hown ▸ findClass_of_methodNamed B.named
  subst hsz
  have hD := hD0.self (sz := s.heap.size)
  have hl := lv_entry as (n := nL) hlen
  rw [lg_entry_eq]
  refine body p e s m _ below meth c _ _ _ ⟨B.exec, B.bytes, hml, ho, hts, hK, fun q h => Or.inr h⟩ ⟨hP, hD, va_S.rf⟩ hl ?_
  intro pc ls v S' H locs hdg w h
  obtain ⟨hP, hD, hS⟩ := w
  exact W.iret B.exec B.bytes B.returns (fun t ht hW => ⟨⟨v, S', rfl, h, by rw [ht]; exact hP, va_K.moved hW.alike hK, hD⟩, hS.F ht⟩) hS.2.2 hdg B.notSynchronized
theorem ofCtZ {post : Int32 → PS → Prop} (own : String) (hy : plainFor y = true) (hw : ws = Cond.code y cc nL (some .boolean) :: ws') (hown : y.cls = own) (hlen : (lg_sl as).length ≤ nL)
    (body : ∀ (p : Program) (e : Env) (s : State) (m : MethodId) (args : Array Value) (below : List Frame) (meth : Method) (c : Code) (A : Nat → Prop) (Q : State → Prop) (ls : Array Slot), Cx p s m args meth c cc own ws nL G A → Wd G A s.heap S s.heap [] → lv_has ls nL (lv_args 0 as) →
      (∀ (pc : Nat) (ls : Array Slot) (v : Int32) (S' : PS) (H : Heap) (locs : List Loc), decode cc pc = .ok (.ireturn, 1) → Wd G A s.heap S' H locs → (v = 0 ∨ v = 1) → post v S' → W p l e (rmK f n) s m args below meth c H locs 0 0 Q (F0 m pc ls [.int v])) →
      W p l e (rmK f n) s m args below meth c s.heap [] 0 0 Q (F0 m 0 ls [])) : CtI l G y ws (rmK f n) as S post := by
  intro sz
  refine va_MetF (cc := cc) (maxL := nL) (ret := (some .boolean)) hy hw ?_
  intro p e s m args below meth c s₁ B hml hv
  obtain ⟨rfl, hsz, hP, hK, hD0⟩ := hv
  have hts := atoms_spec (ws := ws) B.pre
  have ho : s.vm.findClass own = some m.cls := hown ▸ findClass_of_methodNamed B.named
  subst hsz
  have hD := hD0.self (sz := s.heap.size)
  have hl := lv_entry as (n := nL) hlen
  rw [lg_entry_eq]
  refine body p e s m _ below meth c _ _ _ ⟨B.exec, B.bytes, hml, ho, hts, hK, fun q h => Or.inr h⟩ ⟨hP, hD, va_S.rf⟩ hl ?_
  intro pc ls v S' H locs hdg w hz h
  obtain ⟨hP, hD, hS⟩ := w
  exact W.zret B.exec B.bytes B.returns (by rcases hz with rfl | rfl <;> decide) (fun t ht hW => ⟨⟨v, S', rfl, h, by rw [ht]; exact hP, va_K.moved hW.alike hK, hD⟩, hS.F ht⟩) hS.2.2 hdg B.notSynchronized
theorem ofCtL {post : Int64 → PS → Prop} (own : String) (hy : plainFor y = true) (hw : ws = Cond.code y cc nL (some .long) :: ws') (hown : y.cls = own) (hlen : (lg_sl as).length ≤ nL)
    (body : ∀ (p : Program) (e : Env) (s : State) (m : MethodId) (args : Array Value) (below : List Frame) (meth : Method) (c : Code) (A : Nat → Prop) (Q : State → Prop) (ls : Array Slot), Cx p s m args meth c cc own ws nL G A → Wd G A s.heap S s.heap [] → lv_has ls nL (lv_args 0 as) →
      (∀ (pc : Nat) (ls : Array Slot) (v : Int64) (S' : PS) (H : Heap) (locs : List Loc), decode cc pc = .ok (.lreturn, 1) → Wd G A s.heap S' H locs → post v S' → W p l e (rmK f n) s m args below meth c H locs 0 0 Q (F0 m pc ls [.long v])) →
      W p l e (rmK f n) s m args below meth c s.heap [] 0 0 Q (F0 m 0 ls [])) : CtL l G y ws (rmK f n) as S post := by
  intro sz
  refine va_MetF (cc := cc) (maxL := nL) (ret := (some .long)) hy hw ?_
  intro p e s m args below meth c s₁ B hml hv
  obtain ⟨rfl, hsz, hP, hK, hD0⟩ := hv
  have hts := atoms_spec (ws := ws) B.pre
  have ho : s.vm.findClass own = some m.cls := hown ▸ findClass_of_methodNamed B.named
  subst hsz
  have hD := hD0.self (sz := s.heap.size)
  have hl := lv_entry as (n := nL) hlen
  rw [lg_entry_eq]
  refine body p e s m _ below meth c _ _ _ ⟨B.exec, B.bytes, hml, ho, hts, hK, fun q h => Or.inr h⟩ ⟨hP, hD, va_S.rf⟩ hl ?_
  intro pc ls v S' H locs hdg w h
  obtain ⟨hP, hD, hS⟩ := w
  exact W.lret B.exec B.bytes B.returns (fun t ht hW => ⟨⟨v, S', rfl, h, by rw [ht]; exact hP, va_K.moved hW.alike hK, hD⟩, hS.F ht⟩) hS.2.2 hdg B.notSynchronized
theorem ofCtV {post : PS → Prop} (own : String) (hy : plainFor y = true) (hw : ws = Cond.code y cc nL none :: ws') (hown : y.cls = own) (hlen : (lg_sl as).length ≤ nL)
    (body : ∀ (p : Program) (e : Env) (s : State) (m : MethodId) (args : Array Value) (below : List Frame) (meth : Method) (c : Code) (A : Nat → Prop) (Q : State → Prop) (ls : Array Slot), Cx p s m args meth c cc own ws nL G A → Wd G A s.heap S s.heap [] → lv_has ls nL (lv_args 0 as) →
      (∀ (pc : Nat) (ls : Array Slot) (S' : PS) (H : Heap) (locs : List Loc), decode cc pc = .ok (.return_, 1) → Wd G A s.heap S' H locs → post S' → W p l e (rmK f n) s m args below meth c H locs 0 0 Q (F0 m pc ls [])) →
      W p l e (rmK f n) s m args below meth c s.heap [] 0 0 Q (F0 m 0 ls [])) : CtV l G y ws (rmK f n) as S post := by
  intro sz
  refine va_MetF (cc := cc) (maxL := nL) (ret := none) hy hw ?_
  intro p e s m args below meth c s₁ B hml hv
  obtain ⟨rfl, hsz, hP, hK, hD0⟩ := hv
  have hts := atoms_spec (ws := ws) B.pre
  have ho : s.vm.findClass own = some m.cls := hown ▸ findClass_of_methodNamed B.named
  subst hsz
  have hD := hD0.self (sz := s.heap.size)
  have hl := lv_entry as (n := nL) hlen
  rw [lg_entry_eq]
  refine body p e s m _ below meth c _ _ _ ⟨B.exec, B.bytes, hml, ho, hts, hK, fun q h => Or.inr h⟩ ⟨hP, hD, va_S.rf⟩ hl ?_
  intro pc ls S' H locs hdg w h
  obtain ⟨hP, hD, hS⟩ := w
  exact W.vret B.exec B.bytes B.returns (fun t ht hW => ⟨⟨S', rfl, h, by rw [ht]; exact hP, va_K.moved hW.alike hK, hD⟩, hS.F ht⟩) hS.2.2 hdg B.notSynchronized
end RL
section RW
variable {p : Program} {l : Launch} {e : Env} {R : Room} {s : State} {m : MethodId} {args : Array Value} {below : List Frame} {meth : Method} {c : Code} {H : Heap} {locs : List Loc} {cells slots : Nat} {Q : State → Prop}
variable {cc : ByteArray} {own : String} {Ts : List Cond} {nL : Nat} {G : GT} {A : Nat → Prop} {S : PS} {pc : Nat} {ls : Array Slot} {rest : List Value}
/-- reading a field -/
theorem pgI (c0 k : Nat) {r index : Nat} {Cn ref : String} {T : u_T} {N : Nat} (hc7 : c0 < 7) (hc : vwCl[c0]? = some (Cn, T, N)) (hk : k < N) (ht : (fdT c0)[k]? = some 0 ∨ (fdT c0)[k]? = some 2) (hsame : ref = (T k).1)
    (C : Cx p s m args meth c cc own Ts nL G A) (w : Wd G A s.heap S H locs) (hin : ∀ w ∈ u_ws Cn T N, w ∈ Ts) (hlink : (Cond.fieldLink own index ref (T k).2.1 (T k).2.2.1) ∈ Ts) (hdg : decode cc pc = .ok (.getfield index, 3)) (hP : (c0, r) ∈ gP G) {v : Int32} (hv : sI S c0 r k = v)
    (kk : W p l e R s m args below meth c H locs cells slots Q (F0 m (pc + 3) ls (.int v :: rest))) : W p l e R s m args below meth c H locs cells slots Q (F0 m pc ls (.ref (gA G c0 r) :: rest)) := by
  obtain ⟨hx, hb, -, hown, hts, hK, -⟩ := C
  obtain ⟨q, hq⟩ := wl_get S hP
  rw [en_obj hc7] at hq
  have hf : (fv G S c0 r)[k]? = some (.int v) := by
    rcases ht with ht | ht <;> rw [fv_get ht, ← hv] <;> rfl
  exact va_get hx hb hts hin hown hK w.1 q hq hc k hk (hts _ hlink) (fun x h => by rw [hsame]; exact h) hf hdg kk
theorem pgJ (c0 k : Nat) {r index : Nat} {Cn ref : String} {T : u_T} {N : Nat} (hc7 : c0 < 7) (hc : vwCl[c0]? = some (Cn, T, N)) (hk : k < N) (ht : (fdT c0)[k]? = some 1) (hsame : ref = (T k).1)
    (C : Cx p s m args meth c cc own Ts nL G A) (w : Wd G A s.heap S H locs) (hin : ∀ w ∈ u_ws Cn T N, w ∈ Ts) (hlink : (Cond.fieldLink own index ref (T k).2.1 (T k).2.2.1) ∈ Ts) (hdg : decode cc pc = .ok (.getfield index, 3)) (hP : (c0, r) ∈ gP G) {v : Int64} (hv : sJ S c0 r k = v)
    (kk : W p l e R s m args below meth c H locs cells slots Q (F0 m (pc + 3) ls (.long v :: rest))) : W p l e R s m args below meth c H locs cells slots Q (F0 m pc ls (.ref (gA G c0 r) :: rest)) := by
  obtain ⟨hx, hb, -, hown, hts, hK, -⟩ := C
  obtain ⟨q, hq⟩ := wl_get S hP
  rw [en_obj hc7] at hq
  have hf : (fv G S c0 r)[k]? = some (.long v) := by rw [fv_get ht, ← hv]; rfl
  exact va_get hx hb hts hin hown hK w.1 q hq hc k hk (hts _ hlink) (fun x h => by rw [hsame]; exact h) hf hdg kk
theorem pgQ (c0 k c1 : Nat) {r index : Nat} {Cn ref : String} {T : u_T} {N : Nat} (hc7 : c0 < 7) (hc : vwCl[c0]? = some (Cn, T, N)) (hk : k < N) (ht : (fdT c0)[k]? = some (c1 + 3)) (hsame : ref = (T k).1)
    (C : Cx p s m args meth c cc own Ts nL G A) (w : Wd G A s.heap S H locs) (hin : ∀ w ∈ u_ws Cn T N, w ∈ Ts) (hlink : (Cond.fieldLink own index ref (T k).2.1 (T k).2.2.1) ∈ Ts) (hdg : decode cc pc = .ok (.getfield index, 3)) (hP : (c0, r) ∈ gP G) {r1 : Nat} (hv : sQ S c0 r k = some r1)
    (kk : W p l e R s m args below meth c H locs cells slots Q (F0 m (pc + 3) ls (.ref (gA G c1 r1) :: rest))) : W p l e R s m args below meth c H locs cells slots Q (F0 m pc ls (.ref (gA G c0 r) :: rest)) := by
  obtain ⟨hx, hb, -, hown, hts, hK, -⟩ := C
  obtain ⟨q, hq⟩ := wl_get S hP
  rw [en_obj hc7] at hq
  have hf : (fv G S c0 r)[k]? = some (.ref (gA G c1 r1)) := by
    rw [fv_get ht]
    show some (va_rf ((sQ S c0 r k).map (gA G c1))) = _
    rw [hv]; rfl
  exact va_get hx hb hts hin hown hK w.1 q hq hc k hk (hts _ hlink) (fun x h => by rw [hsame]; exact h) hf hdg kk
/-- writing a field -/
theorem ppI (c0 k : Nat) {r index : Nat} {Cn ref : String} {T : u_T} {N : Nat} {ty0 : Nat → FieldType} (hc7 : c0 < 7) (hc : vwCl[c0]? = some (Cn, T, N)) (hk : k < N) (ht : (fdT c0)[k]? = some 0) (hsame : ref = (T k).1) (hty : ∀ k, k < N → parseFieldDescriptor (T k).2.2.1 = some (ty0 k)) (hnm : ∀ a, a < N → ∀ b, b < N → a ≠ b → (T a).2.1 ≠ (T b).2.1) (hfin : (T k).2.2.2 = false) (hd : parseFieldDescriptor (T k).2.2.1 = some .int)
    (C : Cx p s m args meth c cc own Ts nL G A) (w : Wd G A s.heap S H locs) (hin : ∀ w ∈ u_ws Cn T N, w ∈ Ts) (hlink : (Cond.fieldLink own index ref (T k).2.1 (T k).2.2.1) ∈ Ts) (hdg : decode cc pc = .ok (.putfield index, 3)) (hP : (c0, r) ∈ gP G) {v : Int32}
    (kk : ∀ (H1 : Heap) (locs1 : List Loc), Wd G A s.heap (uI S c0 r k v) H1 locs1 → W p l e R s m args below meth c H1 locs1 cells slots Q (F0 m (pc + 3) ls rest)) : W p l e R s m args below meth c H locs cells slots Q (F0 m pc ls (.int v :: .ref (gA G c0 r) :: rest)) := by
  obtain ⟨hx, hb, -, hown, hts, hK, -⟩ := C
  obtain ⟨q, hq⟩ := wl_get S hP
  have he : en G (uI S c0 r k v) c0 r = .inr (c0, (fv G S c0 r).set k (.int v)) := by
    rw [en_obj hc7, fv_set (S := S) ht (fun j t' hj => vl_uI hj)]
    have h9 : vl G (uI S c0 r k v) c0 r k 0 = .int v := by show Value.int _ = Value.int _; rw [sI_uI, if_pos ⟨rfl, rfl, rfl⟩]
    rw [h9]
  have hset := wl_set (S' := uI S c0 r k v) w.2.1 hP hq he (fun c' r' h => uI_far h)
  rw [en_obj hc7] at hq
  have hl : k < (fv G S c0 r).length := (List.getElem?_eq_some_iff.mp (fv_get (G := G) (S := S) (r := r) ht)).1
  refine va_put hx hb hts hin ty0 hty hnm hown hK w.1 w.2.1 w.2.2 q hq hc k hk (hts _ hlink) (fun x h => by rw [hsame]; exact h) hfin hd rfl rfl hl hdg fun H1 locs1 h1 h2 h3 => ?_
  rw [hset] at h1 h2
  exact kk H1 locs1 ⟨h1, h2, h3⟩
theorem ppZ (c0 k : Nat) {r index : Nat} {Cn ref : String} {T : u_T} {N : Nat} {ty0 : Nat → FieldType} (hc7 : c0 < 7) (hc : vwCl[c0]? = some (Cn, T, N)) (hk : k < N) (ht : (fdT c0)[k]? = some 2) (hsame : ref = (T k).1) (hty : ∀ k, k < N → parseFieldDescriptor (T k).2.2.1 = some (ty0 k)) (hnm : ∀ a, a < N → ∀ b, b < N → a ≠ b → (T a).2.1 ≠ (T b).2.1) (hfin : (T k).2.2.2 = false) (hd : parseFieldDescriptor (T k).2.2.1 = some .boolean)
    (C : Cx p s m args meth c cc own Ts nL G A) (w : Wd G A s.heap S H locs) (hin : ∀ w ∈ u_ws Cn T N, w ∈ Ts) (hlink : (Cond.fieldLink own index ref (T k).2.1 (T k).2.2.1) ∈ Ts) (hdg : decode cc pc = .ok (.putfield index, 3)) (hP : (c0, r) ∈ gP G) {v : Int32} (hv : v = 0 ∨ v = 1)
    (kk : ∀ (H1 : Heap) (locs1 : List Loc), Wd G A s.heap (uI S c0 r k v) H1 locs1 → W p l e R s m args below meth c H1 locs1 cells slots Q (F0 m (pc + 3) ls rest)) : W p l e R s m args below meth c H locs cells slots Q (F0 m pc ls (.int v :: .ref (gA G c0 r) :: rest)) := by
  obtain ⟨hx, hb, -, hown, hts, hK, -⟩ := C
  obtain ⟨q, hq⟩ := wl_get S hP
  have he : en G (uI S c0 r k v) c0 r = .inr (c0, (fv G S c0 r).set k (.int v)) := by
    rw [en_obj hc7, fv_set (S := S) ht (fun j t' hj => vl_uI hj)]
    have h9 : vl G (uI S c0 r k v) c0 r k 2 = .int v := by show Value.int _ = Value.int _; rw [sI_uI, if_pos ⟨rfl, rfl, rfl⟩]
    rw [h9]
  have hset := wl_set (S' := uI S c0 r k v) w.2.1 hP hq he (fun c' r' h => uI_far h)
  rw [en_obj hc7] at hq
  have hl : k < (fv G S c0 r).length := (List.getElem?_eq_some_iff.mp (fv_get (G := G) (S := S) (r := r) ht)).1
  refine va_put hx hb hts hin ty0 hty hnm hown hK w.1 w.2.1 w.2.2 q hq hc k hk (hts _ hlink) (fun x h => by rw [hsame]; exact h) hfin hd (by rcases hv with rfl | rfl <;> decide) (by rcases hv with rfl | rfl <;> decide) hl hdg fun H1 locs1 h1 h2 h3 => ?_
  rw [hset] at h1 h2
  exact kk H1 locs1 ⟨h1, h2, h3⟩
theorem ppJ (c0 k : Nat) {r index : Nat} {Cn ref : String} {T : u_T} {N : Nat} {ty0 : Nat → FieldType} (hc7 : c0 < 7) (hc : vwCl[c0]? = some (Cn, T, N)) (hk : k < N) (ht : (fdT c0)[k]? = some 1) (hsame : ref = (T k).1) (hty : ∀ k, k < N → parseFieldDescriptor (T k).2.2.1 = some (ty0 k)) (hnm : ∀ a, a < N → ∀ b, b < N → a ≠ b → (T a).2.1 ≠ (T b).2.1) (hfin : (T k).2.2.2 = false) (hd : parseFieldDescriptor (T k).2.2.1 = some .long)
    (C : Cx p s m args meth c cc own Ts nL G A) (w : Wd G A s.heap S H locs) (hin : ∀ w ∈ u_ws Cn T N, w ∈ Ts) (hlink : (Cond.fieldLink own index ref (T k).2.1 (T k).2.2.1) ∈ Ts) (hdg : decode cc pc = .ok (.putfield index, 3)) (hP : (c0, r) ∈ gP G) {v : Int64}
    (kk : ∀ (H1 : Heap) (locs1 : List Loc), Wd G A s.heap (uJ S c0 r k v) H1 locs1 → W p l e R s m args below meth c H1 locs1 cells slots Q (F0 m (pc + 3) ls rest)) : W p l e R s m args below meth c H locs cells slots Q (F0 m pc ls (.long v :: .ref (gA G c0 r) :: rest)) := by
  obtain ⟨hx, hb, -, hown, hts, hK, -⟩ := C
  obtain ⟨q, hq⟩ := wl_get S hP
  have he : en G (uJ S c0 r k v) c0 r = .inr (c0, (fv G S c0 r).set k (.long v)) := by
    rw [en_obj hc7, fv_set (S := S) ht (fun j t' hj => vl_uJ hj)]
    have h9 : vl G (uJ S c0 r k v) c0 r k 1 = .long v := by show Value.long _ = Value.long _; rw [sJ_uJ, if_pos ⟨rfl, rfl, rfl⟩]
    rw [h9]
  have hset := wl_set (S' := uJ S c0 r k v) w.2.1 hP hq he (fun c' r' h => uJ_far h)
  rw [en_obj hc7] at hq
  have hl : k < (fv G S c0 r).length := (List.getElem?_eq_some_iff.mp (fv_get (G := G) (S := S) (r := r) ht)).1
  refine va_put hx hb hts hin ty0 hty hnm hown hK w.1 w.2.1 w.2.2 q hq hc k hk (hts _ hlink) (fun x h => by rw [hsame]; exact h) hfin hd rfl rfl hl hdg fun H1 locs1 h1 h2 h3 => ?_
  rw [hset] at h1 h2
  exact kk H1 locs1 ⟨h1, h2, h3⟩
theorem ppQ (c0 k c1 : Nat) {r index : Nat} {Cn ref D : String} {T : u_T} {N : Nat} {ty0 : Nat → FieldType} (hc7 : c0 < 7) (hc : vwCl[c0]? = some (Cn, T, N)) (hk : k < N) (ht : (fdT c0)[k]? = some (c1 + 3)) (hsame : ref = (T k).1) (hty : ∀ k, k < N → parseFieldDescriptor (T k).2.2.1 = some (ty0 k)) (hnm : ∀ a, a < N → ∀ b, b < N → a ≠ b → (T a).2.1 ≠ (T b).2.1) (hfin : (T k).2.2.2 = false) (hd : parseFieldDescriptor (T k).2.2.1 = some (.object D))
    (C : Cx p s m args meth c cc own Ts nL G A) (w : Wd G A s.heap S H locs) (hin : ∀ w ∈ u_ws Cn T N, w ∈ Ts) (hlink : (Cond.fieldLink own index ref (T k).2.1 (T k).2.2.1) ∈ Ts) (hdg : decode cc pc = .ok (.putfield index, 3)) (hP : (c0, r) ∈ gP G) {r1 : Nat}
    (kk : ∀ (H1 : Heap) (locs1 : List Loc), Wd G A s.heap (uQ S c0 r k (some r1)) H1 locs1 → W p l e R s m args below meth c H1 locs1 cells slots Q (F0 m (pc + 3) ls rest)) : W p l e R s m args below meth c H locs cells slots Q (F0 m pc ls (.ref (gA G c1 r1) :: .ref (gA G c0 r) :: rest)) := by
  obtain ⟨hx, hb, -, hown, hts, hK, -⟩ := C
  obtain ⟨q, hq⟩ := wl_get S hP
  have he : en G (uQ S c0 r k (some r1)) c0 r = .inr (c0, (fv G S c0 r).set k (.ref (gA G c1 r1))) := by
    rw [en_obj hc7, fv_set (S := S) ht (fun j t' hj => vl_uQ hj)]
    have h9 : vl G (uQ S c0 r k (some r1)) c0 r k (c1 + 3) = .ref (gA G c1 r1) := by
      show va_rf ((sQ (uQ S c0 r k (some r1)) c0 r k).map (gA G c1)) = _
      rw [sQ_uQ, if_pos ⟨rfl, rfl, rfl⟩]; rfl
    rw [h9]
  have hset := wl_set (S' := uQ S c0 r k (some r1)) w.2.1 hP hq he (fun c' r' h => uQ_far h)
  rw [en_obj hc7] at hq
  have hl : k < (fv G S c0 r).length := (List.getElem?_eq_some_iff.mp (fv_get (G := G) (S := S) (r := r) ht)).1
  refine va_put hx hb hts hin ty0 hty hnm hown hK w.1 w.2.1 w.2.2 q hq hc k hk (hts _ hlink) (fun x h => by rw [hsame]; exact h) hfin hd rfl rfl hl hdg fun H1 locs1 h1 h2 h3 => ?_
  rw [hset] at h1 h2
  exact kk H1 locs1 ⟨h1, h2, h3⟩
end RW
