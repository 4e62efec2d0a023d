/-! Pools that grow: what constructors make. -/
def tgt (c k t : Nat) : Prop := (c ≠ 10 ∧ (fdT c)[k]? = some (t + 3)) ∨ (c = 10 ∧ t = 2)
/-- references lead to things of the list -/
def cls (S : PS) (L : List (Nat × Nat)) : Prop := ∀ c r k t r1, (c, r) ∈ L → tgt c k t → sQ S c r k = some r1 → (t, r1) ∈ L
def blk (S : PS) (c r : Nat) : Prop := (∀ k, sI S c r k = 0) ∧ (∀ k, sJ S c r k = 0) ∧ ∀ k, sQ S c r k = none
/-- G' has the things L beside G's -/
def xt (G G' : GT) (L : List (Nat × Nat)) : Prop := gD G' = gD G ∧ G'.2.1 = G.2.1 ∧ gP G' = gP G ++ L ∧ gN G' = gN G ∧ ∀ c r, (c, r) ∈ gP G → gA G' c r = gA G c r
theorem xt.rf (G : GT) : xt G G [] := ⟨rfl, rfl, (List.append_nil _).symm, rfl, fun _ _ _ => rfl⟩
theorem xt.tr {G G1 G2 : GT} {L L2 : List (Nat × Nat)} (h : xt G G1 L) (h2 : xt G1 G2 L2) : xt G G2 (L ++ L2) :=
  ⟨h2.1.trans h.1, h2.2.1.trans h.2.1, by rw [h2.2.2.1, h.2.2.1, List.append_assoc], h2.2.2.2.1.trans h.2.2.2.1, fun c r q => (h2.2.2.2.2 c r (by rw [h.2.2.1]; exact List.mem_append_left _ q)).trans (h.2.2.2.2 c r q)⟩
theorem xt.m {G G' : GT} {L : List (Nat × Nat)} (h : xt G G' L) {x : Nat × Nat} (q : x ∈ gP G) : x ∈ gP G' := by rw [h.2.2.1]; exact List.mem_append_left _ q
theorem xt.nw {G G' : GT} {L : List (Nat × Nat)} (h : xt G G' L) {x : Nat × Nat} (q : x ∈ L) : x ∈ gP G' := by rw [h.2.2.1]; exact List.mem_append_right _ q
theorem xt.a {G G' : GT} {L : List (Nat × Nat)} (h : xt G G' L) {c r : Nat} (q : (c, r) ∈ gP G) : gA G c r = gA G' c r := (h.2.2.2.2 c r q).symm
theorem xt.no {G G' : GT} {L : List (Nat × Nat)} (h : xt G G' L) {x : Nat × Nat} (q : x ∉ gP G) (q2 : x ∉ L) : x ∉ gP G' := by
  rw [h.2.2.1]
  exact fun y => (List.mem_append.mp y).elim q q2
theorem xt.tt {G G' : GT} {L : List (Nat × Nat)} (h : xt G G' L) : gT G' = gT G := by
  unfold gT gB gI gJ gO
  rw [h.2.1]
theorem xt.C {G G' : GT} {L : List (Nat × Nat)} (h : xt G G' L) {p : Program} {s : State} {m : MethodId} {args : Array Value} {meth : Method} {c : Code} {cc : ByteArray} {own : String} {Ts : List Cond} {nL : Nat} {A : Nat → Prop} (C : Cx p s m args meth c cc own Ts nL G A) : Cx p s m args meth c cc own Ts nL G' A := by
  obtain ⟨a1, a2, a3, a4, a5, a6, a7⟩ := C
  exact ⟨a1, a2, a3, a4, a5, by rw [h.1, h.tt]; exact a6, a7⟩
def gW (G : GT) (c r q : Nat) : GT := (G.1, G.2.1, gP G ++ [(c, r)], (fun c' r' => if c' = c ∧ r' = r then q else gA G c' r'), gN G)
theorem gW_xt {G : GT} {c r q : Nat} (hf : (c, r) ∉ gP G) : xt G (gW G c r q) [(c, r)] :=
  ⟨rfl, rfl, rfl, rfl, fun c' r' h => if_neg (fun z => hf (by obtain ⟨rfl, rfl⟩ := z; exact h))⟩
theorem gW_A {G : GT} {c r q : Nat} : gA (gW G c r q) c r = q := if_pos ⟨rfl, rfl⟩
theorem vl_gW {G : GT} {S : PS} {c r q : Nat} (hc : cls S (gP G)) (hf : (c, r) ∉ gP G) {c' r' k t : Nat} (hm : (c', r') ∈ gP G) (h10 : c' ≠ 10) (ht : (fdT c')[k]? = some t) : vl (gW G c r q) S c' r' k t = vl G S c' r' k t := by
  match t with
  | 0 => rfl
  | 1 => rfl
  | 2 => rfl
  | t + 3 =>
    show va_rf _ = va_rf _
    cases hq : sQ S c' r' k with
    | none => rfl
    | some r1 =>
      show va_rf (some (gA (gW G c r q) t r1)) = va_rf (some (gA G t r1))
      rw [(gW_xt (q := q) hf).2.2.2.2 t r1 (hc c' r' k t r1 hm (Or.inl ⟨h10, ht⟩) hq)]
theorem en_gW {G : GT} {S : PS} {c r q : Nat} (hc : cls S (gP G)) (hf : (c, r) ∉ gP G) {c' r' : Nat} (hm : (c', r') ∈ gP G) : en (gW G c r q) S c' r' = en G S c' r' := by
  by_cases h10 : c' = 10
  · subst h10
    show (Sum.inl (gO G, gN G 10 r', Sum.inr (Sum.inr (Sum.inr (Sum.inr (fun k => (sQ S 10 r' k).map (gA (gW G c r q) 2)))))) : va_E) = Sum.inl (gO G, gN G 10 r', Sum.inr (Sum.inr (Sum.inr (Sum.inr (fun k => (sQ S 10 r' k).map (gA G 2))))))
    have e : (fun k => (sQ S 10 r' k).map (gA (gW G c r q) 2)) = (fun k => (sQ S 10 r' k).map (gA G 2)) := by
      funext k
      cases hq : sQ S 10 r' k with
      | none => rfl
      | some r1 =>
        show some (gA (gW G c r q) 2 r1) = some (gA G 2 r1)
        rw [(gW_xt (q := q) hf).2.2.2.2 2 r1 (hc 10 r' k 2 r1 hm (Or.inr ⟨rfl, rfl⟩) hq)]
    rw [e]
  · have e : fv (gW G c r q) S c' r' = fv G S c' r' := by
      unfold fv
      refine List.ext_getElem? fun k => ?_
      rw [List.getElem?_mapIdx, List.getElem?_mapIdx]
      cases ht : (fdT c')[k]? with
      | none => rfl
      | some t => exact congrArg some (vl_gW hc hf hm h10 ht)
    unfold en
    rw [e, if_neg h10, if_neg h10]
    rfl
theorem wl_gW {G : GT} {S : PS} {c r q : Nat} (hc : cls S (gP G)) (hf : (c, r) ∉ gP G) : wl (gW G c r q) S = wl G S ++ [(q, en (gW G c r q) S c r)] := by
  unfold wl
  show (gP G ++ [(c, r)]).map _ = _
  rw [List.map_append]
  have e1 : (gP G).map (fun x => (gA (gW G c r q) x.1 x.2, en (gW G c r q) S x.1 x.2)) = (gP G).map (fun x => (gA G x.1 x.2, en G S x.1 x.2)) := by
    refine List.map_congr_left fun x hx => ?_
    rw [en_gW hc hf hx, (gW_xt (q := q) hf).2.2.2.2 x.1 x.2 hx]
  rw [e1]
  congr 1
  show [(gA (gW G c r q) c r, _)] = _
  rw [gW_A]
def dv (t : Nat) : Value := match t with
  | 0 => .int 0
  | 1 => .long 0
  | 2 => .int 0
  | _ => .null
def dfl (c : Nat) : List Value := (fdT c).map dv
theorem fv_blk {G : GT} {S : PS} {c r : Nat} (h : blk S c r) : fv G S c r = dfl c := by
  unfold fv dfl
  refine List.ext_getElem? fun k => ?_
  rw [List.getElem?_mapIdx, List.getElem?_map]
  cases (fdT c)[k]? with
  | none => rfl
  | some t =>
    show some (vl G S c r k t) = some (dv t)
    congr 1
    match t with
    | 0 => show Value.int _ = Value.int _; rw [h.1]
    | 1 => show Value.long _ = Value.long _; rw [h.2.1]
    | 2 => show Value.int _ = Value.int _; rw [h.1]
    | t + 3 => show va_rf _ = Value.null; rw [h.2.2]; rfl
/-- closed lists stay closed -/
theorem cls.mk {S : PS} {L L' : List (Nat × Nat)} (h : cls S L) (hb : ∀ x ∈ L', blk S x.1 x.2) : cls S (L ++ L') := fun c r k t r1 hm ht hq => by
  rcases List.mem_append.mp hm with q | q
  · exact List.mem_append_left _ (h c r k t r1 q ht hq)
  · exact absurd hq (by rw [(hb (c, r) q).2.2]; simp)
theorem cls.uI {S : PS} {L : List (Nat × Nat)} (h : cls S L) (c r k : Nat) (v : Int32) : cls (uI S c r k v) L := h
theorem cls.uJ {S : PS} {L : List (Nat × Nat)} (h : cls S L) (c r k : Nat) (v : Int64) : cls (uJ S c r k v) L := h
theorem cls.uQ {S : PS} {L : List (Nat × Nat)} (h : cls S L) {c r k t r1 : Nat} (ht : ∀ t', tgt c k t' → t' = t) (hm : (t, r1) ∈ L) : cls (uQ S c r k (some r1)) L := fun c' r' k' t' r1' hm' ht' hq => by
  rw [sQ_uQ] at hq
  by_cases z : c' = c ∧ r' = r ∧ k' = k
  · rw [if_pos z] at hq
    obtain ⟨rfl, rfl, rfl⟩ := z
    cases hq
    rw [ht t' ht']
    exact hm
  · rw [if_neg z] at hq
    exact h c' r' k' t' r1' hm' ht' hq
theorem tgt_f {c k t : Nat} (h10 : c ≠ 10) (h : (fdT c)[k]? = some (t + 3)) : ∀ t', tgt c k t' → t' = t := fun t' q => by
  rcases q with q | q
  · have := q.2.symm.trans h
    simp at this
    exact this
  · exact absurd q.1 h10
theorem tgt_10 {k : Nat} : ∀ t', tgt 10 k t' → t' = 2 := fun t' q => by
  rcases q with q | q
  · exact absurd rfl q.1
  · exact q.2
theorem blk.uI {S : PS} {c r : Nat} (h : blk S c r) {c' r' k : Nat} {v : Int32} (n : ¬ (c = c' ∧ r = r')) : blk (uI S c' r' k v) c r := ⟨fun j => by rw [sI_uI, if_neg (fun z => n ⟨z.1, z.2.1⟩)]; exact h.1 j, h.2.1, h.2.2⟩
theorem blk.uJ {S : PS} {c r : Nat} (h : blk S c r) {c' r' k : Nat} {v : Int64} (n : ¬ (c = c' ∧ r = r')) : blk (uJ S c' r' k v) c r := ⟨h.1, fun j => by rw [sJ_uJ, if_neg (fun z => n ⟨z.1, z.2.1⟩)]; exact h.2.1 j, h.2.2⟩
theorem blk.uQ {S : PS} {c r : Nat} (h : blk S c r) {c' r' k : Nat} {v : Option Nat} (n : ¬ (c = c' ∧ r = r')) : blk (uQ S c' r' k v) c r := ⟨h.1, h.2.1, fun j => by rw [sQ_uQ, if_neg (fun z => n ⟨z.1, z.2.1⟩)]; exact h.2.2 j⟩
/-- closed, and blank outside -/
def wf (S : PS) (G : GT) : Prop := cls S (gP G) ∧ ∀ c r, (c, r) ∉ gP G → blk S c r
theorem wf.gr {S : PS} {G G' : GT} {L : List (Nat × Nat)} (h : wf S G) (hx : xt G G' L) (hL : ∀ x ∈ L, x ∉ gP G) : wf S G' :=
  ⟨by rw [hx.2.2.1]; exact h.1.mk (fun x q => h.2 x.1 x.2 (hL x q)), fun c r q => h.2 c r (fun z => q (hx.m z))⟩
theorem wf.g1 {S : PS} {G G' : GT} {c r : Nat} (h : wf S G) (hx : xt G G' [(c, r)]) (hf : (c, r) ∉ gP G) : wf S G' := h.gr hx (fun x q => by rw [List.mem_singleton.mp q]; exact hf)
theorem wf.uI {S : PS} {G : GT} (h : wf S G) {c r : Nat} (hm : (c, r) ∈ gP G) (k : Nat) (v : Int32) : wf (uI S c r k v) G :=
  ⟨h.1, fun c' r' q => (h.2 c' r' q).uI (fun z => q (by obtain ⟨rfl, rfl⟩ := z; exact hm))⟩
theorem wf.uQ {S : PS} {G : GT} (h : wf S G) {c r k t r1 : Nat} (hm : (c, r) ∈ gP G) (ht : ∀ t', tgt c k t' → t' = t) (hm1 : (t, r1) ∈ gP G) : wf (uQ S c r k (some r1)) G :=
  ⟨h.1.uQ ht hm1, fun c' r' q => (h.2 c' r' q).uQ (fun z => q (by obtain ⟨rfl, rfl⟩ := z; exact hm))⟩
def rmG (f n mc ms : Nat) : Room := { frames := f, cells := mc, slots := ms, locals := n }
/-- what constructors need of the tables beside their words -/
def nK1 (U : State) : Prop := va_AO "LevelScores$Score" U ∧ va_Nw (.methodLinkNest RX1 11 yX2_init "LevelScores") U ∧ va_Nw (.methodLinkNest RX1 34 yX4_init "LevelScores") U
def nK5 (U : State) : Prop := nK1 U ∧ va_Nw (.methodLinkNest RX5 15 yX2_init "LevelScores") U ∧ va_Nw (.methodLinkNest RX5 18 yX3_init "LevelScores") U ∧ va_Nw (.methodLinkNest RX5 25 yX0_init "LevelScores") U ∧ va_Nw (.methodLinkNest RX5 39 yX4_init "LevelScores") U
def okK (K : State → Prop) : Prop := (∀ s U : State, s.WarmedH U.vm → K s → K U) ∧ ∀ s U : State, U.vm = s.vm → K s → K U
theorem okK_T : okK (fun _ => True) := ⟨fun _ _ _ h => h, fun _ _ _ h => h⟩
theorem okK_1 : okK nK1 := ⟨fun _ _ hW h => ⟨h.1.moved hW.alike, h.2.1.warmM hW, h.2.2.warmM hW⟩, fun s U hv h => ⟨h.1.moved (by rw [hv]; exact Vm.Alike.refl _), h.2.1.same rfl hv.symm, h.2.2.same rfl hv.symm⟩⟩
theorem okK_5 : okK nK5 := ⟨fun s U hW h => ⟨okK_1.1 s U hW h.1, h.2.1.warmM hW, h.2.2.1.warmM hW, h.2.2.2.1.warmM hW, h.2.2.2.2.warmM hW⟩, fun s U hv h => ⟨okK_1.2 s U hv h.1, h.2.1.same rfl hv.symm, h.2.2.1.same rfl hv.symm, h.2.2.2.1.same rfl hv.symm, h.2.2.2.2.same rfl hv.symm⟩⟩
/-- contracts of constructors: they make the things L' -/
def CtN (l : Launch) (K : State → Prop) (G : GT) (L' : List (Nat × Nat)) (y : MethodName) (ws : List Cond) (rm : Room) (as : List Value) (S : PS) (post : PS → Prop) : Prop :=
  ∀ sz : Nat, Met l y ws rm (va_Pc as (fun U => Wa G S sz U ∧ K U)) (va_Qv (fun u : GT × PS => xt G u.1 L' ∧ post u.2) (fun u => Wb u.1 (va_A (wl G S) sz) u.2) (va_A (wl G S) sz)) rm.cells rm.slots (va_A (wl G S) sz)
section GL
variable {l : Launch} {K : State → Prop} {G : GT} {L' : List (Nat × Nat)} {y : MethodName} {ws ws' : List Cond} {f n mc ms : Nat} {as : List Value} {S : PS} {cc : ByteArray} {nL : Nat}
theorem ofCtN {post : PS → Prop} (own : String) (hy : plainFor y = true) (hw : ws = Cond.code y cc nL none :: ws') (hown : y.cls = own) (hnm : y.name = "<init>") (hlen : (lg_sl as).length ≤ nL)
    (body : ∀ (p : Program) (e : Env) (s : State) (m : MethodId) (args : Array Value) (below : List Frame) (meth : Method) (c : Code) (A : Nat → Prop) (Q : State → Prop) (ls : Array Slot), Cx p s m args meth c cc own ws nL G A → K s → meth.name = "<init>" → Wd G A s.heap S s.heap [] → lv_has ls nL (lv_args 0 as) →
      (∀ (pc : Nat) (ls : Array Slot) (G' : GT) (S' : PS) (H : Heap) (locs : List Loc), decode cc pc = .ok (.return_, 1) → xt G G' L' → Wd G' A s.heap S' H locs → post S' → W p l e (rmG f n mc ms) s m args below meth c H locs mc ms Q (F0 m pc ls [])) →
      W p l e (rmG f n mc ms) s m args below meth c s.heap [] 0 0 Q (F0 m 0 ls [])) : CtN l K G L' y ws (rmG f n mc ms) as S post := by
  intro sz
  refine va_MetF (cc := cc) (maxL := nL) (ret := none) hy hw ?_
  intro p e s m args below meth c s₁ B hml hv
  obtain ⟨rfl, ⟨hsz, hP, hK, hD0⟩, hKs⟩ := hv
  have hts := atoms_spec (ws := ws) B.pre
  have ho : s.vm.findClass own = some m.cls := hown ▸ findClass_of_methodNamed B.named
  have hin : meth.name = "<init>" := ((name_of_methodNamed B.named B.method).1).trans hnm
  subst hsz
  have hD := hD0.self (sz := s.heap.size)
  have hl := lv_entry as (n := nL) hlen
  rw [lg_entry_eq]
  refine body p e s m _ below meth c _ _ _ ⟨B.exec, B.bytes, hml, ho, hts, hK, fun q h => Or.inr h⟩ hKs hin ⟨hP, hD, va_S.rf⟩ hl ?_
  intro pc ls G' S' H locs hdg hx w h
  obtain ⟨hP, hD, hS⟩ := w
  exact W.vret B.exec B.bytes B.returns (fun t ht hW => ⟨⟨(G', S'), rfl, ⟨hx, h⟩, by rw [ht]; exact hP, va_K.moved hW.alike (by rw [hx.1, hx.tt]; exact hK), hD⟩, hS.F ht⟩) hS.2.2 hdg B.notSynchronized
end GL
section GW
variable {p : Program} {l : Launch} {e : Env} {R : Room} {s : State} {m : MethodId} {args : Array Value} {below : List Frame} {meth : Method} {c : Code} {H : Heap} {locs : List Loc} {cells slots : Nat} {Q : State → Prop}
variable {cc : ByteArray} {own : String} {Ts : List Cond} {nL : Nat} {G : GT} {A : Nat → Prop} {S : PS} {pc : Nat} {ls : Array Slot} {rest st : List Value} {lv : List (Nat × Value)}
/-- a new object -/
theorem pnO (ci : Nat) {r index N : Nat} {Cn : String} {T : u_T} {ty0 : Nat → FieldType} (hc7 : ci < 7) (hc : vwCl[ci]? = some (Cn, T, N)) (hty : ∀ k, k < N → parseFieldDescriptor (T k).2.2.1 = some (ty0 k)) (hfs : ∀ j, j < N → defaultValue (ty0 j) = vp_V (dfl ci) j)
    (C : Cx p s m args meth c cc own Ts nL G A) (w : Wd G A s.heap S H locs) (hin : ∀ w ∈ u_ws Cn T N, w ∈ Ts) (hcl : Cond.classLink own index Cn ∈ Ts) (hi : Cond.instantiable Cn N ∈ Ts) (hini : Cond.initialized Cn ∈ Ts) (hdg : decode cc pc = .ok (.new index, 3)) (hwf : wf S G) (hf : (ci, r) ∉ gP G) (hcells : cells + 1 ≤ R.cells) (hslots : slots + N ≤ R.slots)
    (kk : ∀ (G' : GT) (H1 : Heap), xt G G' [(ci, r)] → wf S G' → Cx p s m args meth c cc own Ts nL G' A → Wd G' A s.heap S H1 locs → W p l e R s m args below meth c H1 locs (cells + 1) (slots + N) Q (F0 m (pc + 3) ls (.ref (gA G' ci r) :: rest))) : W p l e R s m args below meth c H locs cells slots Q (F0 m pc ls rest) := by
  refine va_new C.1 C.2.1 C.2.2.2.2.1 hin ty0 hty C.2.2.2.1 (C.2.2.2.2.1 _ hcl) (C.2.2.2.2.1 _ hi) (C.2.2.2.2.1 _ hini) C.2.2.2.2.2.1 w.1 w.2.1 w.2.2 C.2.2.2.2.2.2 hc (fs := dfl ci) hfs hcells hslots hdg fun q H1 h1 h2 h3 => ?_
  have e : wl G S ++ [(q, .inr (ci, dfl ci))] = wl (gW G ci r q) S := by rw [wl_gW hwf.1 hf, en_obj hc7, fv_blk (hwf.2 _ _ hf)]
  rw [e] at h1 h2
  have k9 := kk (gW G ci r q) H1 (gW_xt hf) (hwf.g1 (gW_xt hf) hf) ((gW_xt hf).C C) ⟨h1, h2, h3⟩
  rw [gW_A] at k9
  exact k9
theorem K_same {D : va_G} {cl : List vw_C} {G : GT} {cA : ClassId} {ty : FieldType} {k : Nat} {cB : ClassId} (h : va_K D cl (gT G ++ [(cA, ty)]) s) (hk : (gT G)[k]? = some (cB, ty)) (hu : ∀ a b : ClassId, va_RA s a ty → va_RA s b ty → a = b) : cA = cB := by
  have hlt : k < (gT G).length := (List.getElem?_eq_some_iff.mp hk).1
  have h1 := (h.2 k (cB, ty) (by rw [List.getElem?_append_left hlt]; exact hk)).2
  have h2 := (h.2 (gT G).length (cA, ty) (by rw [List.getElem?_append_right (Nat.le_refl _), Nat.sub_self]; rfl)).2
  exact hu _ _ h2 h1
/-- new rows -/
theorem pnB {r : Nat} {n : Int32} {N' : Nat} (C : Cx p s m args meth c cc own Ts nL G A) (w : Wd G A s.heap S H locs) (harr : Cond.arrayClass .byte ∈ Ts) (hdg : decode cc pc = .ok (.newarray .byte, 2)) (hn : ¬ n < 0) (hN : n.toNatClampNeg = N') (hN0 : gN G 7 r = N') (hbytes : N' * componentBytes .byte ≤ 536870912) (hwf : wf S G) (hf : (7, r) ∉ gP G) (hcells : cells + 1 ≤ R.cells) (hslots : slots + N' ≤ R.slots)
    (kk : ∀ (G' : GT) (H1 : Heap), xt G G' [(7, r)] → wf S G' → Cx p s m args meth c cc own Ts nL G' A → Wd G' A s.heap S H1 locs → W p l e R s m args below meth c H1 locs (cells + 1) (slots + N') Q (F0 m (pc + 2) ls (.ref (gA G' 7 r) :: rest))) : W p l e R s m args below meth c H locs cells slots Q (F0 m pc ls (.int n :: rest)) := by
  refine va_newa C.1 C.2.1 (atype := .byte) (C.2.2.2.2.1 _ harr) (ty := .byte) rfl C.2.2.2.2.2.1 w.1 w.2.1 w.2.2 C.2.2.2.2.2.2 (a0 := (N', .inl (fun _ => 0))) (fun _ => rfl) hn hN hbytes hcells hslots hdg fun q cA H1 h0 h1 h2 h3 => ?_
  have eA : cA = gB G := K_same (s := s) (k := 0) h0 rfl (fun a b x y => Option.some.inj (Eq.trans (Eq.symm x) y))
  subst eA
  have e : wl G S ++ [(q, .inl (gB G, N', .inl (fun _ => 0)))] = wl (gW G 7 r q) S := by
    rw [wl_gW hwf.1 hf]
    show _ = wl G S ++ [(q, .inl (gB G, gN G 7 r, .inl (sI S 7 r)))]
    rw [hN0, show sI S 7 r = fun _ => 0 from funext (hwf.2 _ _ hf).1]
  rw [e] at h1 h2
  have k9 := kk (gW G 7 r q) H1 (gW_xt hf) (hwf.g1 (gW_xt hf) hf) ((gW_xt hf).C C) ⟨h1, h2, h3⟩
  rw [gW_A] at k9
  exact k9
theorem pnI {r : Nat} {n : Int32} {N' : Nat} (C : Cx p s m args meth c cc own Ts nL G A) (w : Wd G A s.heap S H locs) (harr : Cond.arrayClass .int ∈ Ts) (hdg : decode cc pc = .ok (.newarray .int, 2)) (hn : ¬ n < 0) (hN : n.toNatClampNeg = N') (hN0 : gN G 8 r = N') (hbytes : N' * componentBytes .int ≤ 536870912) (hwf : wf S G) (hf : (8, r) ∉ gP G) (hcells : cells + 1 ≤ R.cells) (hslots : slots + N' ≤ R.slots)
    (kk : ∀ (G' : GT) (H1 : Heap), xt G G' [(8, r)] → wf S G' → Cx p s m args meth c cc own Ts nL G' A → Wd G' A s.heap S H1 locs → W p l e R s m args below meth c H1 locs (cells + 1) (slots + N') Q (F0 m (pc + 2) ls (.ref (gA G' 8 r) :: rest))) : W p l e R s m args below meth c H locs cells slots Q (F0 m pc ls (.int n :: rest)) := by
  refine va_newa C.1 C.2.1 (atype := .int) (C.2.2.2.2.1 _ harr) (ty := .int) rfl C.2.2.2.2.2.1 w.1 w.2.1 w.2.2 C.2.2.2.2.2.2 (a0 := (N', .inl (fun _ => 0))) (fun _ => rfl) hn hN hbytes hcells hslots hdg fun q cA H1 h0 h1 h2 h3 => ?_
  have eA : cA = gI G := K_same (s := s) (k := 1) h0 rfl (fun a b x y => Option.some.inj (Eq.trans (Eq.symm x) y))
  subst eA
  have e : wl G S ++ [(q, .inl (gI G, N', .inl (fun _ => 0)))] = wl (gW G 8 r q) S := by
    rw [wl_gW hwf.1 hf]
    show _ = wl G S ++ [(q, .inl (gI G, gN G 8 r, .inl (sI S 8 r)))]
    rw [hN0, show sI S 8 r = fun _ => 0 from funext (hwf.2 _ _ hf).1]
  rw [e] at h1 h2
  have k9 := kk (gW G 8 r q) H1 (gW_xt hf) (hwf.g1 (gW_xt hf) hf) ((gW_xt hf).C C) ⟨h1, h2, h3⟩
  rw [gW_A] at k9
  exact k9
theorem pnJ {r : Nat} {n : Int32} {N' : Nat} (C : Cx p s m args meth c cc own Ts nL G A) (w : Wd G A s.heap S H locs) (harr : Cond.arrayClass .long ∈ Ts) (hdg : decode cc pc = .ok (.newarray .long, 2)) (hn : ¬ n < 0) (hN : n.toNatClampNeg = N') (hN0 : gN G 9 r = N') (hbytes : N' * componentBytes .long ≤ 536870912) (hwf : wf S G) (hf : (9, r) ∉ gP G) (hcells : cells + 1 ≤ R.cells) (hslots : slots + N' ≤ R.slots)
    (kk : ∀ (G' : GT) (H1 : Heap), xt G G' [(9, r)] → wf S G' → Cx p s m args meth c cc own Ts nL G' A → Wd G' A s.heap S H1 locs → W p l e R s m args below meth c H1 locs (cells + 1) (slots + N') Q (F0 m (pc + 2) ls (.ref (gA G' 9 r) :: rest))) : W p l e R s m args below meth c H locs cells slots Q (F0 m pc ls (.int n :: rest)) := by
  refine va_newa C.1 C.2.1 (atype := .long) (C.2.2.2.2.1 _ harr) (ty := .long) rfl C.2.2.2.2.2.1 w.1 w.2.1 w.2.2 C.2.2.2.2.2.2 (a0 := (N', .inr (.inl (fun _ => 0)))) (fun _ => rfl) hn hN hbytes hcells hslots hdg fun q cA H1 h0 h1 h2 h3 => ?_
  have eA : cA = gJ G := K_same (s := s) (k := 2) h0 rfl (fun a b x y => Option.some.inj (Eq.trans (Eq.symm x) y))
  subst eA
  have e : wl G S ++ [(q, .inl (gJ G, N', .inr (.inl (fun _ => 0))))] = wl (gW G 9 r q) S := by
    rw [wl_gW hwf.1 hf]
    show _ = wl G S ++ [(q, .inl (gJ G, gN G 9 r, .inr (.inl (sJ S 9 r))))]
    rw [hN0, show sJ S 9 r = fun _ => 0 from funext (hwf.2 _ _ hf).2.1]
  rw [e] at h1 h2
  have k9 := kk (gW G 9 r q) H1 (gW_xt hf) (hwf.g1 (gW_xt hf) hf) ((gW_xt hf).C C) ⟨h1, h2, h3⟩
  rw [gW_A] at k9
  exact k9
theorem pnQ {r index : Nat} {n : Int32} {N' : Nat} (C : Cx p s m args meth c cc own Ts nL G A) (w : Wd G A s.heap S H locs) (hcl : Cond.classLink own index "LevelScores$Score" ∈ Ts) (hover : va_AO "LevelScores$Score" s) (hdg : decode cc pc = .ok (.anewarray index, 3)) (hn : ¬ n < 0) (hN : n.toNatClampNeg = N') (hN0 : gN G 10 r = N') (hbytes : N' * 4 ≤ 536870912) (hwf : wf S G) (hf : (10, r) ∉ gP G) (hcells : cells + 1 ≤ R.cells) (hslots : slots + N' ≤ R.slots)
    (kk : ∀ (G' : GT) (H1 : Heap), xt G G' [(10, r)] → wf S G' → Cx p s m args meth c cc own Ts nL G' A → Wd G' A s.heap S H1 locs → W p l e R s m args below meth c H1 locs (cells + 1) (slots + N') Q (F0 m (pc + 3) ls (.ref (gA G' 10 r) :: rest))) : W p l e R s m args below meth c H locs cells slots Q (F0 m pc ls (.int n :: rest)) := by
  refine va_newq C.1 C.2.1 C.2.2.2.1 (C.2.2.2.2.1 _ hcl) hover C.2.2.2.2.2.1 w.1 w.2.1 w.2.2 C.2.2.2.2.2.2 hn hN hbytes hcells hslots hdg fun q cA H1 h0 h1 h2 h3 => ?_
  have eA : cA = gO G := K_same (s := s) (k := 3) h0 rfl (fun a b x y => by
    obtain ⟨_, _, -, -, -, x4⟩ := x
    obtain ⟨_, _, -, -, -, y4⟩ := y
    exact Option.some.inj (x4.symm.trans y4))
  subst eA
  have e : wl G S ++ [(q, .inl (gO G, N', .inr (.inr (.inr (.inr (fun _ => none))))))] = wl (gW G 10 r q) S := by
    rw [wl_gW hwf.1 hf]
    show _ = wl G S ++ [(q, .inl (gO G, gN G 10 r, .inr (.inr (.inr (.inr (fun k => (sQ S 10 r k).map (gA (gW G 10 r q) 2)))))))]
    rw [hN0, show (fun k => (sQ S 10 r k).map (gA (gW G 10 r q) 2)) = fun _ => none from funext fun k => by rw [(hwf.2 _ _ hf).2.2]; rfl]
  rw [e] at h1 h2
  have k9 := kk (gW G 10 r q) H1 (gW_xt hf) (hwf.g1 (gW_xt hf) hf) ((gW_xt hf).C C) ⟨h1, h2, h3⟩
  rw [gW_A] at k9
  exact k9
/-- a final field that holds a reference -/
theorem ppF (c0 k c1 : Nat) {r index : Nat} {Cn ref : String} {T : u_T} {N : Nat} {ty0 : Nat → FieldType} {ty : FieldType} (hc7 : c0 < 7) (hc : vwCl[c0]? = some (Cn, T, N)) (hk : k < N) (ht : (fdT c0)[k]? = some (c1 + 3)) (hsame : ref = (T k).1) (hty : ∀ k, k < N → parseFieldDescriptor (T k).2.2.1 = some (ty0 k)) (hnm : ∀ a, a < N → ∀ b, b < N → a ≠ b → (T a).2.1 ≠ (T b).2.1) (hfin : (T k).2.2.2 = true) (hin2 : meth.name = "<init>") (hdecl : (T k).1 = own) (hd : parseFieldDescriptor (T k).2.2.1 = some ty) (hnr : ∀ a : Nat, narrow ty (.ref a) = .ref a) (hft : ∀ a : Nat, fits ty (.ref a) = true)
    (C : Cx p s m args meth c cc own Ts nL G A) (w : Wd G A s.heap S H locs) (hin : ∀ w ∈ u_ws Cn T N, w ∈ Ts) (hlink : (Cond.fieldLink own index ref (T k).2.1 (T k).2.2.1) ∈ Ts) (hdg : decode cc pc = .ok (.putfield index, 3)) (hP : (c0, r) ∈ gP G) {r1 : Nat}
    (kk : ∀ (H1 : Heap) (locs1 : List Loc), Wd G A s.heap (uQ S c0 r k (some r1)) H1 locs1 → W p l e R s m args below meth c H1 locs1 cells slots Q (F0 m (pc + 3) ls rest)) : W p l e R s m args below meth c H locs cells slots Q (F0 m pc ls (.ref (gA G c1 r1) :: .ref (gA G c0 r) :: rest)) := by
  obtain ⟨hx, hb, -, hown, hts, hK, -⟩ := C
  obtain ⟨q, hq⟩ := wl_get S hP
  have he : en G (uQ S c0 r k (some r1)) c0 r = .inr (c0, (fv G S c0 r).set k (.ref (gA G c1 r1))) := by
    rw [en_obj hc7, fv_set (S := S) ht (fun j t' hj => vl_uQ hj)]
    have h9 : vl G (uQ S c0 r k (some r1)) c0 r k (c1 + 3) = .ref (gA G c1 r1) := by
      show va_rf ((sQ (uQ S c0 r k (some r1)) c0 r k).map (gA G c1)) = _
      rw [sQ_uQ, if_pos ⟨rfl, rfl, rfl⟩]; rfl
    rw [h9]
  have hset := wl_set (S' := uQ S c0 r k (some r1)) w.2.1 hP hq he (fun c' r' h => uQ_far h)
  rw [en_obj hc7] at hq
  have hl : k < (fv G S c0 r).length := (List.getElem?_eq_some_iff.mp (fv_get (G := G) (S := S) (r := r) ht)).1
  refine va_putF hx hb hts hin ty0 hty hnm hown hK w.1 w.2.1 w.2.2 q hq hc k hk (hts _ hlink) (fun x h => by rw [hsame]; exact h) hfin hin2 hdecl hd (hnr _) (hft _) hl hdg fun H1 locs1 h1 h2 h3 => ?_
  rw [hset] at h1 h2
  exact kk H1 locs1 ⟨h1, h2, h3⟩
variable {K : State → Prop} {L' : List (Nat × Nat)} {y : MethodName} {ws ws' : List Cond} {f fn mc ms index maxL a : Nat} {bytes : ByteArray} {host : String}
theorem Wn_blind {as : List Value} {sz : Nat} (hK : okK K) : FrameBlind (va_Pc as (fun U => Wa G S sz U ∧ K U)) := fun a U g mk q => by
  obtain ⟨q0, ⟨q1, qP, qK, qD⟩, q2⟩ := q
  exact ⟨q0, ⟨q1, qP, va_K.moved (u := U) (U := U.calling g mk a) (Vm.Alike.refl U.vm) qK, qD⟩, hK.2 U _ rfl q2⟩
theorem Wn_wd {G' : GT} {S' : PS} {t : State} {H1 : Heap} {locs1 : List Loc} (w : Wd G A s.heap S H locs) (hA : ∀ q : Nat, s.heap.size ≤ q → A q) (ht : t.heap = H1) (hB : Wb G' (va_A (wl G S) H.size) S' t) (hS : va_S A s.heap H1 locs1) : Wd G' A s.heap S' H1 locs1 := by
  obtain ⟨h1, -, h3⟩ := hB
  rw [ht] at h1
  exact ⟨h1, h3.weaken (fun k q _ h => w.free hA q.1 h), hS⟩
/-- a private constructor of a nest mate -/
theorem cnN {post : PS → Prop} (hKo : okK K) (C : Cx p s m args meth c cc own Ts nL G A) (hKs : K s) (w : Wd G A s.heap S H locs) (hl : lv_has ls nL lv) (hdg : decode cc pc = .ok (.invokespecial index, 3)) (hM : CtN l K G L' y ws (rmG f fn mc ms) [.ref a] S post) (hG : GoodIn Ts ws) (hw : ws = Cond.code y bytes maxL none :: ws') (hnest : va_Nw (.methodLinkNest own index y host) s) (hini : Cond.initialized y.cls ∈ Ts) (hinst : Cond.instanceMethod y ∈ Ts)
    (hd : y.cls ≠ "java/lang/invoke/MethodHandle" ∧ y.cls ≠ "java/lang/invoke/VarHandle" ∧ (parseMethodDescriptor y.desc).map (fun d => d.parameters.length) = some 0) (hnm : y.name = "<init>") (hst : st = .ref a :: rest) (hrest : (rest.map fun v => v.category).sum ≤ 8)
    (hR : f + 1 ≤ R.frames ∧ 8 + (maxL + 11) + fn ≤ R.locals) (hf : cells + mc ≤ R.cells ∧ slots + ms ≤ R.slots)
    (kk : ∀ (G' : GT) (S' : PS) (H1 : Heap) (locs1 : List Loc), xt G G' L' → post S' → Cx p s m args meth c cc own Ts nL G' A → Wd G' A s.heap S' H1 locs1 → W p l e R s m args below meth c H1 locs1 (cells + mc) (slots + ms) Q (F0 m (pc + 3) ls rest)) : W p l e R s m args below meth c H locs cells slots Q (F0 m pc ls st) := by
  subst hst
  have hA := C.2.2.2.2.2.2
  refine va_callv (va_runIN (As := []) (rest := rest) ⟨C.1, C.2.1, C.2.2.1, C.2.2.2.1, C.2.2.2.2.1⟩ (hM H.size) ⟨va_cnB 0 C.2.2.2.2.1 hG hw rfl rfl hnest (C.2.2.2.2.1 _ hini) hd hR, hnm, C.2.2.2.2.1 _ hinst⟩ ⟨Wn_blind hKo, fun U hU hW => ⟨rfl, ⟨by rw [hU], by rw [hU]; exact w.1, va_K.moved hW.alike C.2.2.2.2.2.1, w.2.1.weaken (fun _ _ _ _ => trivial)⟩, hKo.1 s U hW hKs⟩⟩ rfl rfl hl.1 rfl (lv_room hrest) hdg hf) w.2.2 (fun q _ h => w.free hA q h) (w.free hA) (fun u t H1 locs1 ht hvm hp hB hz1 hk1 hS => kk u.1 u.2 H1 locs1 hp.1 hp.2 (hp.1.C C) (Wn_wd w hA ht hB hS))
/-- a constructor -/
theorem cnI {post : PS → Prop} (hKo : okK K) (C : Cx p s m args meth c cc own Ts nL G A) (hKs : K s) (w : Wd G A s.heap S H locs) (hl : lv_has ls nL lv) (hdg : decode cc pc = .ok (.invokespecial index, 3)) (hM : CtN l K G L' y ws (rmG f fn mc ms) [.ref a] S post) (hG : GoodIn Ts ws) (hw : ws = Cond.code y bytes maxL none :: ws') (hlink : Cond.methodLink own index y ∈ Ts) (hini : Cond.initialized y.cls ∈ Ts) (hinst : Cond.instanceMethod y ∈ Ts)
    (hd : y.cls ≠ "java/lang/invoke/MethodHandle" ∧ y.cls ≠ "java/lang/invoke/VarHandle" ∧ (parseMethodDescriptor y.desc).map (fun d => d.parameters.length) = some 0) (hnm : y.name = "<init>") (hst : st = .ref a :: rest) (hrest : (rest.map fun v => v.category).sum ≤ 8)
    (hR : f + 1 ≤ R.frames ∧ 8 + (maxL + 11) + fn ≤ R.locals) (hf : cells + mc ≤ R.cells ∧ slots + ms ≤ R.slots)
    (kk : ∀ (G' : GT) (S' : PS) (H1 : Heap) (locs1 : List Loc), xt G G' L' → post S' → Cx p s m args meth c cc own Ts nL G' A → Wd G' A s.heap S' H1 locs1 → W p l e R s m args below meth c H1 locs1 (cells + mc) (slots + ms) Q (F0 m (pc + 3) ls rest)) : W p l e R s m args below meth c H locs cells slots Q (F0 m pc ls st) := by
  subst hst
  have hA := C.2.2.2.2.2.2
  refine va_callv (va_runI (As := []) (rest := rest) ⟨C.1, C.2.1, C.2.2.1, C.2.2.2.1, C.2.2.2.2.1⟩ (hM H.size) (cwI 0 C.2.2.2.2.1 hG hw rfl rfl (C.2.2.2.2.1 _ hini) (C.2.2.2.2.1 _ hlink) (C.2.2.2.2.1 _ hinst) hnm hd hR) ⟨Wn_blind hKo, fun U hU hW => ⟨rfl, ⟨by rw [hU], by rw [hU]; exact w.1, va_K.moved hW.alike C.2.2.2.2.2.1, w.2.1.weaken (fun _ _ _ _ => trivial)⟩, hKo.1 s U hW hKs⟩⟩ rfl rfl hl.1 rfl (lv_room hrest) hdg hf) w.2.2 (fun q _ h => w.free hA q h) (w.free hA) (fun u t H1 locs1 ht hvm hp hB hz1 hk1 hS => kk u.1 u.2 H1 locs1 hp.1 hp.2 (hp.1.C C) (Wn_wd w hA ht hB hS))
end GW
theorem dfl_ok0 : ∀ j, j < 3 → defaultValue (tyX0 j) = vp_V (dfl 0) j := fun j hj => by
  rcases (show j = 0 ∨ j = 1 ∨ j = 2 by omega) with rfl | rfl | rfl <;> rfl
theorem dfl_ok1 : ∀ j, j < 9 → defaultValue (tyX1 j) = vp_V (dfl 1) j := fun j hj => by
  rcases (show j = 0 ∨ j = 1 ∨ j = 2 ∨ j = 3 ∨ j = 4 ∨ j = 5 ∨ j = 6 ∨ j = 7 ∨ j = 8 by omega) with rfl | rfl | rfl | rfl | rfl | rfl | rfl | rfl | rfl <;> rfl
theorem dfl_ok2 : ∀ j, j < 4 → defaultValue (tyX2 j) = vp_V (dfl 2) j := fun j hj => by
  rcases (show j = 0 ∨ j = 1 ∨ j = 2 ∨ j = 3 by omega) with rfl | rfl | rfl | rfl <;> rfl
theorem dfl_ok3 : ∀ j, j < 3 → defaultValue (tyX3 j) = vp_V (dfl 3) j := fun j hj => by
  rcases (show j = 0 ∨ j = 1 ∨ j = 2 by omega) with rfl | rfl | rfl <;> rfl
theorem dfl_ok4 : ∀ j, j < 2 → defaultValue (tyX4 j) = vp_V (dfl 4) j := fun j hj => by
  rcases (show j = 0 ∨ j = 1 by omega) with rfl | rfl <;> rfl
theorem dfl_ok5 : ∀ j, j < 6 → defaultValue (tyX5 j) = vp_V (dfl 5) j := fun j hj => by
  rcases (show j = 0 ∨ j = 1 ∨ j = 2 ∨ j = 3 ∨ j = 4 ∨ j = 5 by omega) with rfl | rfl | rfl | rfl | rfl | rfl <;> rfl
theorem dfl_ok6 : ∀ j, j < 24 → defaultValue (tyX6 j) = vp_V (dfl 6) j := fun j hj => by
  rcases (show j = 0 ∨ j = 1 ∨ j = 2 ∨ j = 3 ∨ j = 4 ∨ j = 5 ∨ j = 6 ∨ j = 7 ∨ j = 8 ∨ j = 9 ∨ j = 10 ∨ j = 11 ∨ j = 12 ∨ j = 13 ∨ j = 14 ∨ j = 15 ∨ j = 16 ∨ j = 17 ∨ j = 18 ∨ j = 19 ∨ j = 20 ∨ j = 21 ∨ j = 22 ∨ j = 23 by omega) with rfl | rfl | rfl | rfl | rfl | rfl | rfl | rfl | rfl | rfl | rfl | rfl | rfl | rfl | rfl | rfl | rfl | rfl | rfl | rfl | rfl | rfl | rfl | rfl <;> rfl
