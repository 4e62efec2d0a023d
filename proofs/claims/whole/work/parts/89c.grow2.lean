/-! Two pools, one of which grows. -/
theorem vP_l {D : va_G} {cl : List vw_C} {a b : va_W} {H : Heap} (h : va_P D cl (a ++ b) H) : va_P D cl a H := fun k q hk => h k q (by rw [List.getElem?_append_left (List.getElem?_eq_some_iff.mp hk).1]; exact hk)
theorem vP_r {D : va_G} {cl : List vw_C} {a b : va_W} {H : Heap} (h : va_P D cl (a ++ b) H) : va_P D cl b H := fun k q hk => h (a.length + k) q (by rw [List.getElem?_append_right (by omega), show a.length + k - a.length = k by omega]; exact hk)
theorem vD_l {A : Nat → Prop} {a b : va_W} (h : va_D A (a ++ b)) : va_D A a :=
  ⟨fun i j p q hi hj e => h.1 i j p q (by rw [List.getElem?_append_left (List.getElem?_eq_some_iff.mp hi).1]; exact hi) (by rw [List.getElem?_append_left (List.getElem?_eq_some_iff.mp hj).1]; exact hj) e, fun k q hk => h.2 k q (by rw [List.getElem?_append_left (List.getElem?_eq_some_iff.mp hk).1]; exact hk)⟩
theorem ap_r {a b : va_W} {k : Nat} {q : Nat × va_E} (hk : b[k]? = some q) : (a ++ b)[a.length + k]? = some q := by
  rw [List.getElem?_append_right (by omega), show a.length + k - a.length = k by omega]; exact hk
theorem ap_l {a b : va_W} {k : Nat} {q : Nat × va_E} (hk : a[k]? = some q) : (a ++ b)[k]? = some q := by
  rw [List.getElem?_append_left (List.getElem?_eq_some_iff.mp hk).1]; exact hk
theorem vD_r {A : Nat → Prop} {a b : va_W} (h : va_D A (a ++ b)) : va_D A b :=
  ⟨fun i j p q hi hj e => by have := h.1 _ _ p q (ap_r hi) (ap_r hj) e; omega, fun k q hk => h.2 _ q (ap_r hk)⟩
theorem vD_x {A : Nat → Prop} {a b : va_W} (h : va_D A (a ++ b)) {i j : Nat} {p q : Nat × va_E} (hi : a[i]? = some p) (hj : b[j]? = some q) : p.1 ≠ q.1 := fun e => by
  have h1 := h.1 _ _ p q (ap_l hi) (ap_r hj) e
  have h2 := (List.getElem?_eq_some_iff.mp hi).1
  omega
theorem dj_of {G M : GT} {S T : PS} {A : Nat → Prop} (h : va_D A (wl G S ++ wl M T)) : dj G M := fun x hx y hy => by
  obtain ⟨i, hi⟩ := wl_get S (c := x.1) (r := x.2) hx
  obtain ⟨j, hj⟩ := wl_get T (c := y.1) (r := y.2) hy
  exact vD_x h hi hj
theorem D_all {G M : GT} {S T : PS} {A : Nat → Prop} (h1 : va_D A (wl G S)) (h2 : va_D A (wl M T)) (hd : dj G M) : va_D A (wl G S ++ wl M T) := va_D.app h1 h2 (fun i j p q hp hq e => by
  obtain ⟨x, hx, ex⟩ := wl_in hp
  obtain ⟨y, hy, ey⟩ := wl_in hq
  exact hd x hx y hy (ex.symm.trans (e.trans ey)))
section G2
variable {p : Program} {l : Launch} {e : Env} {R : Room} {s : State} {m : MethodId} {args : Array Value} {below : List Frame} {meth : Method} {c : Code} {H : Heap} {locs : List Loc} {cells slots : Nat} {Q : State → Prop}
variable {cc : ByteArray} {own : String} {Ts : List Cond} {nL : Nat} {G M : GT} {A : Nat → Prop} {S T : PS} {pc : Nat} {ls : Array Slot} {rest st : List Value} {lv : List (Nat × Value)}
/-- a new object in M, beside G -/
theorem pn2O (ci : Nat) {r index N : Nat} {Cn : String} {TT : u_T} {ty0 : Nat → FieldType} (hc7 : ci < 7) (hc : vwCl[ci]? = some (Cn, TT, N)) (hty : ∀ k, k < N → parseFieldDescriptor (TT k).2.2.1 = some (ty0 k)) (hfs : ∀ j, j < N → defaultValue (ty0 j) = vp_V (dfl ci) j)
    (C : Cx p s m args meth c cc own Ts nL M A) (w : Wd G A s.heap S H locs) (u : Wd M A s.heap T H locs) (hdj : dj G M) (hDD : gD G = gD M) (hin : ∀ w ∈ u_ws Cn TT N, w ∈ Ts) (hcl : Cond.classLink own index Cn ∈ Ts) (hi : Cond.instantiable Cn N ∈ Ts) (hini : Cond.initialized Cn ∈ Ts) (hdg : decode cc pc = .ok (.new index, 3)) (hwf : wf T M) (hf : (ci, r) ∉ gP M) (hcells : cells + 1 ≤ R.cells) (hslots : slots + N ≤ R.slots)
    (kk : ∀ (M' : GT) (H1 : Heap), xt M M' [(ci, r)] → wf T M' → Cx p s m args meth c cc own Ts nL M' A → Wd G A s.heap S H1 locs → Wd M' A s.heap T H1 locs → dj G M' → W p l e R s m args below meth c H1 locs (cells + 1) (slots + N) Q (F0 m (pc + 3) ls (.ref (gA M' ci r) :: rest))) : W p l e R s m args below meth c H locs cells slots Q (F0 m pc ls rest) := by
  have w1 := w.1
  rw [hDD] at w1
  refine va_new C.1 C.2.1 C.2.2.2.2.1 hin ty0 hty C.2.2.2.1 (C.2.2.2.2.1 _ hcl) (C.2.2.2.2.1 _ hi) (C.2.2.2.2.1 _ hini) C.2.2.2.2.2.1 (w1.app u.1) (D_all w.2.1 u.2.1 hdj) u.2.2 C.2.2.2.2.2.2 hc (fs := dfl ci) hfs hcells hslots hdg fun q H1 h1 h2 h3 => ?_
  have ee : wl M T ++ [(q, .inr (ci, dfl ci))] = wl (gW M ci r q) T := by rw [wl_gW hwf.1 hf, en_obj hc7, fv_blk (hwf.2 _ _ hf)]
  rw [List.append_assoc, ee] at h1 h2
  have k9 := kk (gW M ci r q) H1 (gW_xt hf) (hwf.g1 (gW_xt hf) hf) ((gW_xt hf).C C) ⟨by rw [hDD]; exact vP_l h1, vD_l h2, h3⟩ ⟨vP_r h1, vD_r h2, h3⟩ (dj_of h2)
  rw [gW_A] at k9
  exact k9
/-- a new row of longs in M, beside G -/
theorem pn2J {r : Nat} {n : Int32} {N' : Nat} (C : Cx p s m args meth c cc own Ts nL M A) (w : Wd G A s.heap S H locs) (u : Wd M A s.heap T H locs) (hdj : dj G M) (hDD : gD G = gD M) (harr : Cond.arrayClass .long ∈ Ts) (hdg : decode cc pc = .ok (.newarray .long, 2)) (hn : ¬ n < 0) (hN : n.toNatClampNeg = N') (hN0 : gN M 9 r = N') (hbytes : N' * componentBytes .long ≤ 536870912) (hwf : wf T M) (hf : (9, r) ∉ gP M) (hcells : cells + 1 ≤ R.cells) (hslots : slots + N' ≤ R.slots)
    (kk : ∀ (M' : GT) (H1 : Heap), xt M M' [(9, r)] → wf T M' → Cx p s m args meth c cc own Ts nL M' A → Wd G A s.heap S H1 locs → Wd M' A s.heap T H1 locs → dj G M' → W p l e R s m args below meth c H1 locs (cells + 1) (slots + N') Q (F0 m (pc + 2) ls (.ref (gA M' 9 r) :: rest))) : W p l e R s m args below meth c H locs cells slots Q (F0 m pc ls (.int n :: rest)) := by
  have w1 := w.1
  rw [hDD] at w1
  refine va_newa C.1 C.2.1 (atype := .long) (C.2.2.2.2.1 _ harr) (ty := .long) rfl C.2.2.2.2.2.1 (w1.app u.1) (D_all w.2.1 u.2.1 hdj) u.2.2 C.2.2.2.2.2.2 (a0 := (N', .inr (.inl (fun _ => 0)))) (fun _ => rfl) hn hN hbytes hcells hslots hdg fun q cA H1 h0 h1 h2 h3 => ?_
  have eA : cA = gJ M := K_same (s := s) (k := 2) h0 rfl (fun a b x y => Option.some.inj (Eq.trans (Eq.symm x) y))
  subst eA
  have ee : wl M T ++ [(q, .inl (gJ M, N', .inr (.inl (fun _ => 0))))] = wl (gW M 9 r q) T := by
    rw [wl_gW hwf.1 hf]
    show _ = wl M T ++ [(q, .inl (gJ M, gN M 9 r, .inr (.inl (sJ T 9 r))))]
    rw [hN0, show sJ T 9 r = fun _ => 0 from funext (hwf.2 _ _ hf).2.1]
  rw [List.append_assoc, ee] at h1 h2
  have k9 := kk (gW M 9 r q) H1 (gW_xt hf) (hwf.g1 (gW_xt hf) hf) ((gW_xt hf).C C) ⟨by rw [hDD]; exact vP_l h1, vD_l h2, h3⟩ ⟨vP_r h1, vD_r h2, h3⟩ (dj_of h2)
  rw [gW_A] at k9
  exact k9
variable {K : State → Prop} {L' : List (Nat × Nat)} {y : MethodName} {ws ws' : List Cond} {f fn mc ms index maxL a : Nat} {bytes : ByteArray}
/-- a constructor on M, beside G -/
theorem cn2I {post : PS → Prop} (hKo : okK K) (C : Cx p s m args meth c cc own Ts nL M A) (hKs : K s) (w : Wd G A s.heap S H locs) (u : Wd M A s.heap T H locs) (hdj : dj G M) (hl : lv_has ls nL lv) (hdg : decode cc pc = .ok (.invokespecial index, 3)) (hM : CtN l K M L' y ws (rmG f fn mc ms) [.ref a] T post) (hG : GoodIn Ts ws) (hw : ws = Cond.code y bytes maxL none :: ws') (hlink : Cond.methodLink own index y ∈ Ts) (hini : Cond.initialized y.cls ∈ Ts) (hinst : Cond.instanceMethod y ∈ Ts)
    (hd : y.cls ≠ "java/lang/invoke/MethodHandle" ∧ y.cls ≠ "java/lang/invoke/VarHandle" ∧ (parseMethodDescriptor y.desc).map (fun d => d.parameters.length) = some 0) (hnm : y.name = "<init>") (hst : st = .ref a :: rest) (hrest : (rest.map fun v => v.category).sum ≤ 8)
    (hR : f + 1 ≤ R.frames ∧ 8 + (maxL + 11) + fn ≤ R.locals) (hf : cells + mc ≤ R.cells ∧ slots + ms ≤ R.slots)
    (kk : ∀ (M' : GT) (T' : PS) (H1 : Heap) (locs1 : List Loc), xt M M' L' → post T' → Cx p s m args meth c cc own Ts nL M' A → Wd G A s.heap S H1 locs1 → Wd M' A s.heap T' H1 locs1 → dj G M' → W p l e R s m args below meth c H1 locs1 (cells + mc) (slots + ms) Q (F0 m (pc + 3) ls rest)) : W p l e R s m args below meth c H locs cells slots Q (F0 m pc ls st) := by
  subst hst
  have hA := C.2.2.2.2.2.2
  refine va_callv (va_runI (As := []) (rest := rest) ⟨C.1, C.2.1, C.2.2.1, C.2.2.2.1, C.2.2.2.2.1⟩ (hM H.size) (cwI 0 C.2.2.2.2.1 hG hw rfl rfl (C.2.2.2.2.1 _ hini) (C.2.2.2.2.1 _ hlink) (C.2.2.2.2.1 _ hinst) hnm hd hR) ⟨Wn_blind hKo, fun U hU hW => ⟨rfl, ⟨by rw [hU], by rw [hU]; exact u.1, va_K.moved hW.alike C.2.2.2.2.2.1, u.2.1.weaken (fun _ _ _ _ => trivial)⟩, hKo.1 s U hW hKs⟩⟩ rfl rfl hl.1 rfl (lv_room hrest) hdg hf) u.2.2 (fun q _ h => u.free hA q h) (u.free hA) (fun z t H1 locs1 ht hvm hp hB hz1 hk1 hS => kk z.1 z.2 H1 locs1 hp.1 hp.2 (hp.1.C C) (Wd_other w hdj.sy hk1 hS) (Wn_wd u hA ht hB hS) (fun x hx y9 hy e9 => ?_))
  obtain ⟨i, hi⟩ := wl_get S (c := x.1) (r := x.2) hx
  obtain ⟨j, hj⟩ := wl_get z.2 (c := y9.1) (r := y9.2) hy
  rcases hB.2.2.2 j _ hj with ⟨k9, e0, hk9⟩ | h9
  · obtain ⟨y8, hy8, ey8⟩ := wl_in hk9
    have ey8 : gA z.1 y9.1 y9.2 = gA M y8.1 y8.2 := ey8
    exact hdj x hx y8 hy8 (e9.trans ey8)
  · have h8 : gA G x.1 x.2 < H.size := (w.1 i _ hi).lt
    have h9 : H.size ≤ gA z.1 y9.1 y9.2 := h9
    omega
end G2
/-- the blank state -/
def zS : PS := (fun _ _ _ => 0, fun _ _ _ => 0, fun _ _ _ => none)
theorem zS_blk (c r : Nat) : blk zS c r := ⟨fun _ => rfl, fun _ => rfl, fun _ => rfl⟩
def nX (c r : Nat) : Nat := if c = 7 then (if r = 0 then 300 else if r = 1 then 263 else 19) else if c = 8 then 12 else if c = 9 then (if r = 79 then 1 else 12) else (if r = 0 then 60 else if r = 1 then 12 else 5)
def nMo (c r : Nat) : Nat := if c = 8 then (if r < 3 then 61 else if r = 3 then 12 else if r = 4 then 300 else 400) else (if r = 0 then 732 else if r = 1 then 144 else if r = 2 then 72 else 12)
theorem exL_mem {c r : Nat} : (c, r) ∈ exL ↔ (((c = 2 ∨ c = 9) ∧ r < 60) ∨ (c = 10 ∧ r = 0) ∨ (c = 3 ∧ r = 0) ∨ (c = 7 ∧ r < 3) ∨ (c = 0 ∧ r = 0) ∨ (c = 1 ∧ r = 0) ∨ plF c r ∨ (c = 4 ∧ r = 0)) := by
  unfold exL
  simp only [List.mem_append, List.mem_cons, List.not_mem_nil, Prod.mk.injEq, scL_mem, plL_mem, or_false, false_or]
  constructor
  · rintro ((((((((h | h) | h) | h) | h) | h | h) | h) | h) | h)
    · exact Or.inr (Or.inl h)
    · exact Or.inl ⟨h.1, by omega⟩
    · exact Or.inr (Or.inr (Or.inl h))
    · exact Or.inr (Or.inr (Or.inr (Or.inl ⟨h.1, by omega⟩)))
    · exact Or.inr (Or.inr (Or.inr (Or.inr (Or.inl h))))
    · exact Or.inr (Or.inr (Or.inr (Or.inl ⟨h.1, by omega⟩)))
    · exact Or.inr (Or.inr (Or.inr (Or.inl ⟨h.1, by omega⟩)))
    · exact Or.inr (Or.inr (Or.inr (Or.inr (Or.inr (Or.inl h)))))
    · exact Or.inr (Or.inr (Or.inr (Or.inr (Or.inr (Or.inr (Or.inl h))))))
    · exact Or.inr (Or.inr (Or.inr (Or.inr (Or.inr (Or.inr (Or.inr h))))))
  · rintro (h | h | h | h | h | h | h | h)
    · exact Or.inl (Or.inl (Or.inl (Or.inl (Or.inl (Or.inl (Or.inl (Or.inr ⟨h.1, by omega⟩)))))))
    · exact Or.inl (Or.inl (Or.inl (Or.inl (Or.inl (Or.inl (Or.inl (Or.inl h)))))))
    · exact Or.inl (Or.inl (Or.inl (Or.inl (Or.inl (Or.inl (Or.inr h))))))
    · have h9 : r = 0 ∨ r = 1 ∨ r = 2 := by omega
      rcases h9 with h9 | h9 | h9
      · exact Or.inl (Or.inl (Or.inl (Or.inl (Or.inl (Or.inr ⟨h.1, h9⟩)))))
      · exact Or.inl (Or.inl (Or.inl (Or.inr (Or.inl ⟨h.1, h9⟩))))
      · exact Or.inl (Or.inl (Or.inl (Or.inr (Or.inr ⟨h.1, h9⟩))))
    · exact Or.inl (Or.inl (Or.inl (Or.inl (Or.inr h))))
    · exact Or.inl (Or.inl (Or.inr h))
    · exact Or.inl (Or.inr h)
    · exact Or.inr h
theorem wf.ex {S : PS} {G G' : GT} (h : wf S G) (hx : xt G G' exL) (hm : (5, 0) ∈ gP G) (hf : ∀ c r, exF c r → (c, r) ∉ gP G) : wf (exI S) G' := by
  have h0 : wf S G' := h.gr hx (fun x q => hf x.1 x.2 (by rcases exL_mem.mp q with h | h | h | h | h | h | h | h <;> (try unfold plF at h) <;> unfold exF <;> omega))
  have mm : ∀ c r, (((c = 2 ∨ c = 9) ∧ r < 60) ∨ (c = 10 ∧ r = 0) ∨ (c = 3 ∧ r = 0) ∨ (c = 7 ∧ r < 3) ∨ (c = 0 ∧ r = 0) ∨ (c = 1 ∧ r = 0) ∨ plF c r ∨ (c = 4 ∧ r = 0)) → (c, r) ∈ gP G' := fun c r q => hx.nw (exL_mem.mpr q)
  have m5 := hx.m hm
  have pl : ∀ c r, plF c r → (c, r) ∈ gP G' := fun c r q => mm c r (by simp [q])
  have hpl : ∀ {S : PS}, wf S G' → wf (plI S) G' := fun {S} k0 => by
    have m1 := mm 1 0 (by omega)
    have h1 : wf (plA S) G' := by
      refine wf.fm ?_ (pl 2 78 (by unfold plF; omega)) 0 0 1
      refine wf.uQ (t := 4) ?_ m1 (tgt_f (by decide) rfl) (pl 4 2 (by unfold plF; omega))
      refine wf.uQ (t := 4) ?_ m1 (tgt_f (by decide) rfl) (pl 4 1 (by unfold plF; omega))
      refine wf.uQ (t := 2) ?_ m1 (tgt_f (by decide) rfl) (pl 2 77 (by unfold plF; omega))
      refine wf.sc2 ?_ (pl 2 77 (by unfold plF; omega)) (pl 9 77 (by unfold plF; omega))
      refine wf.uQ (t := 10) ?_ m1 (tgt_f (by decide) rfl) (pl 10 2 (by unfold plF; omega))
      refine wf.uQ (t := 8) ?_ m1 (tgt_f (by decide) rfl) (pl 8 0 (by unfold plF; omega))
      refine wf.uQ (t := 10) ?_ m1 (tgt_f (by decide) rfl) (pl 10 1 (by unfold plF; omega))
      refine wf.uQ (t := 2) ?_ m1 (tgt_f (by decide) rfl) (pl 2 78 (by unfold plF; omega))
      exact k0.sc2 (pl 2 78 (by unfold plF; omega)) (pl 9 78 (by unfold plF; omega))
    exact (h1.lp (a := 60) (pl 10 1 (by unfold plF; omega)) 12 (fun i hi => ⟨pl 2 (60 + i) (by unfold plF; omega), pl 9 (60 + i) (by unfold plF; omega)⟩)).lp (a := 72) (pl 10 2 (by unfold plF; omega)) 5 (fun i hi => ⟨pl 2 (72 + i) (by unfold plF; omega), pl 9 (72 + i) (by unfold plF; omega)⟩)
  refine wf.uQ (t := 4) ?_ m5 (tgt_f (by decide) rfl) (mm 4 0 (by omega))
  refine wf.uQ (t := 1) ?_ m5 (tgt_f (by decide) rfl) (mm 1 0 (by omega))
  refine hpl ?_
  refine wf.uQ (t := 0) ?_ m5 (tgt_f (by decide) rfl) (mm 0 0 (by omega))
  refine wf.uQ (t := 7) ?_ (mm 0 0 (by omega)) (tgt_f (by decide) rfl) (mm 7 2 (by omega))
  refine wf.uQ (t := 7) ?_ (mm 0 0 (by omega)) (tgt_f (by decide) rfl) (mm 7 1 (by omega))
  refine wf.uQ (t := 3) ?_ m5 (tgt_f (by decide) rfl) (mm 3 0 (by omega))
  refine wf.uQ (t := 7) ?_ (mm 3 0 (by omega)) (tgt_f (by decide) rfl) (mm 7 0 (by omega))
  refine wf.lp (a := 0) ?_ (mm 10 0 (by omega)) 60 (fun i hi => ⟨mm 2 (0 + i) (by omega), mm 9 (0 + i) (by omega)⟩)
  exact wf.uQ (t := 10) h0 m5 (tgt_f (by decide) rfl) (mm 10 0 (by omega))
set_option maxRecDepth 20000 in
/-- the two objects, just made, stand side by side -/
theorem RR_0 : RR (exI zS) (emI zS) := by
  refine ⟨0, 0, 0, 1, 0, 0, fun i => 60 + i, fun j => 72 + j, 77, ⟨by decide +kernel, by decide +kernel, by decide +kernel, by decide +kernel, by decide +kernel, by decide +kernel, by decide +kernel, by decide +kernel, by decide +kernel, by decide +kernel, by decide +kernel, by decide +kernel, by decide +kernel, by decide +kernel, by decide +kernel, by decide +kernel⟩, ⟨by decide +kernel, by decide +kernel, by decide +kernel, by decide +kernel, by decide +kernel, by decide +kernel, by decide +kernel, by decide +kernel, by decide +kernel, by decide +kernel⟩, ⟨by decide +kernel, by decide +kernel, by decide⟩, fun i hi => absurd hi (Nat.not_lt_zero i), ⟨by decide +kernel, by decide +kernel, by decide +kernel⟩, ⟨fun i hi => ⟨by dsimp only; omega, by dsimp only; omega⟩, fun i hi => ⟨by dsimp only; omega, by dsimp only; omega⟩, ⟨by decide, by decide⟩, fun i i' _ _ e => by dsimp only at e; omega, fun i i' _ _ e => by dsimp only at e; omega, fun i j _ _ => by dsimp only; omega, fun i _ => by dsimp only; omega, fun j _ => by dsimp only; omega⟩, ⟨by decide +kernel, by decide +kernel, by decide, by decide +kernel, by decide +kernel, by decide, by decide +kernel, by decide +kernel, by decide, by decide +kernel, by decide +kernel, ?_, by decide +kernel⟩, fun i hi => absurd hi (Nat.not_lt_zero i), fun i hi => absurd hi (Nat.not_lt_zero i), ⟨⟨by decide +kernel, by decide +kernel, by decide⟩, fun i hi => absurd hi (Nat.not_lt_zero i), ⟨by decide +kernel, by decide +kernel, by decide⟩, fun i hi => absurd hi (Nat.not_lt_zero i)⟩⟩
  have e0 : sI (exI zS) 2 78 0 = 0 := by decide +kernel
  have e1 : sI (exI zS) 2 78 1 = 0 := by decide +kernel
  have e2 : sI (exI zS) 2 78 2 = 1 := by decide +kernel
  rw [e0, e1, e2]
  unfold shOk jn
  exact ⟨by decide, by decide, by decide, fun x => absurd x (by decide), fun _ => by decide, fun _ _ => by decide⟩
