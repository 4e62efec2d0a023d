/-! at: the class throws, the law catches. -/
def xA1 : List Cond := vx_atS RX5 81 "java/lang/IndexOutOfBoundsException" ["java/lang/RuntimeException", "java/lang/Exception"]
def isDC (w : Cond) : Bool := match w with
  | .declares _ => true
  | .castable _ _ => true
  | _ => false
def xB1 : List Cond := xA1.filter (fun w => !goodWord w)
def xB2 : List Cond := xAt13.filter (fun w => !goodWord w)
theorem xB1_dc : ∀ w ∈ xB1, isDC w = true := by decide +kernel
theorem xB2_dc : ∀ w ∈ xB2, isDC w = true := by decide +kernel
theorem dc_warm {w : Cond} (h : isDC w = true) {s U : State} (hW : s.WarmedH U.vm) (k : va_Nw w s) : va_Nw w U := by
  cases w with
  | declares x => exact k.warmD hW
  | castable a b => exact k.warmC hW
  | _ => exact absurd h (by simp [isDC])
theorem dc_on {w : Cond} (h : isDC w = true) : w.onTables = true := by
  cases w with
  | declares x => rfl
  | castable a b => rfl
  | _ => exact absurd h (by simp [isDC])
/-- what throwing needs of the tables beside words -/
def xK (a0 a1 a2 : Nat) (U : State) : Prop := vk_R RX5 79 "no such score" a0 U ∧ vk_R RX5 86 "the number has nothing" a1 U ∧ vk_R RX5 89 "no such level" a2 U ∧ (∀ w ∈ xB1, va_Nw w U) ∧ (∀ w ∈ xB2, va_Nw w U) ∧ va_Nc "java/util/NoSuchElementException" "java/lang/IndexOutOfBoundsException" U
theorem xK.warm {a0 a1 a2 : Nat} {s U : State} (hW : s.WarmedH U.vm) (h : xK a0 a1 a2 s) : xK a0 a1 a2 U :=
  ⟨h.1.warm hW, h.2.1.warm hW, h.2.2.1.warm hW, fun w hw => dc_warm (xB1_dc w hw) hW (h.2.2.2.1 w hw), fun w hw => dc_warm (xB2_dc w hw) hW (h.2.2.2.2.1 w hw), h.2.2.2.2.2.moved hW.alike⟩
theorem xK.same {a0 a1 a2 : Nat} {s U : State} (hv : U.vm = s.vm) (h : xK a0 a1 a2 s) : xK a0 a1 a2 U :=
  ⟨h.1.same hv, h.2.1.same hv, h.2.2.1.same hv, fun w hw => (h.2.2.2.1 w hw).same (dc_on (xB1_dc w hw)) hv.symm, fun w hw => (h.2.2.2.2.1 w hw).same (dc_on (xB2_dc w hw)) hv.symm, h.2.2.2.2.2.moved (by rw [hv]; exact Vm.Alike.refl _)⟩
def xZ (A : Nat → Prop) (U : State) (H : Heap) : Prop := vx_Zq Bundle.tN "UNASSIGNED_STACK" Bundle.steD A U H ∧ vx_Zq Bundle.tN "SUPPRESSED_SENTINEL" Bundle.listD A U H
theorem xZ.call {A B : Nat → Prop} {s U : State} {H : Heap} {locs : List Loc} (h : xZ A s s.heap) (hS : va_S A s.heap H locs) (hB : ∀ q, B q → A q) (hU : U.heap = H) (hW : s.WarmedH U.vm) : xZ B U U.heap := by
  rw [hU]
  exact ⟨((h.1.kept hS.2.1).narrow hB).moved hW.alike, ((h.2.kept hS.2.1).narrow hB).moved hW.alike⟩
def xPre (G : GT) (S : PS) (a0 a1 a2 sz : Nat) (U : State) : Prop := Wa G S sz U ∧ xK a0 a1 a2 U ∧ xZ (va_A (wl G S) sz) U U.heap
theorem xPre_blind {G : GT} {S : PS} {a0 a1 a2 sz : Nat} {as : List Value} : FrameBlind (va_Pc as (xPre G S a0 a1 a2 sz)) := fun a U g mk q => by
  obtain ⟨q0, ⟨q1, qP, qK, qD⟩, q2, q3⟩ := q
  exact ⟨q0, ⟨q1, qP, va_K.moved (u := U) (U := U.calling g mk a) (Vm.Alike.refl U.vm) qK, qD⟩, xK.same (s := U) (U := U.calling g mk a) rfl q2, vx_Zq.moved (u := U) (Vm.Alike.refl U.vm) q3.1, vx_Zq.moved (u := U) (Vm.Alike.refl U.vm) q3.2⟩
/-- behind a throw: the pool as it was -/
theorem Wd_thr {G : GT} {A : Nat → Prop} {S : PS} {s t : State} {H : Heap} {locs : List Loc} (hK : va_K (gD G) vwCl (gT G) s) (w : Wd G A s.heap S H locs) (hvm : s.vm.Alike t.vm) (hz : H.size ≤ t.heap.size) (hk : ∀ q : Nat, q < H.size → t.heap[q]? = H[q]?) : Wb G A S t ∧ va_F A s t :=
  ⟨⟨w.1.kept (fun k q hq => hk q.1 (w.1 k q hq).lt), va_K.moved hvm hK, w.2.1⟩, Nat.le_trans w.2.2.1 hz, fun q h1 h2 => (hk q (Nat.lt_of_lt_of_le h1 w.2.2.1)).trans (w.2.2.2.1 q h1 h2)⟩

set_option maxHeartbeats 4000000 in
set_option maxRecDepth 100000 in
/-- at -/
theorem c_X5_at (l : Launch) (hlt : l.stackTraces = false) (G : GT) (hX : okX G) (S : PS) (hS : lkX S) (n : Nat) (hn : sI S 5 0 1 = nI n) (hn60 : n ≤ 60)(hsz : ∀ i, i < n → 0 ≤ (sI S 2 i 2).toInt ∧ (sI S 2 i 2).toInt ≤ 12) (i k : Int32) (a0 a1 a2 sz : Nat) : vx_Met l yX5_at wsX5_at (rmG 6 82 1 6) (va_Pc [.ref (gA G 5 0), .int i, .int k] (xPre G S a0 a1 a2 sz)) (va_Ql (fun v (S2 : PS) => (atT n (fun j => sI S 2 j 0) (fun j => sI S 2 j 2) i k) = 0 ∧ v = sJ S 9 (jn i) (jn k) ∧ S2 = S) (Wb G (va_A (wl G S) sz)) (va_A (wl G S) sz)) (vx_X (fun S2 : PS => S2 = S) (fun E S2 t => ((E = "java/lang/IndexOutOfBoundsException" ∧ (atT n (fun j => sI S 2 j 0) (fun j => sI S 2 j 2) i k) = 1) ∨ (E = "java/util/NoSuchElementException" ∧ (atT n (fun j => sI S 2 j 0) (fun j => sI S 2 j 2) i k) = 2)) ∧ Wb G (va_A (wl G S) sz) S2 t) (va_A (wl G S) sz)) 1 6 (va_A (wl G S) sz) := by
  refine vx_ofW (cc := cX5_at) (maxL := 3) (ret := some .long) (by decide +kernel) rfl ?_
  intro p e s m args below meth c s₁ B hml hnt hv
  obtain ⟨rfl, ⟨hsz', hP, hK, hD0⟩, hxK, hxZ⟩ := hv
  have hts := atoms_spec (ws := wsX5_at) B.pre
  have hown : s.vm.findClass RX5 = some m.cls := findClass_of_methodNamed B.named
  subst hsz'
  have hD := hD0.self (sz := s.heap.size)
  have hl0 := lv_entry [.ref (gA G 5 0), .int i, .int k] (n := 3) (Nat.le_of_ble_eq_true rfl)
  rw [lg_entry_eq]
  generalize (lg_sl ([.ref (gA G 5 0), .int i, .int k]) ++ List.replicate (3 - (lg_sl ([.ref (gA G 5 0), .int i, .int k])).length) Slot.unset).toArray = ls at hl0 ⊢
  have hl : lv_has ls 3 [(0, .ref (gA G 5 0)), (1, .int i), (2, .int k)] := hl0
  have C : Cx p s m (([.ref (gA G 5 0), .int i, .int k] : List Value).toArray) meth c cX5_at RX5 wsX5_at 3 G (va_A (wl G S) s.heap.size) := ⟨B.exec, B.bytes, hml, hown, hts, hK, fun q h => Or.inr h⟩
  have w : Wd G (va_A (wl G S) s.heap.size) s.heap S s.heap [] := ⟨hP, hD, va_S.rf⟩
  have hx := C.1
  have hb := C.2.1
  have hat1 : ∀ w ∈ xA1, w.before (([.ref (gA G 5 0), .int i, .int k] : List Value).toArray) s = true := vx_hat (B := xB1) (fun w h => hts w (List.mem_cons_of_mem _ (List.mem_append_left _ (List.mem_append_right _ h)))) (fun w h => h) (fun w h => va_Nw.use (dc_on (xB1_dc w h)) (hxK.2.2.2.1 w h))
  have hat2 : ∀ w ∈ xAt13, w.before (([.ref (gA G 5 0), .int i, .int k] : List Value).toArray) s = true := vx_hat (B := xB2) (fun w h => hts w (List.mem_cons_of_mem _ (List.mem_append_right _ h))) (fun w h => h) (fun w h => va_Nw.use (dc_on (xB2_dc w h)) (hxK.2.2.2.2.1 w h))
  have hi2 : ∀ w ∈ wsX20, w ∈ wsX5_at := by decide +kernel
  have hi5 : ∀ w ∈ wsX50, w ∈ wsX5_at := by decide +kernel
  refine lv_aload_n hx hb dX5_at_0 rfl (lv_at hl 0 rfl) ?_
  refine lv_iload_n hx hb dX5_at_1 rfl (lv_at hl 1 rfl) ?_
  refine cvI (n := 1) C w hl dX5_at_2 (c_X5_isNumber l G hX S n hn hn60 i) gX5_at_X5_isNumber rfl (by decide +kernel) rfl rfl (Nat.le_of_ble_eq_true rfl) ⟨by decide, by decide⟩ (by decide) rfl (oP5 hX) (fun v1 S9 H locs hp w => ?_)
  obtain ⟨q1, e0⟩ := hp
  rw [e0] at w
  refine lv_if_ne (tgt := 18) hx hb dX5_at_5 (by decide) (fun c_5 => ?_) (fun c_5 => ?_)
  · have hin := yes_of q1 c_5
    have hj := jn_lt hin
    refine lv_aload_n hx hb dX5_at_18 rfl (lv_at hl 0 rfl) ?_
    refine pgQ 5 0 10 (by decide) rfl (by decide) rfl rfl C w hi5 (by decide +kernel) dX5_at_19 (oP5 hX) hS.2.2.1 ?_
    refine lv_iload_n hx hb dX5_at_22 rfl (lv_at hl 1 rfl) ?_
    refine paQ C w dX5_at_23 (oP10 hX (by decide)) (n := jn i) (jn_eq hin) (oN100 hX) (by omega) (by decide) (r1 := jn i) (lk10 hS (by omega)) ?_
    refine cvI (n := 0) C w hl dX5_at_24 (c_X2_isNothing l G hX S (jn i) (by omega)) gX5_at_X2_isNothing rfl (by decide +kernel) rfl rfl (Nat.le_of_ble_eq_true rfl) ⟨by decide, by decide⟩ (by decide) rfl (oP2 hX (by omega)) (fun v2 S2 H locs hp w => ?_)
    obtain ⟨q2, e0⟩ := hp
    rw [e0] at w
    replace q2 := of_if q2
    refine lv_if_eq (tgt := 40) hx hb dX5_at_27 (by decide) (fun c_27 => ?_) (fun c_27 => ?_)
    · have hno := no_of q2 c_27
      refine lv_aload_n hx hb dX5_at_40 rfl (lv_at hl 0 rfl) ?_
      refine pgQ 5 0 10 (by decide) rfl (by decide) rfl rfl C w hi5 (by decide +kernel) dX5_at_41 (oP5 hX) hS.2.2.1 ?_
      refine lv_iload_n hx hb dX5_at_44 rfl (lv_at hl 1 rfl) ?_
      refine paQ C w dX5_at_45 (oP10 hX (by decide)) (n := jn i) (jn_eq hin) (oN100 hX) (by omega) (by decide) (r1 := jn i) (lk10 hS (by omega)) ?_
      refine lv_iload_n hx hb dX5_at_46 rfl (lv_at hl 2 rfl) ?_
      refine cvI (n := 1) C w hl dX5_at_47 (c_X2_hasLevel l G hX S (jn i) k (by omega)) gX5_at_X2_hasLevel rfl (by decide +kernel) rfl rfl (Nat.le_of_ble_eq_true rfl) ⟨by decide, by decide⟩ (by decide) rfl (oP2 hX (by omega)) (fun v3 S3 H locs hp w => ?_)
      obtain ⟨q3, e0⟩ := hp
      rw [e0] at w
      replace q3 := hl_of q3
      refine lv_if_ne (tgt := 63) hx hb dX5_at_50 (by decide) (fun c_50 => ?_) (fun c_50 => ?_)
      · have hk := yes_of q3 c_50
        have hT : (atT n (fun j => sI S 2 j 0) (fun j => sI S 2 j 2) i k) = 0 := (if_pos hin).trans ((if_neg hno).trans (if_pos hk))
        have hk12 : jn k < 12 := by have h1 := hk.1; have h2 := hk.2; have h3 := hsz (jn i) hj; unfold jn at *; omega
        refine lv_aload_n hx hb dX5_at_63 rfl (lv_at hl 0 rfl) ?_
        refine pgQ 5 0 10 (by decide) rfl (by decide) rfl rfl C w hi5 (by decide +kernel) dX5_at_64 (oP5 hX) hS.2.2.1 ?_
        refine lv_iload_n hx hb dX5_at_67 rfl (lv_at hl 1 rfl) ?_
        refine paQ C w dX5_at_68 (oP10 hX (by decide)) (n := jn i) (jn_eq hin) (oN100 hX) (by omega) (by decide) (r1 := jn i) (lk10 hS (by omega)) ?_
        refine pgQ 2 3 9 (by decide) rfl (by decide) rfl rfl C w hi2 (by decide +kernel) dX5_at_69 (oP2 hX (by omega)) (lk2 hS (by omega)) ?_
        refine lv_iload_n hx hb dX5_at_72 rfl (lv_at hl 2 rfl) ?_
        refine paJ C w dX5_at_73 (oP9 hX (by omega)) (n := jn k) (jn_eq hk) (oN9 hX (by omega)) hk12 (by decide) rfl ?_
        refine W.widen (k := 1) (n := 6) (by omega) (by omega) ?_
        exact vx_ret (W.lret B.exec B.bytes B.returns (fun t ht hW => ⟨⟨_, S, rfl, ⟨hT, rfl, rfl⟩, by rw [ht]; exact w.1, va_K.moved hW.alike hK, w.2.1⟩, w.2.2.F ht⟩) w.2.2.2.2 dX5_at_74 B.notSynchronized)
      · have hT : (atT n (fun j => sI S 2 j 0) (fun j => sI S 2 j 2) i k) = 1 := (if_pos hin).trans ((if_neg hno).trans (if_neg (no_of q3 (Classical.byContradiction fun y => absurd c_50 y))))
        exact vx_throwS (ik := 77) (is := 89) (ic := 81) (sa := a2) (text := "no such level") (cls := "java/lang/IndexOutOfBoundsException") (names := ["java/lang/RuntimeException", "java/lang/Exception"]) (A := (va_A (wl G S) s.heap.size)) C.1 C.2.1 hlt hown (by decide +kernel) (by decide +kernel) (hts (.classLink RX5 77 "java/lang/IndexOutOfBoundsException") (by decide +kernel)) (hts (.initialized "java/lang/IndexOutOfBoundsException") (by decide +kernel)) hxK.2.2.1 hat1 (by decide +kernel) hxZ.1 hxZ.2 w.2.2 (hl.1.trans C.2.2.1.symm) dX5_at_53 dX5_at_56 dX5_at_57 dX5_at_59 dX5_at_62 (fun x hx => (hnt x hx).elim) (Nat.le_of_ble_eq_true rfl) (Nat.le_of_ble_eq_true rfl) (Nat.le_of_ble_eq_true rfl) (Nat.le_of_ble_eq_true rfl) B.notSynchronized (fun t hvm hz hk => ⟨S, rfl, ⟨Or.inl ⟨rfl, hT⟩, (Wd_thr C.2.2.2.2.2.1 w hvm hz hk).1⟩, (Wd_thr C.2.2.2.2.2.1 w hvm hz hk).2⟩) w.2.2.2.2 (Nat.le_of_ble_eq_true rfl) (Nat.le_of_ble_eq_true rfl)
    · have hT : (atT n (fun j => sI S 2 j 0) (fun j => sI S 2 j 2) i k) = 2 := (if_pos hin).trans (if_pos (yes_of q2 c_27))
      exact vx_throw13 (Y0 := "java/lang/RuntimeException") (ix := 13) (bx := b13) (ik := 84) (is := 86) (ic := 88) (sa := a1) (text := "the number has nothing") (cls := "java/util/NoSuchElementException") (names := ["java/lang/Exception"]) (A := (va_A (wl G S) s.heap.size)) C.1 C.2.1 hlt (by decide +kernel) (by decide +kernel) (by decide +kernel) (by decide +kernel) (by decide +kernel) hown (by decide +kernel) (by decide +kernel) (hts (.classLink RX5 84 "java/util/NoSuchElementException") (by decide +kernel)) (hts (.initialized "java/util/NoSuchElementException") (by decide +kernel)) hxK.2.1 hat2 (by decide +kernel) hxZ.1 hxZ.2 w.2.2 (hl.1.trans C.2.2.1.symm) dX5_at_30 dX5_at_33 dX5_at_34 dX5_at_36 dX5_at_39 (fun x hx => (hnt x hx).elim) (Nat.le_of_ble_eq_true rfl) (Nat.le_of_ble_eq_true rfl) (Nat.le_of_ble_eq_true rfl) (Nat.le_of_ble_eq_true rfl) B.notSynchronized (fun t hvm hz hk => ⟨S, rfl, ⟨Or.inr ⟨rfl, hT⟩, (Wd_thr C.2.2.2.2.2.1 w hvm hz hk).1⟩, (Wd_thr C.2.2.2.2.2.1 w hvm hz hk).2⟩) w.2.2.2.2 (Nat.le_of_ble_eq_true rfl) (Nat.le_of_ble_eq_true rfl)
  · have hT : (atT n (fun j => sI S 2 j 0) (fun j => sI S 2 j 2) i k) = 1 := if_neg (no_of q1 (Classical.byContradiction fun y => absurd c_5 y))
    exact vx_throwS (ik := 77) (is := 79) (ic := 81) (sa := a0) (text := "no such score") (cls := "java/lang/IndexOutOfBoundsException") (names := ["java/lang/RuntimeException", "java/lang/Exception"]) (A := (va_A (wl G S) s.heap.size)) C.1 C.2.1 hlt hown (by decide +kernel) (by decide +kernel) (hts (.classLink RX5 77 "java/lang/IndexOutOfBoundsException") (by decide +kernel)) (hts (.initialized "java/lang/IndexOutOfBoundsException") (by decide +kernel)) hxK.1 hat1 (by decide +kernel) hxZ.1 hxZ.2 w.2.2 (hl.1.trans C.2.2.1.symm) dX5_at_8 dX5_at_11 dX5_at_12 dX5_at_14 dX5_at_17 (fun x hx => (hnt x hx).elim) (Nat.le_of_ble_eq_true rfl) (Nat.le_of_ble_eq_true rfl) (Nat.le_of_ble_eq_true rfl) (Nat.le_of_ble_eq_true rfl) B.notSynchronized (fun t hvm hz hk => ⟨S, rfl, ⟨Or.inl ⟨rfl, hT⟩, (Wd_thr C.2.2.2.2.2.1 w hvm hz hk).1⟩, (Wd_thr C.2.2.2.2.2.1 w hvm hz hk).2⟩) w.2.2.2.2 (Nat.le_of_ble_eq_true rfl) (Nat.le_of_ble_eq_true rfl)
