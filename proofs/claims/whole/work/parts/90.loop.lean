/-! The law's loop. -/
def R_law : String := "LevelScoresLaw"
def lw_P (b : Addr) (xs : List Int32) (args : Array Value) (s : State) : Prop := args = #[.ref b] ∧ s.IntsAt b xs ∧ xs.length ≤ 2560 ∧ (Jvm.Cond.and given_1 narrow_1).before args s = true
def lw_Q (_ : Array Value) (s : State) (o : Outcome) (t : State) : Prop := o = .returned (some (.int 1)) ∧ Framed s o t [] 601024 7293034
def lw_Z (below : List Frame) (a : Array Value) (s : State) : State → Prop := fun t => ∃ o, t.status = .running ∧ Ended t below o ∧ lw_Q a s o t
/-- the law's own end, with 1 on the stack, nothing written that was there before, its room as the claim has it -/
theorem lw_ret {p : Program} {l : Launch} {e : Env} {s : State} {m : MethodId} {below : List Frame} {meth : Method} {c : Code} {b : Nat} (hx : p.tables.exec = Jvm.exec) (hb : c.code = code) (hr : meth.sig.returnType = ret) (hlocks : meth.locks = false) {pc : Nat} {H : Heap} {ls : Array Slot} (hdg : decode code pc = .ok (.ireturn, 1)) : W p l e room_1 s m #[Value.ref b] below meth c H [] 601024 7293034 (lw_Z below #[Value.ref b] s) (F0 m pc ls [.int 1]) := by
  intro T hT X
  obtain ⟨fs, hret, hrun, hended, hW, hframe⟩ := X.leave (v := some (.int 1)) (hlocks := hlocks) (fun h => by rw [hr] at h; cases h)
  have hmeth' : T.vm.method? m = some meth := X.method'
  refine ⟨T.setFrames fs, ?_, .returned (some (.int 1)), hrun, hended, rfl, ⟨_, rfl⟩, hW, hframe⟩
  jvm_step X.here [X.here.top, hx, hb, hdg, hmeth', hr, ret, narrow_b1]
  (try refine ⟨rfl, ?_⟩); (try refine ⟨rfl, ?_⟩)
  first | (intro acts; rw [hret _ acts rfl rfl rfl]) | rw [hret _ _ rfl rfl rfl]
  exact Steps.refl _
/-- what holds at the law's entry: the machine, the code, the tables' words (any of lw_tbl by 'hts w (by decide +kernel)'), the script of L ints xs at the cell b, what the Statement gives of the start (any of its parts by flat_of_before) -/
def lw_At (p : Program) (s : State) (m : MethodId) (meth : Method) (c : Code) (b L : Nat) (xs : Nat → Int32) : Prop :=
  p.tables.exec = Jvm.exec ∧ c.code = code ∧ meth.sig.returnType = ret ∧ c.maxLocals = 8 ∧ s.vm.findClass R_law = some m.cls ∧ (∀ w ∈ lw_tbl, w.before #[Value.ref b] s = true) ∧ va_X b L xs s s.heap ∧ b < s.heap.size ∧ meth.locks = false ∧ (Jvm.Cond.and given_1 narrow_1).before #[Value.ref b] s = true
theorem sw22 (x : Int32) : (∃ n, n < 22 ∧ x = nI n) ∨ (x.toInt < 0 ∨ 21 < x.toInt) := by
  by_cases h1 : x.toInt < 0
  · exact Or.inr (Or.inl h1)
  · by_cases h2 : 21 < x.toInt
    · exact Or.inr (Or.inr h2)
    · exact Or.inl ⟨jn x, by unfold jn; omega, nI_jn (by omega)⟩
theorem nI_s5 {L : Nat} (h : L ≤ 2560) : (Int32.ofNat L - 5).toInt = (L : Int) - 5 := by
  have e : (Int32.ofNat L).toInt = (L : Int) := nI_toInt (by omega)
  rw [Int32.toInt_sub, e, show (5 : Int32).toInt = 5 from rfl, Int.bmod_eq_of_le (by omega) (by omega)]
theorem lw_head {p : Program} {l : Launch} {e : Env} {s : State} {m : MethodId} {below : List Frame} {meth : Method} {c : Code} {G M : GT} {b L : Nat} {xs : Nat → Int32} {k : SK} {a0 a1 a2 : Nat} {S T : PS} {H : Heap} {locs : List Loc} {cells slots i : Nat} {ls : Array Slot} (hr0 : meth.sig.returnType = ret) (hlk : meth.locks = false) (hc : LX p l s m #[Value.ref b] meth c G M (fun q => s.heap.size ≤ q) b L xs k a0 a1 a2) (w : Wd G (fun q => s.heap.size ≤ q) s.heap S H locs) (hl : lv_has ls 8 (LV G M b i)) (hi : i ≤ L) (h1 : cells ≤ 601024) (h2 : slots ≤ 7293034) (K : i + 5 ≤ L → W p l e room_1 s m #[Value.ref b] below meth c H locs cells slots (lw_Z below #[Value.ref b] s) (F0 m 32 ls [])) : W p l e room_1 s m #[Value.ref b] below meth c H locs cells slots (lw_Z below #[Value.ref b] s) (F0 m 23 ls []) := by
  have hx := hc.1.1
  have hb := hc.1.2.1
  have hL := hc.2.2.2.1.2.2.2
  refine lv_iload hx hb dL_law_23 (lv_at hl 4 rfl) ?_
  refine lv_aload_n hx hb dL_law_25 rfl (lv_at hl 0 rfl) ?_
  refine va_slen hx hb hc.2.2.2.1.1 hc.2.2.2.1.2.1 hc.2.2.2.1.2.2.1 w.2.2 dL_law_26 ?_
  refine lv_iconst (v := 5) hx hb dL_law_27 (by decide) ?_
  refine lv_isub hx hb dL_law_28 ?_
  refine lv_icmp_gt (tgt := 878) hx hb dL_law_29 (by decide) (fun c29 => ?_) (fun c29 => ?_)
  · refine lv_iconst (v := 1) hx hb dL_law_878 (by decide) ?_
    refine va_forget w.2.2.2.2 ?_
    refine W.widen (k := 601024) (n := 7293034) h1 h2 ?_
    exact lw_ret hx hb hr0 hlk dL_law_879
  · refine K ?_
    have h9 := mt Int32.lt_iff_toInt_lt.mpr c29
    rw [nI_s5 hL, nI_toInt (by omega)] at h9
    omega
set_option maxHeartbeats 4000000 in
theorem lw_body {p : Program} {l : Launch} {e : Env} {s : State} {m : MethodId} {below : List Frame} {meth : Method} {c : Code} {G M : GT} {b L : Nat} {xs : Nat → Int32} {k : SK} {a0 a1 a2 : Nat} {S T : PS} {H : Heap} {locs : List Loc} {cells slots i : Nat} {ls : Array Slot} (hc : LX p l s m #[Value.ref b] meth c G M (fun q => s.heap.size ≤ q) b L xs k a0 a1 a2) (w : Wd G (fun q => s.heap.size ≤ q) s.heap S H locs) (u : Wd M (fun q => s.heap.size ≤ q) s.heap T H locs) (hr : RR S T) (hl : lv_has ls 8 (LV G M b i)) (hi : i + 5 ≤ L) (h1 : cells + 1 ≤ 601024) (h2 : slots + 6 ≤ 7293034) (K : ∀ (S T : PS) (H : Heap) (locs : List Loc) (ls : Array Slot) (cells' slots' : Nat), cells' ≤ cells + 1 → slots' ≤ slots + 6 → Wd G (fun q => s.heap.size ≤ q) s.heap S H locs → Wd M (fun q => s.heap.size ≤ q) s.heap T H locs → RR S T → lv_has ls 8 (LV G M b (i + 5)) → W p l e room_1 s m #[Value.ref b] below meth c H locs cells' slots' (lw_Z below #[Value.ref b] s) (F0 m 23 ls [])) : W p l e room_1 s m #[Value.ref b] below meth c H locs cells slots (lw_Z below #[Value.ref b] s) (F0 m 32 ls []) := by
  have hx := hc.1.1
  have hb := hc.1.2.1
  have hL := hc.2.2.2.1.2.2.2
  have hf1 : cells + 1 ≤ room_1.cells ∧ slots + 6 ≤ room_1.slots := ⟨h1, h2⟩
  have hf0 : cells ≤ room_1.cells ∧ slots ≤ room_1.slots := ⟨Nat.le_of_succ_le h1, Nat.le_trans (Nat.le_add_right _ _) h2⟩
  refine lv_aload_n hx hb dL_law_32 rfl (lv_at hl 0 rfl) ?_
  refine lv_iload hx hb dL_law_33 (lv_at hl 4 rfl) ?_
  refine va_sld hx hb hc.2.2.2.1.1 hc.2.2.2.1.2.1 hc.2.2.2.1.2.2.1 w.2.2 (vp_in_nI (show i < L by omega) (by omega)) dL_law_35 ?_
  rw [nI_clamp (show i < 2 ^ 31 by omega)]
  refine lv_bipush (v := 31) hx hb dL_law_36 (by decide) ?_
  refine lv_iand hx hb dL_law_38 ?_
  have back : ∀ (S T : PS) (H : Heap) (locs : List Loc) (ls : Array Slot) (cells' slots' : Nat), cells' ≤ cells + 1 → slots' ≤ slots + 6 → Wd G (fun q => s.heap.size ≤ q) s.heap S H locs → Wd M (fun q => s.heap.size ≤ q) s.heap T H locs → RR S T → lv_has ls 8 (LV G M b i) → W p l e room_1 s m #[Value.ref b] below meth c H locs cells' slots' (lw_Z below #[Value.ref b] s) (F0 m 872 ls []) := by
    intro S T H locs ls cells' slots' h1 h2 w u hr hl
    refine lv_iinc (k := 4) (v := nI (i + 5)) hx hb dL_law_872 hl rfl (by rw [show Int32.ofInt 5 = nI 5 from by decide, nI_add]) (by decide) rfl (fun ls hl => ?_)
    refine lv_goto (tgt := 23) hx hb dL_law_875 (by decide) ?_
    exact K S T H locs ls cells' slots' h1 h2 w u hr (lv_sub hl [1, 2, 3, 4, 0] rfl)
  have bk : ∀ (S T : PS) (H : Heap) (locs : List Loc), Wd G (fun q => s.heap.size ≤ q) s.heap S H locs → Wd M (fun q => s.heap.size ≤ q) s.heap T H locs → RR S T → W p l e room_1 s m #[Value.ref b] below meth c H locs cells slots (lw_Z below #[Value.ref b] s) (F0 m 872 ls []) := fun S T H locs w u hr => back S T H locs ls cells slots (Nat.le_add_right _ _) (Nat.le_add_right _ _) w u hr hl
  generalize xs i &&& 31 = x
  rcases sw22 x with ⟨n, hn, hs⟩ | hs
  · match n, hn, hs with
    | 0, _, hs => exact lv_tableIn (tgt := 140) (off := 101) hx hb dL_law_39 (by rw [hs]; decide) (by rw [hs]; decide) (by rw [hs]; rfl) (by decide) (law_make l hc w u hr hl hi hf0 bk)
    | 1, _, hs => exact lv_tableIn (tgt := 189) (off := 150) hx hb dL_law_39 (by rw [hs]; decide) (by rw [hs]; decide) (by rw [hs]; rfl) (by decide) (law_nothing l hc w u hr hl hi hf0 bk)
    | 2, _, hs => exact lv_tableIn (tgt := 202) (off := 163) hx hb dL_law_39 (by rw [hs]; decide) (by rw [hs]; decide) (by rw [hs]; rfl) (by decide) (law_set l hc w u hr hl hi hf0 bk)
    | 3, _, hs => exact lv_tableIn (tgt := 283) (off := 244) hx hb dL_law_39 (by rw [hs]; decide) (by rw [hs]; decide) (by rw [hs]; rfl) (by decide) (law_at l hc w u hr hl hi hf1 (fun S T H locs ls w u hr hl => back S T H locs ls _ _ (Nat.le_refl _) (Nat.le_refl _) w u hr hl))
    | 4, _, hs => exact lv_tableIn (tgt := 350) (off := 311) hx hb dL_law_39 (by rw [hs]; decide) (by rw [hs]; decide) (by rw [hs]; rfl) (by decide) (law_told l hc w u hr hl hi hf0 bk)
    | 5, _, hs => exact lv_tableIn (tgt := 387) (off := 348) hx hb dL_law_39 (by rw [hs]; decide) (by rw [hs]; decide) (by rw [hs]; rfl) (by decide) (law_act l hc w u hr hl hi hf0 bk)
    | 6, _, hs => exact lv_tableIn (tgt := 436) (off := 397) hx hb dL_law_39 (by rw [hs]; decide) (by rw [hs]; decide) (by rw [hs]; rfl) (by decide) (law_times l hc w u hr hl hi hf0 bk)
    | 7, _, hs => exact lv_tableIn (tgt := 485) (off := 446) hx hb dL_law_39 (by rw [hs]; decide) (by rw [hs]; decide) (by rw [hs]; rfl) (by decide) (law_order l hc w u hr hl hi hf0 bk)
    | 8, _, hs => exact lv_tableIn (tgt := 522) (off := 483) hx hb dL_law_39 (by rw [hs]; decide) (by rw [hs]; decide) (by rw [hs]; rfl) (by decide) (law_put l hc w u hr hl hi hf0 bk)
    | 9, _, hs => exact lv_tableIn (tgt := 547) (off := 508) hx hb dL_law_39 (by rw [hs]; decide) (by rw [hs]; decide) (by rw [hs]; rfl) (by decide) (law_read l hc w u hr hl hi hf0 bk)
    | 10, _, hs => exact lv_tableIn (tgt := 560) (off := 521) hx hb dL_law_39 (by rw [hs]; decide) (by rw [hs]; decide) (by rw [hs]; rfl) (by decide) (law_print l hc w u hr hl hi hf0 bk)
    | 11, _, hs => exact lv_tableIn (tgt := 585) (off := 546) hx hb dL_law_39 (by rw [hs]; decide) (by rw [hs]; decide) (by rw [hs]; rfl) (by decide) (law_out l hc w u hr hl hi hf0 bk)
    | 12, _, hs => exact lv_tableIn (tgt := 610) (off := 571) hx hb dL_law_39 (by rw [hs]; decide) (by rw [hs]; decide) (by rw [hs]; rfl) (by decide) (law_plan l hc w u hr hl hi hf0 bk)
    | 13, _, hs => exact lv_tableIn (tgt := 635) (off := 596) hx hb dL_law_39 (by rw [hs]; decide) (by rw [hs]; decide) (by rw [hs]; rfl) (by decide) (law_rule l hc w u hr hl hi hf0 bk)
    | 14, _, hs => exact lv_tableIn (tgt := 660) (off := 621) hx hb dL_law_39 (by rw [hs]; decide) (by rw [hs]; decide) (by rw [hs]; rfl) (by decide) (law_count l hc w u hr hl hi hf0 bk)
    | 15, _, hs => exact lv_tableIn (tgt := 697) (off := 658) hx hb dL_law_39 (by rw [hs]; decide) (by rw [hs]; decide) (by rw [hs]; rfl) (by decide) (law_weight l hc w u hr hl hi hf0 bk)
    | 16, _, hs => exact lv_tableIn (tgt := 734) (off := 695) hx hb dL_law_39 (by rw [hs]; decide) (by rw [hs]; decide) (by rw [hs]; rfl) (by decide) (law_total l hc w u hr hl hi hf0 bk)
    | 17, _, hs => exact lv_tableIn (tgt := 759) (off := 720) hx hb dL_law_39 (by rw [hs]; decide) (by rw [hs]; decide) (by rw [hs]; rfl) (by decide) (law_safe l hc w u hr hl hi hf0 bk)
    | 18, _, hs => exact lv_tableIn (tgt := 784) (off := 745) hx hb dL_law_39 (by rw [hs]; decide) (by rw [hs]; decide) (by rw [hs]; rfl) (by decide) (law_keep l hc w u hr hl hi hf0 bk)
    | 19, _, hs => exact lv_tableIn (tgt := 809) (off := 770) hx hb dL_law_39 (by rw [hs]; decide) (by rw [hs]; decide) (by rw [hs]; rfl) (by decide) (law_kept l hc w u hr hl hi hf0 bk)
    | 20, _, hs => exact lv_tableIn (tgt := 834) (off := 795) hx hb dL_law_39 (by rw [hs]; decide) (by rw [hs]; decide) (by rw [hs]; rfl) (by decide) (law_many l hc w u hr hl hi hf0 bk)
    | 21, _, hs => exact lv_tableIn (tgt := 859) (off := 820) hx hb dL_law_39 (by rw [hs]; decide) (by rw [hs]; decide) (by rw [hs]; rfl) (by decide) (law_drop l hc w u hr hl hi hf0 bk)
    | n + 22, hn, _ => exact absurd hn (by omega)
  · exact lv_tableOut (tgt := 872) hx hb dL_law_39 hs (by decide) (bk S T H locs w u hr)
theorem lw_loop {p : Program} {l : Launch} {e : Env} {s : State} {m : MethodId} {below : List Frame} {meth : Method} {c : Code} {G M : GT} {b L : Nat} {xs : Nat → Int32} {k : SK} {a0 a1 a2 : Nat} (hr0 : meth.sig.returnType = ret) (hlk : meth.locks = false) (hc : LX p l s m #[Value.ref b] meth c G M (fun q => s.heap.size ≤ q) b L xs k a0 a1 a2) : ∀ (f i : Nat) (S T : PS) (H : Heap) (locs : List Loc) (ls : Array Slot) (cells slots : Nat), L ≤ i + 5 * f + 4 → i ≤ L → cells + f ≤ 601024 → slots + 6 * f ≤ 7293034 → Wd G (fun q => s.heap.size ≤ q) s.heap S H locs → Wd M (fun q => s.heap.size ≤ q) s.heap T H locs → RR S T → lv_has ls 8 (LV G M b i) → W p l e room_1 s m #[Value.ref b] below meth c H locs cells slots (lw_Z below #[Value.ref b] s) (F0 m 23 ls []) := by
  intro f
  induction f with
  | zero => exact fun i S T H locs ls cells slots q1 q2 q3 q4 w u hr hl => lw_head (S := S) (T := T) hr0 hlk hc w hl q2 (by omega) (by omega) (fun q => absurd q (by omega))
  | succ f ih => exact fun i S T H locs ls cells slots q1 q2 q3 q4 w u hr hl => lw_head (S := S) (T := T) hr0 hlk hc w hl q2 (by omega) (by omega) (fun q => lw_body hc w u hr hl q (by omega) (by omega) (fun S T H locs ls cells' slots' z1 z2 w u hr hl => ih (i + 5) S T H locs ls cells' slots' (by omega) q (by omega) (by omega) w u hr hl))
