theorem pairP {S : PS} {a : Nat} (hps : ¬ sI S 6 0 5 = -1) : (sI S 8 0 a = -1 → pairF (sI S 8 0 a) (sI S 8 1 a) (sI S 8 2 a) (sI S 6 0 5) (sI S 6 0 6) (sI S 6 0 7) = -11) ∧ (¬ sI S 8 0 a = -1 → (sI S 8 0 a = sI S 6 0 5 ∧ sI S 8 1 a = sI S 6 0 6 ∧ sI S 8 2 a = sI S 6 0 7) → pairF (sI S 8 0 a) (sI S 8 1 a) (sI S 8 2 a) (sI S 6 0 5) (sI S 6 0 6) (sI S 6 0 7) = 0) ∧ (¬ sI S 8 0 a = -1 → ¬ (sI S 8 0 a = sI S 6 0 5 ∧ sI S 8 1 a = sI S 6 0 6 ∧ sI S 8 2 a = sI S 6 0 7) → pairF (sI S 8 0 a) (sI S 8 1 a) (sI S 8 2 a) (sI S 6 0 5) (sI S 6 0 6) (sI S 6 0 7) = -12) := by
  unfold pairF
  refine ⟨fun h => if_pos (Or.inl h), fun h1 h2 => ?_, fun h1 h2 => ?_⟩
  · rw [if_neg (fun q => q.elim h1 hps), if_pos h2]
  · rw [if_neg (fun q => q.elim h1 hps), if_neg h2]
theorem in_m1 {k : Int32} {n : Nat} (h : n < 2 ^ 30) : ((-1 : Int64) ≤ k.toInt64 ∧ k.toInt64 ≤ (nI n - 1).toInt64) ↔ (k = -1 ∨ inN k n) := by
  have e1 : (nI n - 1).toInt = (n : Int) - 1 := pk_sub_toInt (b := 1) h (by decide)
  rw [Int64.le_iff_toInt_le, Int64.le_iff_toInt_le, Int32.toInt_toInt64, Int32.toInt_toInt64, show (-1 : Int64).toInt = -1 from rfl, e1, ← Int32.toInt_inj, show (-1 : Int32).toInt = -1 from rfl]
  unfold inN
  omega
def sumC (W : Nat → Int64) (C : Nat → Int32) (i : Int32) : Nat → Int
  | 0 => 0
  | n + 1 => sumC W C i n + (if i = -1 ∨ i = nI n then (W n).toInt * (C n).toInt else 0)
theorem sumC_m1 {W : Nat → Int64} {C : Nat → Int32} {i : Int32} (h : i = -1) : ∀ n, sumC W C i n = sumV W C n := by
  intro n
  induction n with
  | zero => rfl
  | succ n ih => unfold sumC sumV; rw [ih, if_pos (Or.inl h)]
theorem sumC_j {W : Nat → Int64} {C : Nat → Int32} {j : Nat} (hj : j < 12) : ∀ n, n ≤ 12 → sumC W C (nI j) n = if j < n then (W j).toInt * (C j).toInt else 0 := by
  have hne : ¬ nI j = -1 := fun q => by
    have := congrArg Int32.toInt q
    rw [nI_toInt (by omega), show (-1 : Int32).toInt = -1 from rfl] at this
    omega
  intro n
  induction n with
  | zero => intro _; rfl
  | succ n ih =>
    intro hn
    unfold sumC
    rw [ih (by omega)]
    by_cases h : j = n
    · subst h; rw [if_neg (Nat.lt_irrefl _), if_pos (Or.inr rfl), if_pos (by omega)]; omega
    · rw [if_neg (c := nI j = -1 ∨ nI j = nI n) (fun q => q.elim hne (fun x => h ((nI_eq (by omega) (by omega)).mp x)))]
      by_cases h2 : j < n
      · rw [if_pos h2, if_pos (by omega)]; omega
      · rw [if_neg h2, if_neg (by omega)]; omega

set_option maxHeartbeats 4000000 in
set_option maxRecDepth 100000 in
/-- rule -/
theorem c_X6_rule (l : Launch) (G : GT) (hM : okM G) (S : PS) (n : Nat) (hn : sI S 6 0 0 = nI n) (hn60 : n ≤ 60) (nr z : Nat) (hpl : plM S nr z)(hps : ¬ sI S 6 0 5 = -1) (a : Int32) : CtI l G yX6_rule wsX6_rule (rmK 2 46) [.ref (gA G 6 0), .int a] S (fun v S2 => spRule n nr (sI S 8 0) (sI S 8 1) (sI S 8 2) (sI S 6 0 5) (sI S 6 0 6) (sI S 6 0 7) a v (S2 = S) (S2 = uI (uI (rko S 1 (12 * nr) (fun k => sJ S 9 0 (12 * jn a + k)) (sJ S 9 1) 12) 8 3 nr 0) 6 0 8 (nI (nr + 1)))) := by
  refine ofCtI (cc := cX6_rule) (nL := 3) RX6 (by decide +kernel) rfl rfl (Nat.le_of_ble_eq_true rfl) ?_
  intro p e s m args below meth c A Q ls C w hl hret
  have hx := C.1
  have hb := C.2.1
  have hown := C.2.2.2.1
  have hts := C.2.2.2.2.1
  have hi6 : ∀ w ∈ wsX60, w ∈ wsX6_rule := by decide +kernel
  have h12 := hpl.n12
  refine lv_aload_n hx hb dX6_rule_0 rfl (lv_at hl 0 rfl) ?_
  refine lv_iload_n hx hb dX6_rule_1 rfl (lv_at hl 1 rfl) ?_
  refine cvI (n := 1) C w hl dX6_rule_2 (c_X6_isNumber l G hM S n hn hn60 a) gX6_rule_X6_isNumber rfl (by decide +kernel) rfl rfl (Nat.le_of_ble_eq_true rfl) ⟨by decide, by decide⟩ (by decide) rfl (oM6 hM) (fun v1 S9 H locs hp w => ?_)
  obtain ⟨q1, e0⟩ := hp
  rw [e0] at w
  refine lv_if_ne (tgt := 11) hx hb dX6_rule_5 (by decide) (fun c_5 => ?_) (fun c_5 => ?_)
  · have ha := yes_of q1 c_5
    have hja := jn_lt ha
    have hqa : a = nI (jn a) := jn_eq ha
    have hpp := pairP (a := jn a) hps
    refine lv_aload_n hx hb dX6_rule_11 rfl (lv_at hl 0 rfl) ?_
    refine pgI 6 8 (by decide) rfl (by decide) (Or.inl rfl) rfl C w hi6 (by decide +kernel) dX6_rule_12 (oM6 hM) (v := nI nr) hpl.n ?_
    refine lv_bipush (v := 12) hx hb dX6_rule_15 (by decide) ?_
    refine lv_icmp_ne (tgt := 23) hx hb dX6_rule_17 (by decide) (fun c_17 => ?_) (fun c_17 => ?_)
    · have hf : ¬ nr = 12 := fun q => c_17 (by rw [q]; rfl)
      refine lv_aload_n hx hb dX6_rule_23 rfl (lv_at hl 0 rfl) ?_
      refine lv_iload_n hx hb dX6_rule_24 rfl (lv_at hl 1 rfl) ?_
      refine lv_rep hqa ?_
      refine cvI (n := 1) C w hl dX6_rule_25 (c_X6_isNothing l G hM S hpl.lk (jn a) (by omega)) gX6_rule_X6_isNothing rfl (by decide +kernel) rfl rfl (Nat.le_of_ble_eq_true rfl) ⟨by decide, by decide⟩ (by decide) rfl (oM6 hM) (fun v2 S2 H locs hp w => ?_)
      obtain ⟨q2, e0⟩ := hp
      rw [e0] at w
      refine lv_if_eq (tgt := 34) hx hb dX6_rule_28 (by decide) (fun c_28 => ?_) (fun c_28 => ?_)
      · refine lv_aload_n hx hb dX6_rule_34 rfl (lv_at hl 0 rfl) ?_
        refine lv_iload_n hx hb dX6_rule_35 rfl (lv_at hl 1 rfl) ?_
        refine lv_rep hqa ?_
        refine cvI (n := 1) C w hl dX6_rule_36 (c_X6_isLikePlan l G hM S hpl.lk (jn a) (by omega)) gX6_rule_X6_isLikePlan rfl (by decide +kernel) rfl rfl (Nat.le_of_ble_eq_true rfl) ⟨by decide, by decide⟩ (by decide) rfl (oM6 hM) (fun v3 S3 H locs hp w => ?_)
        obtain ⟨q3, e0⟩ := hp
        rw [e0] at w
        refine lv_if_ne (tgt := 45) hx hb dX6_rule_39 (by decide) (fun c_39 => ?_) (fun c_39 => ?_)
        · refine lv_iconst (v := 0) hx hb dX6_rule_45 (by decide) ?_
          refine lv_istore_n hx hb dX6_rule_46 rfl hl (by decide) rfl (fun ls hl => ?_)
          have loop_47 : ∀ (n2 : Nat) (k : Nat) (H : Heap) (locs : List Loc) (ls : Array Slot), k + n2 = 12 → Wd G A s.heap (rko S 1 (12 * nr) (fun k => sJ S 9 0 (12 * jn a + k)) (sJ S 9 1) k) H locs → lv_has ls 3 [(0, .ref (gA G 6 0)), (1, .int a), (2, .int (nI k))] → W p l e (rmK 2 46) s m args below meth c H locs 0 0 Q (F0 m 47 ls []) := by
            intro n2
            induction n2 with
            | zero =>
              intro k H locs ls hk w hl
              refine lv_iload_n hx hb dX6_rule_47 rfl (lv_at hl 2 rfl) ?_
              refine lv_bipush (v := 12) hx hb dX6_rule_48 (by decide) ?_
              refine lv_icmp_ge (tgt := 84) hx hb dX6_rule_50 (by decide) (fun c_50 => ?_) (fun c_50 => absurd (nI_le (a := 12) (by omega) (by omega)) c_50)
              have e : k = 12 := by omega
              subst e
              refine lv_aload_n hx hb dX6_rule_84 rfl (lv_at hl 0 rfl) ?_
              refine pgQ 6 10 8 (by decide) rfl (by decide) rfl rfl C w hi6 (by decide +kernel) dX6_rule_85 (oM6 hM) (hpl.lk.2.2.2.2.2.1) ?_
              refine lv_aload_n hx hb dX6_rule_88 rfl (lv_at hl 0 rfl) ?_
              refine pgI 6 8 (by decide) rfl (by decide) (Or.inl rfl) rfl C w hi6 (by decide +kernel) dX6_rule_89 (oM6 hM) (v := nI nr) hpl.n ?_
              refine lv_iconst (v := 0) hx hb dX6_rule_92 (by decide) ?_
              refine psI C w dX6_rule_93 (oM8 hM (by decide)) rfl (nM83 hM) (by omega) (by decide) (fun H locs w => ?_)
              refine lv_aload_n hx hb dX6_rule_94 rfl (lv_at hl 0 rfl) ?_
              refine lv_dup hx hb dX6_rule_95 rfl ?_
              refine pgI 6 8 (by decide) rfl (by decide) (Or.inl rfl) rfl C w hi6 (by decide +kernel) dX6_rule_96 (oM6 hM) (v := nI nr) (by rw [sI_uI, if_neg (by simp)]; exact hpl.n) ?_
              refine lv_iconst (v := 1) hx hb dX6_rule_99 (by decide) ?_
              refine lv_iadd hx hb dX6_rule_100 ?_
              refine ppI 6 8 (by decide) rfl (by decide) rfl rfl tyX6_ok nmX6 rfl (by decide +kernel) C w hi6 (by decide +kernel) dX6_rule_101 (oM6 hM) (fun H locs w => ?_)
              rw [nI_1] at w
              refine lv_aload_n hx hb dX6_rule_104 rfl (lv_at hl 0 rfl) ?_
              refine pgI 6 8 (by decide) rfl (by decide) (Or.inl rfl) rfl C w hi6 (by decide +kernel) dX6_rule_105 (oM6 hM) (v := nI (nr + 1)) (by rw [sI_uI, if_pos ⟨rfl, rfl, rfl⟩]) ?_
              refine lv_iconst (v := 1) hx hb dX6_rule_108 (by decide) ?_
              refine lv_isub hx hb dX6_rule_109 ?_
              exact hret _ _ _ _ _ _ dX6_rule_110 w (by unfold spRule; rw [if_pos ha, if_neg hf, hpp.2.1 (no_of q2 c_28) (yes_of q3 c_39), if_pos rfl]; exact ⟨nI_pred nr, rfl⟩)
            | succ n2 ih =>
              intro k H locs ls hk w hl
              refine lv_iload_n hx hb dX6_rule_47 rfl (lv_at hl 2 rfl) ?_
              refine lv_bipush (v := 12) hx hb dX6_rule_48 (by decide) ?_
              refine lv_icmp_ge (tgt := 84) hx hb dX6_rule_50 (by decide) (fun c_50 => absurd c_50 (nI_ge (b := 12) (by omega) (by omega))) (fun c_50 => ?_)
              refine lv_aload_n hx hb dX6_rule_53 rfl (lv_at hl 0 rfl) ?_
              refine pgQ 6 9 9 (by decide) rfl (by decide) rfl rfl C w hi6 (by decide +kernel) dX6_rule_54 (oM6 hM) (hpl.lk.2.2.2.2.1) ?_
              refine lv_bipush (v := 12) hx hb dX6_rule_57 (by decide) ?_
              refine lv_aload_n hx hb dX6_rule_59 rfl (lv_at hl 0 rfl) ?_
              refine pgI 6 8 (by decide) rfl (by decide) (Or.inl rfl) rfl C w hi6 (by decide +kernel) dX6_rule_60 (oM6 hM) (v := nI nr) hpl.n ?_
              refine lv_imul hx hb dX6_rule_63 ?_
              refine lv_iload_n hx hb dX6_rule_64 rfl (lv_at hl 2 rfl) ?_
              refine lv_iadd hx hb dX6_rule_65 ?_
              refine lv_aload_n hx hb dX6_rule_66 rfl (lv_at hl 0 rfl) ?_
              refine pgQ 6 4 9 (by decide) rfl (by decide) rfl rfl C w hi6 (by decide +kernel) dX6_rule_67 (oM6 hM) (hpl.lk.2.2.2.1) ?_
              refine lv_bipush (v := 12) hx hb dX6_rule_70 (by decide) ?_
              refine lv_iload_n hx hb dX6_rule_72 rfl (lv_at hl 1 rfl) ?_
              refine lv_rep hqa ?_
              refine lv_imul hx hb dX6_rule_73 ?_
              refine lv_iload_n hx hb dX6_rule_74 rfl (lv_at hl 2 rfl) ?_
              refine lv_iadd hx hb dX6_rule_75 ?_
              refine paJ C w dX6_rule_76 (oM9 hM (by decide)) (n := 12 * jn a + k) (ix12 _ _) (nM90 hM) (by omega) (by decide) (v := sJ S 9 0 (12 * jn a + k)) (sJ_rko_n (by simp)) ?_
              refine psJ C w dX6_rule_77 (oM9 hM (by decide)) (n := 12 * nr + k) (ix12 _ _) (nM91 hM) (by omega) (by decide) (fun H locs w => ?_)
              refine lv_iinc (v := nI (k + 1)) hx hb dX6_rule_78 hl (k := 2) rfl (nI_1 k) (by decide) rfl (fun ls hl => ?_)
              refine lv_goto (tgt := 47) hx hb dX6_rule_81 (by decide) ?_
              rw [rko_s rfl] at w
              exact ih (k + 1) _ _ _ (by omega) w (lv_sub hl [1, 2, 0] rfl)
          exact loop_47 12 0 _ _ _ (by omega) (by rw [rko_0 (fun _ => rfl)]; exact w) (lv_sub hl [1, 2, 0] rfl)
        · refine lv_bipush (v := (-12)) hx hb dX6_rule_42 (by decide) ?_
          exact hret _ _ _ _ _ _ dX6_rule_44 w (by unfold spRule; rw [if_pos ha, if_neg hf, hpp.2.2 (no_of q2 c_28) (no_of q3 c_39), if_neg (by decide)]; exact ⟨rfl, rfl⟩)
      · refine lv_bipush (v := (-11)) hx hb dX6_rule_31 (by decide) ?_
        exact hret _ _ _ _ _ _ dX6_rule_33 w (by unfold spRule; rw [if_pos ha, if_neg hf, hpp.1 (yes_of q2 c_28), if_neg (by decide)]; exact ⟨rfl, rfl⟩)
    · have hf : nr = 12 := (nI_eq (b := 12) (by omega) (by decide)).mp c_17
      refine lv_bipush (v := (-4)) hx hb dX6_rule_20 (by decide) ?_
      exact hret _ _ _ _ _ _ dX6_rule_22 w (by unfold spRule; rw [if_pos ha, if_pos hf]; exact ⟨rfl, rfl⟩)
  · refine lv_bipush (v := (-2)) hx hb dX6_rule_8 (by decide) ?_
    exact hret _ _ _ _ _ _ dX6_rule_10 w (by unfold spRule; rw [if_neg (no_of q1 c_5)]; exact ⟨rfl, rfl⟩)

theorem uJ_rw9_sw (S : PS) (w : Nat → Int64) (k : Nat) (v : Int64) : uJ (rw9 S 1 w) 9 3 k v = rw9 (uJ S 9 3 k v) 1 w := by
  refine PS_ext (fun _ _ _ => rfl) (fun c' r' k' => ?_) (fun _ _ _ => rfl)
  rw [sJ_uJ, sJ_rw9, sJ_rw9, sJ_uJ]
  by_cases h : c' = 9 ∧ r' = 1
  · rw [if_neg (fun q => absurd (q.2.1.symm.trans h.2) (by decide)), if_pos h, if_pos h]
  · rw [if_neg h, if_neg h]
/-- weights of rule r, had of them, the first k -/
def wsw (S : PS) (r a k : Nat) : PS := rko (rko S 3 0 (fun j => sJ S 9 1 (12 * r + j)) (sJ S 9 3) k) 1 (12 * r) (fun j => sJ S 9 0 (12 * a + j)) (sJ S 9 1) k
theorem wsw_s {S : PS} {r a k : Nat} {v v' : Int64} (hv : v = sJ S 9 1 (12 * r + k)) (hv' : v' = sJ S 9 0 (12 * a + k)) : uJ (uJ (wsw S r a k) 9 3 k v) 9 1 (12 * r + k) v' = wsw S r a (k + 1) := by
  unfold wsw
  have e1 : uJ (rko (rko S 3 0 (fun j => sJ S 9 1 (12 * r + j)) (sJ S 9 3) k) 1 (12 * r) (fun j => sJ S 9 0 (12 * a + j)) (sJ S 9 1) k) 9 3 k v = rko (rko S 3 0 (fun j => sJ S 9 1 (12 * r + j)) (sJ S 9 3) (k + 1)) 1 (12 * r) (fun j => sJ S 9 0 (12 * a + j)) (sJ S 9 1) k := by
    have e2 := rko_s (S := S) (r := 3) (b := 0) (g := fun j => sJ S 9 1 (12 * r + j)) (o := sJ S 9 3) (k := k) hv
    rw [Nat.zero_add] at e2
    rw [← e2]
    exact uJ_rw9_sw _ _ _ _
  rw [e1]
  exact rko_s hv'
theorem wsw_0 (S : PS) (r a : Nat) : wsw S r a 0 = S := by
  unfold wsw
  rw [rko_0 (S := S) (fun _ => rfl), rko_0 (S := S) (fun _ => rfl)]
theorem wsw_M (S : PS) (r a n : Nat) : eqM (rko S 1 (12 * r) (fun j => sJ S 9 0 (12 * a + j)) (sJ S 9 1) 12) (wsw S r a 12) n := by
  refine ⟨rfl, fun _ _ _ _ => rfl, fun c r' k q => ?_⟩
  by_cases h : c = 9 ∧ r' = 1
  · obtain ⟨rfl, rfl⟩ := h
    unfold wsw rko; rw [sJ_rw9_s, sJ_rw9_s]
  · unfold wsw
    rw [sJ_rko_n h, sJ_rko_n (fun x => q (Or.inr (Or.inl x))), sJ_rko_n h]
theorem wsw_w (S : PS) (r a i k : Nat) : sJ (wsw S r a 12) 9 1 k = sJ (rko S 1 (12 * r) (fun j => sJ S 9 0 (12 * a + j)) (sJ S 9 1) 12) 9 1 k := by
  unfold wsw rko; rw [sJ_rw9_s, sJ_rw9_s]
theorem plM.ws {S : PS} {nr z : Nat} (h : plM S nr z) (r a k : Nat) : plM (wsw S r a k) nr z := ⟨lkM_of h.1 rfl, h.2⟩
theorem fitM_ws (S : PS) (r a nr z : Nat) : fitM (wsw S r a 12) nr z = fitM (rko S 1 (12 * r) (fun j => sJ S 9 0 (12 * a + j)) (sJ S 9 1) 12) nr z := by
  unfold fitM fitW
  have : ∀ k, (fun i => sJ (wsw S r a 12) 9 1 (12 * i + k)) = fun i => sJ (rko S 1 (12 * r) (fun j => sJ S 9 0 (12 * a + j)) (sJ S 9 1) 12) 9 1 (12 * i + k) := fun k => funext fun i => wsw_w S r a i _
  simp only [this]
  rfl

set_option maxHeartbeats 4000000 in
set_option maxRecDepth 100000 in
/-- weight -/
theorem c_X6_weight (l : Launch) (G : GT) (hM : okM G) (S : PS) (n : Nat) (hn : sI S 6 0 0 = nI n) (hn60 : n ≤ 60) (nr z : Nat) (hpl : plM S nr z)(hps : ¬ sI S 6 0 5 = -1) (i a : Int32) : CtI l G yX6_weight wsX6_weight (rmK 3 69) [.ref (gA G 6 0), .int i, .int a] S (fun v S2 => spWeight n nr (sI S 8 0) (sI S 8 1) (sI S 8 2) (sI S 6 0 5) (sI S 6 0 6) (sI S 6 0 7) (fitM (rko S 1 (12 * jn i) (fun k => sJ S 9 0 (12 * jn a + k)) (sJ S 9 1) 12) nr z) i a v (eqM S S2 n) (eqM (rko S 1 (12 * jn i) (fun k => sJ S 9 0 (12 * jn a + k)) (sJ S 9 1) 12) S2 n)) := by
  refine ofCtI (cc := cX6_weight) (nL := 4) RX6 (by decide +kernel) rfl rfl (Nat.le_of_ble_eq_true rfl) ?_
  intro p e s m args below meth c A Q ls C w hl hret
  have hx := C.1
  have hb := C.2.1
  have hown := C.2.2.2.1
  have hts := C.2.2.2.2.1
  have hi6 : ∀ w ∈ wsX60, w ∈ wsX6_weight := by decide +kernel
  have h12 := hpl.n12
  refine lv_iload_n hx hb dX6_weight_0 rfl (lv_at hl 1 rfl) ?_
  refine lv_i2l hx hb dX6_weight_1 rfl ?_
  refine lv_lconst (v := 0) hx hb dX6_weight_2 (by decide) ?_
  refine lv_aload_n hx hb dX6_weight_3 rfl (lv_at hl 0 rfl) ?_
  refine pgI 6 8 (by decide) rfl (by decide) (Or.inl rfl) rfl C w hi6 (by decide +kernel) dX6_weight_4 (oM6 hM) (v := nI nr) hpl.n ?_
  refine lv_iconst (v := 1) hx hb dX6_weight_7 (by decide) ?_
  refine lv_isub hx hb dX6_weight_8 ?_
  refine lv_i2l hx hb dX6_weight_9 rfl ?_
  refine csI (n := 3) C w hl dX6_weight_10 (c_X6_in l G S _ _ _) gX6_weight_X6_in rfl (by decide +kernel) rfl rfl (Nat.le_of_ble_eq_true rfl) ⟨by decide, by decide⟩ (fun v7 S7 H locs hp w => ?_)
  obtain ⟨q1, e0⟩ := hp
  rw [e0] at w
  replace q1 := imp_of (in_n (by omega)) q1
  refine lv_if_eq (tgt := 24) hx hb dX6_weight_13 (by decide) (fun c_13 => ?_) (fun c_13 => ?_)
  · refine lv_bipush (v := (-2)) hx hb dX6_weight_24 (by decide) ?_
    exact hret _ _ _ _ _ _ dX6_weight_26 w (by unfold spWeight; rw [if_neg (fun q => by first | exact no_of q1 c_13 q.1 | exact no_of q4 c_21 q.2)]; exact ⟨rfl, eqM.rf S n⟩)
  · refine lv_aload_n hx hb dX6_weight_16 rfl (lv_at hl 0 rfl) ?_
    refine lv_iload_n hx hb dX6_weight_17 rfl (lv_at hl 2 rfl) ?_
    refine cvI (n := 1) C w hl dX6_weight_18 (c_X6_isNumber l G hM S n hn hn60 a) gX6_weight_X6_isNumber rfl (by decide +kernel) rfl rfl (Nat.le_of_ble_eq_true rfl) ⟨by decide, by decide⟩ (by decide) rfl (oM6 hM) (fun v4 S9 H locs hp w => ?_)
    obtain ⟨q4, e0⟩ := hp
    rw [e0] at w
    refine lv_if_ne (tgt := 27) hx hb dX6_weight_21 (by decide) (fun c_21 => ?_) (fun c_21 => ?_)
    · have hi := yes_of q1 c_13
      have hji := jn_lt hi
      have hqi : i = nI (jn i) := jn_eq hi
      have ha := yes_of q4 c_21
      have hja := jn_lt ha
      have hqa : a = nI (jn a) := jn_eq ha
      have hpp := pairP (a := jn a) hps
      refine lv_aload_n hx hb dX6_weight_27 rfl (lv_at hl 0 rfl) ?_
      refine lv_iload_n hx hb dX6_weight_28 rfl (lv_at hl 2 rfl) ?_
      refine lv_rep hqa ?_
      refine cvI (n := 1) C w hl dX6_weight_29 (c_X6_isNothing l G hM S hpl.lk (jn a) (by omega)) gX6_weight_X6_isNothing rfl (by decide +kernel) rfl rfl (Nat.le_of_ble_eq_true rfl) ⟨by decide, by decide⟩ (by decide) rfl (oM6 hM) (fun v2 S2 H locs hp w => ?_)
      obtain ⟨q2, e0⟩ := hp
      rw [e0] at w
      refine lv_if_eq (tgt := 38) hx hb dX6_weight_32 (by decide) (fun c_32 => ?_) (fun c_32 => ?_)
      · refine lv_aload_n hx hb dX6_weight_38 rfl (lv_at hl 0 rfl) ?_
        refine lv_iload_n hx hb dX6_weight_39 rfl (lv_at hl 2 rfl) ?_
        refine lv_rep hqa ?_
        refine cvI (n := 1) C w hl dX6_weight_40 (c_X6_isLikePlan l G hM S hpl.lk (jn a) (by omega)) gX6_weight_X6_isLikePlan rfl (by decide +kernel) rfl rfl (Nat.le_of_ble_eq_true rfl) ⟨by decide, by decide⟩ (by decide) rfl (oM6 hM) (fun v3 S3 H locs hp w => ?_)
        obtain ⟨q3, e0⟩ := hp
        rw [e0] at w
        refine lv_if_ne (tgt := 49) hx hb dX6_weight_43 (by decide) (fun c_43 => ?_) (fun c_43 => ?_)
        · refine lv_iconst (v := 0) hx hb dX6_weight_49 (by decide) ?_
          refine lv_istore_n hx hb dX6_weight_50 rfl hl (by decide) rfl (fun ls hl => ?_)
          have loop_51 : ∀ (n2 : Nat) (k : Nat) (H : Heap) (locs : List Loc) (ls : Array Slot), k + n2 = 12 → Wd G A s.heap (wsw S (jn i) (jn a) k) H locs → lv_has ls 4 [(0, .ref (gA G 6 0)), (1, .int i), (2, .int a), (3, .int (nI k))] → W p l e (rmK 3 69) s m args below meth c H locs 0 0 Q (F0 m 51 ls []) := by
            intro n2
            induction n2 with
            | zero =>
              intro k H locs ls hk w hl
              refine lv_iload_n hx hb dX6_weight_51 rfl (lv_at hl 3 rfl) ?_
              refine lv_bipush (v := 12) hx hb dX6_weight_52 (by decide) ?_
              refine lv_icmp_ge (tgt := 102) hx hb dX6_weight_54 (by decide) (fun c_54 => ?_) (fun c_54 => absurd (nI_le (a := 12) (by omega) (by omega)) c_54)
              have e : k = 12 := by omega
              subst e
              refine lv_aload_n hx hb dX6_weight_102 rfl (lv_at hl 0 rfl) ?_
              refine cvI (n := 0) C w hl dX6_weight_103 (c_X6_hasRoom l G hM _ nr z (hpl.ws (jn i) (jn a) 12)) gX6_weight_X6_hasRoom rfl (by decide +kernel) rfl rfl (Nat.le_of_ble_eq_true rfl) ⟨by decide, by decide⟩ (by decide) rfl (oM6 hM) (fun v5 S5 H locs hp w => ?_)
              obtain ⟨q5, hE⟩ := hp
              rw [fitM_ws] at q5
              have hpl5 := (hpl.ws (jn i) (jn a) 12).of hE
              have hpl := hpl5
              refine lv_if_eq (tgt := 111) hx hb dX6_weight_106 (by decide) (fun c_106 => ?_) (fun c_106 => ?_)
              · refine lv_iconst (v := 0) hx hb dX6_weight_111 (by decide) ?_
                refine lv_istore_n hx hb dX6_weight_112 rfl hl (by decide) rfl (fun ls hl => ?_)
                have loop_113 : ∀ (n2 : Nat) (k : Nat) (H : Heap) (locs : List Loc) (ls : Array Slot), k + n2 = 12 → Wd G A s.heap (rko S5 1 (12 * jn i) (fun j => sJ S5 9 3 j) (sJ S5 9 1) k) H locs → lv_has ls 4 [(0, .ref (gA G 6 0)), (1, .int i), (2, .int a), (3, .int (nI k))] → W p l e (rmK 3 69) s m args below meth c H locs 0 0 Q (F0 m 113 ls []) := by
                  intro n2
                  induction n2 with
                  | zero =>
                    intro k H locs ls hk w hl
                    refine lv_iload_n hx hb dX6_weight_113 rfl (lv_at hl 3 rfl) ?_
                    refine lv_bipush (v := 12) hx hb dX6_weight_114 (by decide) ?_
                    refine lv_icmp_ge (tgt := 142) hx hb dX6_weight_116 (by decide) (fun c_116 => ?_) (fun c_116 => absurd (nI_le (a := 12) (by omega) (by omega)) c_116)
                    have e : k = 12 := by omega
                    subst e
                    have hback : eqM S (rko S5 1 (12 * jn i) (fun j => sJ S5 9 3 j) (sJ S5 9 1) 12) n := by
                      refine ⟨hE.2.1, fun c r k q => by rw [sI_rko, hE.1]; rfl, fun c r j q => ?_⟩
                      by_cases h : c = 9 ∧ r = 1
                      · obtain ⟨rfl, rfl⟩ := h
                        by_cases h2 : 12 * jn i ≤ j ∧ j < 12 * jn i + 12
                        · obtain ⟨x, rfl⟩ : ∃ x, j = 12 * jn i + x := ⟨j - 12 * jn i, by omega⟩
                          rw [sJ_rko_in (by omega), hE.j9]
                          unfold wsw
                          rw [sJ_rko_n (by simp)]
                          have := sJ_rko_in (S := S) (r := 3) (b := 0) (g := fun j => sJ S 9 1 (12 * jn i + j)) (o := sJ S 9 3) (k := 12) (j := x) (by omega)
                          rw [Nat.zero_add] at this
                          exact this
                        · rw [sJ_rko_out (by omega), hE.j9]
                          unfold wsw
                          rw [sJ_rko_out (by omega)]
                      · rw [sJ_rko_n h, hE.2.2 c r j (fun x => q (Or.inl x))]
                        unfold wsw
                        rw [sJ_rko_n h, sJ_rko_n (fun x => q (Or.inr (Or.inl x)))]
                    refine lv_bipush (v := (-16)) hx hb dX6_weight_142 (by decide) ?_
                    exact hret _ _ _ _ _ _ dX6_weight_144 w (by unfold spWeight; rw [if_pos ⟨hi, ha⟩, hpp.2.1 (no_of q2 c_32) (yes_of q3 c_43), if_pos rfl]; exact Or.inr ⟨no_of q5 c_106, rfl, hback⟩)
                  | succ n2 ih =>
                    intro k H locs ls hk w hl
                    refine lv_iload_n hx hb dX6_weight_113 rfl (lv_at hl 3 rfl) ?_
                    refine lv_bipush (v := 12) hx hb dX6_weight_114 (by decide) ?_
                    refine lv_icmp_ge (tgt := 142) hx hb dX6_weight_116 (by decide) (fun c_116 => absurd c_116 (nI_ge (b := 12) (by omega) (by omega))) (fun c_116 => ?_)
                    refine lv_aload_n hx hb dX6_weight_119 rfl (lv_at hl 0 rfl) ?_
                    refine pgQ 6 9 9 (by decide) rfl (by decide) rfl rfl C w hi6 (by decide +kernel) dX6_weight_120 (oM6 hM) (hpl.lk.2.2.2.2.1) ?_
                    refine lv_bipush (v := 12) hx hb dX6_weight_123 (by decide) ?_
                    refine lv_iload_n hx hb dX6_weight_125 rfl (lv_at hl 1 rfl) ?_
                    refine lv_rep hqi ?_
                    refine lv_imul hx hb dX6_weight_126 ?_
                    refine lv_iload_n hx hb dX6_weight_127 rfl (lv_at hl 3 rfl) ?_
                    refine lv_iadd hx hb dX6_weight_128 ?_
                    refine lv_aload_n hx hb dX6_weight_129 rfl (lv_at hl 0 rfl) ?_
                    refine pgQ 6 23 9 (by decide) rfl (by decide) rfl rfl C w hi6 (by decide +kernel) dX6_weight_130 (oM6 hM) (hpl.lk.2.2.2.2.2.2.2.2.2) ?_
                    refine lv_iload_n hx hb dX6_weight_133 rfl (lv_at hl 3 rfl) ?_
                    refine paJ C w dX6_weight_134 (oM9 hM (by decide)) rfl (nM93 hM) (by omega) (by decide) (v := sJ S5 9 3 k) (sJ_rko_n (by simp)) ?_
                    refine psJ C w dX6_weight_135 (oM9 hM (by decide)) (n := 12 * jn i + k) (ix12 _ _) (nM91 hM) (by omega) (by decide) (fun H locs w => ?_)
                    refine lv_iinc (v := nI (k + 1)) hx hb dX6_weight_136 hl (k := 3) rfl (nI_1 k) (by decide) rfl (fun ls hl => ?_)
                    refine lv_goto (tgt := 113) hx hb dX6_weight_139 (by decide) ?_
                    rw [rko_s rfl] at w
                    exact ih (k + 1) _ _ _ (by omega) w (lv_sub hl [1, 2, 3, 0] rfl)
                exact loop_113 12 0 _ _ _ (by omega) (by rw [rko_0 (fun _ => rfl)]; exact w) (lv_sub hl [1, 2, 3, 0] rfl)
              · refine lv_iconst (v := 1) hx hb dX6_weight_109 (by decide) ?_
                exact hret _ _ _ _ _ _ dX6_weight_110 w (by unfold spWeight; rw [if_pos ⟨hi, ha⟩, hpp.2.1 (no_of q2 c_32) (yes_of q3 c_43), if_pos rfl]; exact Or.inl ⟨yes_of q5 c_106, rfl, (wsw_M S (jn i) (jn a) n).tr (hE.M n)⟩)
            | succ n2 ih =>
              intro k H locs ls hk w hl
              refine lv_iload_n hx hb dX6_weight_51 rfl (lv_at hl 3 rfl) ?_
              refine lv_bipush (v := 12) hx hb dX6_weight_52 (by decide) ?_
              refine lv_icmp_ge (tgt := 102) hx hb dX6_weight_54 (by decide) (fun c_54 => absurd c_54 (nI_ge (b := 12) (by omega) (by omega))) (fun c_54 => ?_)
              refine lv_aload_n hx hb dX6_weight_57 rfl (lv_at hl 0 rfl) ?_
              refine pgQ 6 23 9 (by decide) rfl (by decide) rfl rfl C w hi6 (by decide +kernel) dX6_weight_58 (oM6 hM) (hpl.lk.2.2.2.2.2.2.2.2.2) ?_
              refine lv_iload_n hx hb dX6_weight_61 rfl (lv_at hl 3 rfl) ?_
              refine lv_aload_n hx hb dX6_weight_62 rfl (lv_at hl 0 rfl) ?_
              refine pgQ 6 9 9 (by decide) rfl (by decide) rfl rfl C w hi6 (by decide +kernel) dX6_weight_63 (oM6 hM) (hpl.lk.2.2.2.2.1) ?_
              refine lv_bipush (v := 12) hx hb dX6_weight_66 (by decide) ?_
              refine lv_iload_n hx hb dX6_weight_68 rfl (lv_at hl 1 rfl) ?_
              refine lv_rep hqi ?_
              refine lv_imul hx hb dX6_weight_69 ?_
              refine lv_iload_n hx hb dX6_weight_70 rfl (lv_at hl 3 rfl) ?_
              refine lv_iadd hx hb dX6_weight_71 ?_
              refine paJ C w dX6_weight_72 (oM9 hM (by decide)) (n := 12 * jn i + k) (ix12 _ _) (nM91 hM) (by omega) (by decide) (v := sJ S 9 1 (12 * jn i + k)) (by unfold wsw; rw [sJ_rko_out (by omega)]) ?_
              refine psJ C w dX6_weight_73 (oM9 hM (by decide)) rfl (nM93 hM) (by omega) (by decide) (fun H locs w => ?_)
              refine lv_aload_n hx hb dX6_weight_74 rfl (lv_at hl 0 rfl) ?_
              refine pgQ 6 9 9 (by decide) rfl (by decide) rfl rfl C w hi6 (by decide +kernel) dX6_weight_75 (oM6 hM) (hpl.lk.2.2.2.2.1) ?_
              refine lv_bipush (v := 12) hx hb dX6_weight_78 (by decide) ?_
              refine lv_iload_n hx hb dX6_weight_80 rfl (lv_at hl 1 rfl) ?_
              refine lv_rep hqi ?_
              refine lv_imul hx hb dX6_weight_81 ?_
              refine lv_iload_n hx hb dX6_weight_82 rfl (lv_at hl 3 rfl) ?_
              refine lv_iadd hx hb dX6_weight_83 ?_
              refine lv_aload_n hx hb dX6_weight_84 rfl (lv_at hl 0 rfl) ?_
              refine pgQ 6 4 9 (by decide) rfl (by decide) rfl rfl C w hi6 (by decide +kernel) dX6_weight_85 (oM6 hM) (hpl.lk.2.2.2.1) ?_
              refine lv_bipush (v := 12) hx hb dX6_weight_88 (by decide) ?_
              refine lv_iload_n hx hb dX6_weight_90 rfl (lv_at hl 2 rfl) ?_
              refine lv_rep hqa ?_
              refine lv_imul hx hb dX6_weight_91 ?_
              refine lv_iload_n hx hb dX6_weight_92 rfl (lv_at hl 3 rfl) ?_
              refine lv_iadd hx hb dX6_weight_93 ?_
              refine paJ C w dX6_weight_94 (oM9 hM (by decide)) (n := 12 * jn a + k) (ix12 _ _) (nM90 hM) (by omega) (by decide) (v := sJ S 9 0 (12 * jn a + k)) (by rw [sJ_uJ, if_neg (by simp)]; unfold wsw; rw [sJ_rko_n (by simp), sJ_rko_n (by simp)]) ?_
              refine psJ C w dX6_weight_95 (oM9 hM (by decide)) (n := 12 * jn i + k) (ix12 _ _) (nM91 hM) (by omega) (by decide) (fun H locs w => ?_)
              refine lv_iinc (v := nI (k + 1)) hx hb dX6_weight_96 hl (k := 3) rfl (nI_1 k) (by decide) rfl (fun ls hl => ?_)
              refine lv_goto (tgt := 51) hx hb dX6_weight_99 (by decide) ?_
              rw [wsw_s rfl rfl] at w
              exact ih (k + 1) _ _ _ (by omega) w (lv_sub hl [1, 2, 3, 0] rfl)
          exact loop_51 12 0 _ _ _ (by omega) (by rw [wsw_0]; exact w) (lv_sub hl [1, 2, 3, 0] rfl)
        · refine lv_bipush (v := (-12)) hx hb dX6_weight_46 (by decide) ?_
          exact hret _ _ _ _ _ _ dX6_weight_48 w (by unfold spWeight; rw [if_pos ⟨hi, ha⟩, hpp.2.2 (no_of q2 c_32) (no_of q3 c_43), if_neg (by decide)]; exact ⟨rfl, eqM.rf S n⟩)
      · refine lv_bipush (v := (-11)) hx hb dX6_weight_35 (by decide) ?_
        exact hret _ _ _ _ _ _ dX6_weight_37 w (by unfold spWeight; rw [if_pos ⟨hi, ha⟩, hpp.1 (yes_of q2 c_32), if_neg (by decide)]; exact ⟨rfl, eqM.rf S n⟩)
    · refine lv_bipush (v := (-2)) hx hb dX6_weight_24 (by decide) ?_
      exact hret _ _ _ _ _ _ dX6_weight_26 w (by unfold spWeight; rw [if_neg (fun q => by first | exact no_of q1 c_13 q.1 | exact no_of q4 c_21 q.2)]; exact ⟨rfl, eqM.rf S n⟩)
