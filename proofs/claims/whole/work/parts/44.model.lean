def ovA (t : Int32) (x y : Int64) : Prop := (t = 0 ∧ ¬ in64 (x.toInt + y.toInt)) ∨ (t = 1 ∧ ¬ in64 (x.toInt - y.toInt))
theorem ovP_iff {t : Int32} {x y : Nat → Int64} {z : Nat} : ovP t x y z ↔ ∃ k, k < z ∧ ovA t (x k) (y k) := by
  constructor
  · rintro (⟨h, k, hk, q⟩ | ⟨h, k, hk, q⟩)
    · exact ⟨k, hk, Or.inl ⟨h, q⟩⟩
    · exact ⟨k, hk, Or.inr ⟨h, q⟩⟩
  · rintro ⟨k, hk, (⟨h, q⟩ | ⟨h, q⟩)⟩
    · exact Or.inl ⟨h, k, hk, q⟩
    · exact Or.inr ⟨h, k, hk, q⟩
def fsP (t c : Int32) : Prop := (t = 2 ∧ ¬ c < 0) ∨ (¬ t = 2 ∧ ¬ 0 < c)
theorem cG_4 {t : Int32} (h : t = 4) (x y : Nat → Int64) (z k : Nat) : cG t x y z k = if y k < x k then x k else y k := by subst h; rfl
theorem cG_5 {t : Int32} (h4 : ¬ t = 4) (h2 : ¬ t = 2) (h3 : ¬ t = 3) (h0 : ¬ t = 0) (h1 : ¬ t = 1) (x y : Nat → Int64) (z k : Nat) : cG t x y z k = if y k < x k then y k else x k := by unfold cG; rw [if_neg h0, if_neg h1, if_neg h2, if_neg h3, if_neg h4]
theorem cG_f {t : Int32} (ht : t = 2 ∨ t = 3) {x y : Nat → Int64} {z : Nat} (k : Nat) (h : fsP t (cmpG x y z 0)) : cG t x y z k = x k := by
  unfold cG
  rcases ht with rfl | rfl
  · rw [if_neg (by decide), if_neg (by decide), if_pos rfl]
    rcases h with h | h
    · rw [if_neg h.2]
    · exact absurd rfl h.1
  · rw [if_neg (by decide), if_neg (by decide), if_neg (by decide), if_pos rfl]
    rcases h with h | h
    · exact absurd h.1 (by decide)
    · rw [if_neg h.2]
theorem cG_n {t : Int32} (ht : t = 2 ∨ t = 3) {x y : Nat → Int64} {z : Nat} (k : Nat) (h : ¬ fsP t (cmpG x y z 0)) : cG t x y z k = y k := by
  unfold cG
  rcases ht with rfl | rfl
  · rw [if_neg (by decide), if_neg (by decide), if_pos rfl, if_pos]
    exact Classical.byContradiction fun q => h (Or.inl ⟨rfl, q⟩)
  · rw [if_neg (by decide), if_neg (by decide), if_neg (by decide), if_pos rfl, if_pos]
    exact Classical.byContradiction fun q => h (Or.inr ⟨by decide, q⟩)
theorem t6 {t : Int32} (h : inN t 6) : t = 0 ∨ t = 1 ∨ t = 2 ∨ t = 3 ∨ t = 4 ∨ t = 5 := by
  have h1 := h.1
  have h2 := h.2
  have q : ∀ y : Int32, t = y ↔ t.toInt = y.toInt := fun y => Int32.toInt_inj.symm
  rw [q, q, q, q, q, q, i32_0, i32_1, i32_3, show (2 : Int32).toInt = 2 from rfl, show (4 : Int32).toInt = 4 from rfl, show (5 : Int32).toInt = 5 from rfl]
  omega
theorem eqM.lv {S S2 : PS} {n : Nat} (h : eqM S S2 n) {i k : Nat} (hi : i < n) (hk : k < 12) : sJ S2 9 0 (12 * i + k) = sJ S 9 0 (12 * i + k) := h.2.2 9 0 _ (fun q => by
  rcases q with q | q | q
  · exact absurd q (by decide)
  · exact absurd q.2 (by decide)
  · omega)
theorem eqM.hd {S S2 : PS} {n : Nat} (h : eqM S S2 n) (r : Nat) {i : Nat} (hi : i < n) : sI S2 8 r i = sI S 8 r i := h.2.1 8 r i (fun q => by
  rcases q with q | q
  · exact absurd q.1 (by decide)
  · omega)

set_option maxHeartbeats 4000000 in
set_option maxRecDepth 100000 in
/-- act -/
theorem c_X6_act (l : Launch) (G : GT) (hM : okM G) (S : PS) (hS : lkM S) (n : Nat) (hn : sI S 6 0 0 = nI n) (hn60 : n ≤ 60)(hsz : ∀ i, i < n → 0 ≤ (sI S 8 2 i).toInt ∧ (sI S 8 2 i).toInt ≤ 12) (t a b : Int32) : CtI l G yX6_act wsX6_act (rmK 2 46) [.ref (gA G 6 0), .int t, .int a, .int b] S (fun v S2 => spAct n (sI S 8 0) (sI S 8 1) (sI S 8 2) (fun j k => sJ S 9 0 (12 * j + k)) t a b v (eqM S S2 n) (fun g => nwM S S2 n (sI S 8 0 (jn a)) (sI S 8 1 (jn a)) (jn (sI S 8 2 (jn a))) g)) := by
  refine ofCtI (cc := cX6_act) (nL := 14) RX6 (by decide +kernel) rfl rfl (Nat.le_of_ble_eq_true rfl) ?_
  intro p e s m args below meth c A Q ls C w hl hret
  have hx := C.1
  have hb := C.2.1
  have hown := C.2.2.2.1
  have hts := C.2.2.2.2.1
  have hi6 : ∀ w ∈ wsX60, w ∈ wsX6_act := by decide +kernel
  have hS0 := hS
  refine lv_aload_n hx hb dX6_act_0 rfl (lv_at hl 0 rfl) ?_
  refine lv_iload_n hx hb dX6_act_1 rfl (lv_at hl 2 rfl) ?_
  refine cvI (n := 1) C w hl dX6_act_2 (c_X6_isNumber l G hM S n hn hn60 a) gX6_act_X6_isNumber rfl (by decide +kernel) rfl rfl (Nat.le_of_ble_eq_true rfl) ⟨by decide, by decide⟩ (by decide) rfl (oM6 hM) (fun v1 S9 H locs hp w => ?_)
  obtain ⟨q1, e0⟩ := hp
  rw [e0] at w
  refine lv_if_eq (tgt := 16) hx hb dX6_act_5 (by decide) (fun c_5 => ?_) (fun c_5 => ?_)
  · refine lv_bipush (v := (-2)) hx hb dX6_act_16 (by decide) ?_
    exact hret _ _ _ _ _ _ dX6_act_18 w (by unfold spAct; rw [if_neg (fun q => by first | exact no_of q1 c_5 q.1 | exact no_of q2 c_13 q.2)]; exact ⟨rfl, eqM.rf S n⟩)
  · refine lv_aload_n hx hb dX6_act_8 rfl (lv_at hl 0 rfl) ?_
    refine lv_iload_n hx hb dX6_act_9 rfl (lv_at hl 3 rfl) ?_
    refine cvI (n := 1) C w hl dX6_act_10 (c_X6_isNumber l G hM S n hn hn60 b) gX6_act_X6_isNumber rfl (by decide +kernel) rfl rfl (Nat.le_of_ble_eq_true rfl) ⟨by decide, by decide⟩ (by decide) rfl (oM6 hM) (fun v2 S9 H locs hp w => ?_)
    obtain ⟨q2, e0⟩ := hp
    rw [e0] at w
    refine lv_if_ne (tgt := 19) hx hb dX6_act_13 (by decide) (fun c_13 => ?_) (fun c_13 => ?_)
    · have ha := yes_of q1 c_5
      have hja := jn_lt ha
      have hqa : a = nI (jn a) := jn_eq ha
      have hb2 := yes_of q2 c_13
      have hjb := jn_lt hb2
      have hqb : b = nI (jn b) := jn_eq hb2
      have hzj := hsz (jn a) hja
      have hz12 : jn (sI S 8 2 (jn a)) ≤ 12 := by unfold jn at *; omega
      refine lv_iload_n hx hb dX6_act_19 rfl (lv_at hl 1 rfl) ?_
      refine lv_i2l hx hb dX6_act_20 rfl ?_
      refine lv_lconst (v := 0) hx hb dX6_act_21 (by decide) ?_
      refine lv_ldc2 (v := (5)) hx hb hown (hts (.constantLong RX6 95 (5)) (by decide +kernel)) dX6_act_22 ?_
      refine csI (n := 3) C w hl dX6_act_25 (c_X6_in l G S _ _ _) gX6_act_X6_in rfl (by decide +kernel) rfl rfl (Nat.le_of_ble_eq_true rfl) ⟨by decide, by decide⟩ (fun v7 S7 H locs hp w => ?_)
      obtain ⟨q7, e0⟩ := hp
      rw [e0] at w
      replace q7 := imp_of (in_c (m := 6) rfl) q7
      refine lv_if_ne (tgt := 34) hx hb dX6_act_28 (by decide) (fun c_28 => ?_) (fun c_28 => ?_)
      · have ht := yes_of q7 c_28
        have ht6 := t6 ht
        refine lv_aload_n hx hb dX6_act_34 rfl (lv_at hl 0 rfl) ?_
        refine pgI 6 0 (by decide) rfl (by decide) (Or.inl rfl) rfl C w hi6 (by decide +kernel) dX6_act_35 (oM6 hM) (v := nI n) hn ?_
        refine lv_bipush (v := 60) hx hb dX6_act_38 (by decide) ?_
        refine lv_icmp_ne (tgt := 46) hx hb dX6_act_40 (by decide) (fun c_40 => ?_) (fun c_40 => ?_)
        · have hnf : ¬ n = 60 := fun q => c_40 (by rw [q]; rfl)
          refine lv_aload_n hx hb dX6_act_46 rfl (lv_at hl 0 rfl) ?_
          refine lv_iload_n hx hb dX6_act_47 rfl (lv_at hl 2 rfl) ?_
          refine lv_rep hqa ?_
          refine lv_iload_n hx hb dX6_act_48 rfl (lv_at hl 3 rfl) ?_
          refine lv_rep hqb ?_
          refine cvI (n := 2) C w hl dX6_act_49 (c_X6_refusal l G hM S hS (jn a) (jn b) (by omega) (by omega)) gX6_act_X6_refusal rfl (by decide +kernel) rfl rfl (Nat.le_of_ble_eq_true rfl) ⟨by decide, by decide⟩ (by decide) rfl (oM6 hM) (fun v3 S3 H locs hp w => ?_)
          obtain ⟨q3, e0⟩ := hp
          rw [e0] at w
          refine lv_istore hx hb dX6_act_52 hl (by decide) rfl (fun ls hl => ?_)
          refine lv_iload hx hb dX6_act_54 (lv_at hl 0 rfl) ?_
          refine lv_if_ge (tgt := 62) hx hb dX6_act_56 (by decide) (fun c_56 => ?_) (fun c_56 => ?_)
          · have hpf : pairF (sI S 8 0 (jn a)) (sI S 8 1 (jn a)) (sI S 8 2 (jn a)) (sI S 8 0 (jn b)) (sI S 8 1 (jn b)) (sI S 8 2 (jn b)) = 0 := by rw [q3] at c_56; exact pairF_ge c_56
            refine lv_aload_n hx hb dX6_act_62 rfl (lv_at hl 1 rfl) ?_
            refine lv_aload_n hx hb dX6_act_63 rfl (lv_at hl 1 rfl) ?_
            refine pgQ 6 1 8 (by decide) rfl (by decide) rfl rfl C w hi6 (by decide +kernel) dX6_act_64 (oM6 hM) (hS.1) ?_
            refine lv_iload_n hx hb dX6_act_67 rfl (lv_at hl 3 rfl) ?_
            refine lv_rep hqa ?_
            refine paI C w dX6_act_68 (oM8 hM (by decide)) rfl (nM80 hM) (by omega) (by decide) rfl ?_
            refine lv_aload_n hx hb dX6_act_69 rfl (lv_at hl 1 rfl) ?_
            refine pgQ 6 2 8 (by decide) rfl (by decide) rfl rfl C w hi6 (by decide +kernel) dX6_act_70 (oM6 hM) (hS.2.1) ?_
            refine lv_iload_n hx hb dX6_act_73 rfl (lv_at hl 3 rfl) ?_
            refine lv_rep hqa ?_
            refine paI C w dX6_act_74 (oM8 hM (by decide)) rfl (nM81 hM) (by omega) (by decide) rfl ?_
            refine lv_aload_n hx hb dX6_act_75 rfl (lv_at hl 1 rfl) ?_
            refine pgQ 6 3 8 (by decide) rfl (by decide) rfl rfl C w hi6 (by decide +kernel) dX6_act_76 (oM6 hM) (hS.2.2.1) ?_
            refine lv_iload_n hx hb dX6_act_79 rfl (lv_at hl 3 rfl) ?_
            refine lv_rep hqa ?_
            refine paI C w dX6_act_80 (oM8 hM (by decide)) rfl (nM82 hM) (by omega) (by decide) rfl ?_
            refine cvV (n := 3) C w hl dX6_act_81 (c_X6_lay l G hM S hS n hn hn60 _ _ _) gX6_act_X6_lay rfl (by decide +kernel) rfl rfl (Nat.le_of_ble_eq_true rfl) ⟨by decide, by decide⟩ (by decide) rfl (oM6 hM) (fun S3 H locs hp w => ?_)
            have hE := eqM_layM S n (sI S 8 0 (jn a)) (sI S 8 1 (jn a)) (sI S 8 2 (jn a))
            have hl0 : sI (layM S n (sI S 8 0 (jn a)) (sI S 8 1 (jn a)) (sI S 8 2 (jn a))) 8 0 n = sI S 8 0 (jn a) := sI_lh0 S n (sI S 8 0 (jn a)) (sI S 8 1 (jn a)) (sI S 8 2 (jn a))
            have hl1 : sI (layM S n (sI S 8 0 (jn a)) (sI S 8 1 (jn a)) (sI S 8 2 (jn a))) 8 1 n = sI S 8 1 (jn a) := sI_lh1 S n (sI S 8 0 (jn a)) (sI S 8 1 (jn a)) (sI S 8 2 (jn a))
            have hl2 : sI (layM S n (sI S 8 0 (jn a)) (sI S 8 1 (jn a)) (sI S 8 2 (jn a))) 8 2 n = sI S 8 2 (jn a) := sI_lh2 S n (sI S 8 0 (jn a)) (sI S 8 1 (jn a)) (sI S 8 2 (jn a))
            subst hp
            refine lv_aload_n hx hb dX6_act_84 rfl (lv_at hl 1 rfl) ?_
            refine lv_aload_n hx hb dX6_act_85 rfl (lv_at hl 1 rfl) ?_
            refine pgQ 6 4 9 (by decide) rfl (by decide) rfl rfl C w hi6 (by decide +kernel) dX6_act_86 (oM6 hM) (hS.2.2.2.1) ?_
            refine lv_bipush (v := 12) hx hb dX6_act_89 (by decide) ?_
            refine lv_iload_n hx hb dX6_act_91 rfl (lv_at hl 3 rfl) ?_
            refine lv_rep hqa ?_
            refine lv_imul hx hb dX6_act_92 ?_
            refine lv_rep (ix12' (jn a)) ?_
            refine lv_aload_n hx hb dX6_act_93 rfl (lv_at hl 1 rfl) ?_
            refine pgQ 6 4 9 (by decide) rfl (by decide) rfl rfl C w hi6 (by decide +kernel) dX6_act_94 (oM6 hM) (hS.2.2.2.1) ?_
            refine lv_bipush (v := 12) hx hb dX6_act_97 (by decide) ?_
            refine lv_iload_n hx hb dX6_act_99 rfl (lv_at hl 4 rfl) ?_
            refine lv_rep hqb ?_
            refine lv_imul hx hb dX6_act_100 ?_
            refine lv_rep (ix12' (jn b)) ?_
            refine lv_aload_n hx hb dX6_act_101 rfl (lv_at hl 1 rfl) ?_
            refine pgQ 6 3 8 (by decide) rfl (by decide) rfl rfl C w hi6 (by decide +kernel) dX6_act_102 (oM6 hM) (hS.2.2.1) ?_
            refine lv_iload_n hx hb dX6_act_105 rfl (lv_at hl 3 rfl) ?_
            refine lv_rep hqa ?_
            refine paI C w dX6_act_106 (oM8 hM (by decide)) rfl (nM82 hM) (by omega) (by decide) (v := nI (jn (sI S 8 2 (jn a)))) (by rw [hE.hd 2 hja]; exact nI_jn hzj.1) ?_
            refine cvI (n := 5) C w hl dX6_act_107 (c_X6_compare l G hM _ 0 0 (12 * jn a) (12 * jn b) (jn (sI S 8 2 (jn a))) 732 732 (by decide) (by decide) (nM90 hM) (nM90 hM) (by omega) (by omega) (by decide) (by decide)) gX6_act_X6_compare rfl (by decide +kernel) rfl rfl (Nat.le_of_ble_eq_true rfl) ⟨by decide, by decide⟩ (by decide) rfl (oM6 hM) (fun v4 S4 H locs hp w => ?_)
            obtain ⟨q4, e0⟩ := hp
            rw [e0] at w
            rw [cmpG_eq (x' := (fun k => sJ S 9 0 (12 * jn a + k))) (y' := (fun k => sJ S 9 0 (12 * jn b + k))) (jn (sI S 8 2 (jn a))) 0 (fun j h1 h2 => ⟨hE.lv hja (by omega), hE.lv hjb (by omega)⟩)] at q4
            refine lv_istore hx hb dX6_act_110 hl (by decide) rfl (fun ls hl => ?_)
            have join_140 : ∀ (f : Int32) (H : Heap) (locs : List Loc) (ls : Array Slot), ((f = 1 ∧ fsP t (cmpG (fun k => sJ S 9 0 (12 * jn a + k)) (fun k => sJ S 9 0 (12 * jn b + k)) (jn (sI S 8 2 (jn a))) 0)) ∨ (f = 0 ∧ ¬ fsP t (cmpG (fun k => sJ S 9 0 (12 * jn a + k)) (fun k => sJ S 9 0 (12 * jn b + k)) (jn (sI S 8 2 (jn a))) 0))) → Wd G A s.heap (layM S n (sI S 8 0 (jn a)) (sI S 8 1 (jn a)) (sI S 8 2 (jn a))) H locs → lv_has ls 14 [(0, .ref (gA G 6 0)), (1, .int t), (2, .int a), (3, .int b)] → W p l e (rmK 2 46) s m args below meth c H locs 0 0 Q (F0 m 140 ls [.int f]) := by
              intro f H locs ls hf w hl
              refine lv_istore hx hb dX6_act_140 hl (by decide) rfl (fun ls hl => ?_)
              refine lv_iconst (v := 0) hx hb dX6_act_142 (by decide) ?_
              refine lv_istore hx hb dX6_act_143 hl (by decide) rfl (fun ls hl => ?_)
              have loop_145 : ∀ (n2 : Nat) (k : Nat) (S1 : PS) (H : Heap) (locs : List Loc) (ls : Array Slot), k + n2 = (jn (sI S 8 2 (jn a))) → (eqM S S1 n ∧ sI S1 8 0 n = sI S 8 0 (jn a) ∧ sI S1 8 1 n = sI S 8 1 (jn a) ∧ sI S1 8 2 n = sI S 8 2 (jn a) ∧ (∀ j, j < k → sJ S1 9 0 (12 * n + j) = cG t (fun k => sJ S 9 0 (12 * jn a + k)) (fun k => sJ S 9 0 (12 * jn b + k)) (jn (sI S 8 2 (jn a))) j)) → (∀ j, j < k → ¬ ovA t (sJ S 9 0 (12 * jn a + j)) (sJ S 9 0 (12 * jn b + j))) → Wd G A s.heap S1 H locs → lv_has ls 14 [(0, .ref (gA G 6 0)), (1, .int t), (2, .int a), (3, .int b), (6, .int f), (7, .int (nI k))] → W p l e (rmK 2 46) s m args below meth c H locs 0 0 Q (F0 m 145 ls []) := by
                intro n2
                induction n2 with
                | zero =>
                  intro k S1 H locs ls hk hH hI w hl
                  have hE := hH.1
                  have hS := hE.lk hS0
                  refine lv_iload hx hb dX6_act_145 (lv_at hl 5 rfl) ?_
                  refine lv_aload_n hx hb dX6_act_147 rfl (lv_at hl 0 rfl) ?_
                  refine pgQ 6 3 8 (by decide) rfl (by decide) rfl rfl C w hi6 (by decide +kernel) dX6_act_148 (oM6 hM) (hS.2.2.1) ?_
                  refine lv_iload_n hx hb dX6_act_151 rfl (lv_at hl 2 rfl) ?_
                  refine lv_rep hqa ?_
                  refine paI C w dX6_act_152 (oM8 hM (by decide)) rfl (nM82 hM) (by omega) (by decide) (v := nI (jn (sI S 8 2 (jn a)))) (by rw [hE.hd 2 hja]; exact nI_jn hzj.1) ?_
                  refine lv_icmp_ge (tgt := 316) hx hb dX6_act_153 (by decide) (fun c_153 => ?_) (fun c_153 => absurd (nI_le (by omega) (by omega)) c_153)
                  refine lv_aload_n hx hb dX6_act_316 rfl (lv_at hl 0 rfl) ?_
                  have ek : k = (jn (sI S 8 2 (jn a))) := by omega
                  refine cvI (n := 0) C w hl dX6_act_317 (c_X6_keepScore l G hM S1 n (by rw [hE.n 0 (by decide)]; exact hn) hn60) gX6_act_X6_keepScore rfl (by decide +kernel) rfl rfl (Nat.le_of_ble_eq_true rfl) ⟨by decide, by decide⟩ (by decide) rfl (oM6 hM) (fun v5 S5 H locs hp w => ?_)
                  obtain ⟨e5, e6⟩ := hp
                  rw [e6] at w
                  exact hret _ _ _ _ _ _ dX6_act_320 w (by unfold spAct; rw [if_pos ⟨ha, hb2⟩, if_pos ht, if_neg hnf, if_pos hpf]; exact Or.inl ⟨fun q => (by obtain ⟨j, hj, h⟩ := ovP_iff.mp q; exact hI j (by omega) h), e5, hsM.nw ⟨hE, hH.2.1, hH.2.2.1, by rw [hH.2.2.2.1]; exact nI_jn hzj.1, fun j hj => hH.2.2.2.2 j (by omega)⟩ hn⟩)
                | succ n2 ih =>
                  intro k S1 H locs ls hk hH hI w hl
                  have hE := hH.1
                  have hS := hE.lk hS0
                  refine lv_iload hx hb dX6_act_145 (lv_at hl 5 rfl) ?_
                  refine lv_aload_n hx hb dX6_act_147 rfl (lv_at hl 0 rfl) ?_
                  refine pgQ 6 3 8 (by decide) rfl (by decide) rfl rfl C w hi6 (by decide +kernel) dX6_act_148 (oM6 hM) (hS.2.2.1) ?_
                  refine lv_iload_n hx hb dX6_act_151 rfl (lv_at hl 2 rfl) ?_
                  refine lv_rep hqa ?_
                  refine paI C w dX6_act_152 (oM8 hM (by decide)) rfl (nM82 hM) (by omega) (by decide) (v := nI (jn (sI S 8 2 (jn a)))) (by rw [hE.hd 2 hja]; exact nI_jn hzj.1) ?_
                  refine lv_icmp_ge (tgt := 316) hx hb dX6_act_153 (by decide) (fun c_153 => absurd c_153 (nI_ge (by omega) (by omega))) (fun c_153 => ?_)
                  refine lv_aload_n hx hb dX6_act_156 rfl (lv_at hl 0 rfl) ?_
                  refine pgQ 6 4 9 (by decide) rfl (by decide) rfl rfl C w hi6 (by decide +kernel) dX6_act_157 (oM6 hM) (hS.2.2.2.1) ?_
                  refine lv_bipush (v := 12) hx hb dX6_act_160 (by decide) ?_
                  refine lv_iload_n hx hb dX6_act_162 rfl (lv_at hl 2 rfl) ?_
                  refine lv_rep hqa ?_
                  refine lv_imul hx hb dX6_act_163 ?_
                  refine lv_iload hx hb dX6_act_164 (lv_at hl 5 rfl) ?_
                  refine lv_iadd hx hb dX6_act_166 ?_
                  refine paJ C w dX6_act_167 (oM9 hM (by decide)) (n := 12 * jn a + k) (ix12 _ _) (nM90 hM) (by omega) (by decide) (v := sJ S 9 0 (12 * jn a + k)) (hE.lv hja (by omega)) ?_
                  refine lv_lstore hx hb dX6_act_168 hl (by decide) rfl (fun ls hl => ?_)
                  refine lv_aload_n hx hb dX6_act_170 rfl (lv_at hl 1 rfl) ?_
                  refine pgQ 6 4 9 (by decide) rfl (by decide) rfl rfl C w hi6 (by decide +kernel) dX6_act_171 (oM6 hM) (hS.2.2.2.1) ?_
                  refine lv_bipush (v := 12) hx hb dX6_act_174 (by decide) ?_
                  refine lv_iload_n hx hb dX6_act_176 rfl (lv_at hl 4 rfl) ?_
                  refine lv_rep hqb ?_
                  refine lv_imul hx hb dX6_act_177 ?_
                  refine lv_iload hx hb dX6_act_178 (lv_at hl 6 rfl) ?_
                  refine lv_iadd hx hb dX6_act_180 ?_
                  refine paJ C w dX6_act_181 (oM9 hM (by decide)) (n := 12 * jn b + k) (ix12 _ _) (nM90 hM) (by omega) (by decide) (v := sJ S 9 0 (12 * jn b + k)) (hE.lv hjb (by omega)) ?_
                  refine lv_lstore hx hb dX6_act_182 hl (by decide) rfl (fun ls hl => ?_)
                  have join_293 : ∀ (S3 : PS) (v : Int64) (H : Heap) (locs : List Loc) (ls : Array Slot), (eqM S S3 n ∧ sI S3 8 0 n = sI S 8 0 (jn a) ∧ sI S3 8 1 n = sI S 8 1 (jn a) ∧ sI S3 8 2 n = sI S 8 2 (jn a) ∧ (∀ j, j < k → sJ S3 9 0 (12 * n + j) = cG t (fun k => sJ S 9 0 (12 * jn a + k)) (fun k => sJ S 9 0 (12 * jn b + k)) (jn (sI S 8 2 (jn a))) j)) → v = cG t (fun k => sJ S 9 0 (12 * jn a + k)) (fun k => sJ S 9 0 (12 * jn b + k)) (jn (sI S 8 2 (jn a))) k → ¬ ovA t (sJ S 9 0 (12 * jn a + k)) (sJ S 9 0 (12 * jn b + k)) → Wd G A s.heap S3 H locs → lv_has ls 14 [(0, .ref (gA G 6 0)), (1, .int t), (2, .int a), (3, .int b), (6, .int f), (7, .int (nI k)), (12, .long v)] → W p l e (rmK 2 46) s m args below meth c H locs 0 0 Q (F0 m 293 ls []) := by
                    intro S3 v H locs ls hH3 hv ho w hl
                    have hE3 := hH3.1
                    have hS := hE3.lk hS0
                    refine lv_aload_n hx hb dX6_act_293 rfl (lv_at hl 0 rfl) ?_
                    refine pgQ 6 4 9 (by decide) rfl (by decide) rfl rfl C w hi6 (by decide +kernel) dX6_act_294 (oM6 hM) (hS.2.2.2.1) ?_
                    refine lv_bipush (v := 12) hx hb dX6_act_297 (by decide) ?_
                    refine lv_aload_n hx hb dX6_act_299 rfl (lv_at hl 0 rfl) ?_
                    refine pgI 6 0 (by decide) rfl (by decide) (Or.inl rfl) rfl C w hi6 (by decide +kernel) dX6_act_300 (oM6 hM) (v := nI n) (by rw [hE3.n 0 (by decide)]; exact hn) ?_
                    refine lv_imul hx hb dX6_act_303 ?_
                    refine lv_iload hx hb dX6_act_304 (lv_at hl 5 rfl) ?_
                    refine lv_iadd hx hb dX6_act_306 ?_
                    refine lv_lload hx hb dX6_act_307 (lv_at hl 6 rfl) ?_
                    refine psJ C w dX6_act_309 (oM9 hM (by decide)) (n := 12 * n + k) (ix12 _ _) (nM90 hM) (by omega) (by decide) (fun H locs w => ?_)
                    refine lv_iinc (v := nI (k + 1)) hx hb dX6_act_310 hl (k := 5) rfl (nI_1 k) (by decide) rfl (fun ls hl => ?_)
                    refine lv_goto (tgt := 145) hx hb dX6_act_313 (by decide) ?_
                    exact ih (k + 1) _ _ _ _ (by omega) ⟨hE3.tr (eqM_uJ (Or.inr (Or.inr ⟨rfl, rfl, by omega, by omega⟩))), hH3.2.1, hH3.2.2.1, hH3.2.2.2.1, fun j hj => by rw [sJ_uJ]; by_cases q : j = k; rw [if_pos ⟨rfl, rfl, by rw [q]⟩, q]; exact hv; rw [if_neg (fun x => q (by omega))]; exact hH3.2.2.2.2 j (by omega)⟩ (lt_s hI ho) w (lv_sub hl [1, 2, 3, 4, 5, 0] rfl)
                  have join_242 : ∀ (v : Int64) (H : Heap) (locs : List Loc) (ls : Array Slot), (¬ t < 2 → v = cG t (fun k => sJ S 9 0 (12 * jn a + k)) (fun k => sJ S 9 0 (12 * jn b + k)) (jn (sI S 8 2 (jn a))) k) → Wd G A s.heap S1 H locs → lv_has ls 14 [(0, .ref (gA G 6 0)), (1, .int t), (2, .int a), (3, .int b), (6, .int f), (7, .int (nI k)), (8, .long (sJ S 9 0 (12 * jn a + k))), (10, .long (sJ S 9 0 (12 * jn b + k)))] → W p l e (rmK 2 46) s m args below meth c H locs 0 0 Q (F0 m 242 ls [.long v]) := by
                    intro v H locs ls hv w hl
                    refine lv_lstore hx hb dX6_act_242 hl (by decide) rfl (fun ls hl => ?_)
                    refine lv_iload_n hx hb dX6_act_244 rfl (lv_at hl 2 rfl) ?_
                    refine lv_iconst (v := 2) hx hb dX6_act_245 (by decide) ?_
                    refine lv_icmp_ge (tgt := 293) hx hb dX6_act_246 (by decide) (fun c_246 => ?_) (fun c_246 => ?_)
                    · exact join_293 _ _ _ _ _ (by first | exact hH | exact ⟨hE.tr (eqM_wm _ _ _), hH.2.1, hH.2.2.1, hH.2.2.2.1, fun j hj => by rw [sJ_wm_n (by decide)]; exact hH.2.2.2.2 j hj⟩) (by first | exact hvv | exact hv (Int32.not_lt.mpr c_246)) (by first | exact hov | (rintro (h | h) <;> (rw [h.1] at c_246; exact absurd c_246 (by decide)))) w (lv_sub hl [1, 2, 3, 4, 5, 6, 0] rfl)
                    · have h01 : t = 0 ∨ t = 1 := by
                        rcases ht6 with h | h | h | h | h | h
                        · exact Or.inl h
                        · exact Or.inr h
                        all_goals (rw [h] at c_246; exact absurd (by decide) c_246)
                      have join_274 : ∀ (c2 : Int64) (H : Heap) (locs : List Loc) (ls : Array Slot), (c2.toInt = if t = 0 then 1 else -1) → Wd G A s.heap (wm S1 ((sJ S 9 0 (12 * jn a + k)).toInt)) H locs → lv_has ls 14 [(0, .ref (gA G 6 0)), (1, .int t), (2, .int a), (3, .int b), (6, .int f), (7, .int (nI k)), (8, .long (sJ S 9 0 (12 * jn a + k))), (10, .long (sJ S 9 0 (12 * jn b + k)))] → W p l e (rmK 2 46) s m args below meth c H locs 0 0 Q (F0 m 274 ls [.long c2, .long (sJ S 9 0 (12 * jn b + k)), .ref (gA G 6 0)]) := by
                        intro c2 H locs ls hc2 w hl
                        have hcb : c2.toInt = 1 ∨ c2.toInt = -1 := by rw [hc2]; split; exact Or.inl rfl; exact Or.inr rfl
                        have hvb : in64 ((sJ S 9 0 (12 * jn a + k)).toInt + (sJ S 9 0 (12 * jn b + k)).toInt * c2.toInt) ↔ ¬ ovA t (sJ S 9 0 (12 * jn a + k)) (sJ S 9 0 (12 * jn b + k)) := by
                          unfold ovA
                          rw [hc2]
                          rcases h01 with h | h
                          · rw [if_pos h, Int.mul_one]; simp [h]
                          · rw [if_neg (by rw [h]; decide), Int.mul_neg, Int.mul_one]; simp [h, Int.sub_eq_add_neg]
                        have hbx1 := i64_lo (sJ S 9 0 (12 * jn a + k))
                        have hbx2 := i64_hi (sJ S 9 0 (12 * jn a + k))
                        have hby1 := i64_lo (sJ S 9 0 (12 * jn b + k))
                        have hby2 := i64_hi (sJ S 9 0 (12 * jn b + k))
                        refine cvV (n := 2) C w hl dX6_act_274 (c_X6_add l G hM (wm S1 ((sJ S 9 0 (12 * jn a + k)).toInt)) _ (sJ_wm_0 S1 _) (sJ_wm_1 S1 _) (sJ S 9 0 (12 * jn b + k)) c2 (by rcases hcb with h | h <;> rw [h] <;> constructor <;> omega) (by rcases hcb with h | h <;> rw [h] <;> decide)) gX6_act_X6_add rfl (by decide +kernel) rfl rfl (Nat.le_of_ble_eq_true rfl) ⟨by decide, by decide⟩ (by decide) rfl (oM6 hM) (fun S4 H locs hp w => ?_)
                        rw [wm_wm] at hp
                        subst hp
                        refine lv_aload_n hx hb dX6_act_277 rfl (lv_at hl 0 rfl) ?_
                        refine cvI (n := 0) C w hl dX6_act_278 (c_X6_fits l G hM (wm S1 ((sJ S 9 0 (12 * jn a + k)).toInt + (sJ S 9 0 (12 * jn b + k)).toInt * c2.toInt)) _ (sJ_wm_0 S1 _) (sJ_wm_1 S1 _) (by rcases hcb with h | h <;> rw [h] <;> omega) (by rcases hcb with h | h <;> rw [h] <;> omega)) gX6_act_X6_fits rfl (by decide +kernel) rfl rfl (Nat.le_of_ble_eq_true rfl) ⟨by decide, by decide⟩ (by decide) rfl (oM6 hM) (fun v5 S5 H locs hp w => ?_)
                        obtain ⟨q5, e0⟩ := hp
                        rw [e0] at w
                        replace q5 := imp_of hvb q5
                        refine lv_if_ne (tgt := 287) hx hb dX6_act_281 (by decide) (fun c_281 => ?_) (fun c_281 => ?_)
                        · refine lv_aload_n hx hb dX6_act_287 rfl (lv_at hl 0 rfl) ?_
                          refine cvL (n := 0) C w hl dX6_act_288 (c_X6_number l G hM (wm S1 ((sJ S 9 0 (12 * jn a + k)).toInt + (sJ S 9 0 (12 * jn b + k)).toInt * c2.toInt)) _ (sJ_wm_0 S1 _) (sJ_wm_1 S1 _)) gX6_act_X6_number rfl (by decide +kernel) rfl rfl (Nat.le_of_ble_eq_true rfl) ⟨by decide, by decide⟩ (by decide) rfl (oM6 hM) (fun v6 S6 H locs hp w => ?_)
                          obtain ⟨e6, e0⟩ := hp
                          rw [e0] at w
                          have hov := yes_of q5 c_281
                          have hvv : v6 = cG t (fun k => sJ S 9 0 (12 * jn a + k)) (fun k => sJ S 9 0 (12 * jn b + k)) (jn (sI S 8 2 (jn a))) k := by
                            rw [e6, hc2]; unfold cG
                            rcases h01 with h | h
                            · rw [if_pos h, if_pos h, Int.mul_one]; exact (i64_add _ _).symm
                            · rw [if_neg (by rw [h]; decide), if_neg (by rw [h]; decide), if_pos h, Int.mul_neg, Int.mul_one, ← Int.sub_eq_add_neg]; exact (i64_sub _ _).symm
                          refine lv_lstore hx hb dX6_act_291 hl (by decide) rfl (fun ls hl => ?_)
                          exact join_293 _ _ _ _ _ (by first | exact hH | exact ⟨hE.tr (eqM_wm _ _ _), hH.2.1, hH.2.2.1, hH.2.2.2.1, fun j hj => by rw [sJ_wm_n (by decide)]; exact hH.2.2.2.2 j hj⟩) (by first | exact hvv | exact hv (Int32.not_lt.mpr c_246)) (by first | exact hov | (rintro (h | h) <;> (rw [h.1] at c_246; exact absurd c_246 (by decide)))) w (lv_sub hl [1, 2, 3, 4, 5, 6, 0] rfl)
                        · refine lv_bipush (v := (-16)) hx hb dX6_act_284 (by decide) ?_
                          exact hret _ _ _ _ _ _ dX6_act_286 w (by unfold spAct; rw [if_pos ⟨ha, hb2⟩, if_pos ht, if_neg hnf, if_pos hpf]; exact Or.inr ⟨ovP_iff.mpr ⟨k, by omega, Classical.not_not.mp (no_of q5 c_281)⟩, rfl, hE.tr (eqM_wm _ _ _)⟩)
                      refine lv_aload_n hx hb dX6_act_249 rfl (lv_at hl 1 rfl) ?_
                      refine cvV (n := 0) C w hl dX6_act_250 (c_X6_zero l G hM S1) gX6_act_X6_zero rfl (by decide +kernel) rfl rfl (Nat.le_of_ble_eq_true rfl) ⟨by decide, by decide⟩ (by decide) rfl (oM6 hM) (fun S4 H locs hp w => ?_)
                      subst hp
                      refine lv_aload_n hx hb dX6_act_253 rfl (lv_at hl 1 rfl) ?_
                      refine lv_lload hx hb dX6_act_254 (lv_at hl 7 rfl) ?_
                      refine lv_lconst (v := 1) hx hb dX6_act_256 (by decide) ?_
                      refine cvV (n := 2) C w hl dX6_act_257 (c_X6_add l G hM (wm S1 0) 0 (sJ_wm_0 S1 0) (sJ_wm_1 S1 0) (sJ S 9 0 (12 * jn a + k)) 1 (by rw [show (1 : Int64).toInt = 1 from rfl]; constructor <;> omega) (by decide)) gX6_act_X6_add rfl (by decide +kernel) rfl rfl (Nat.le_of_ble_eq_true rfl) ⟨by decide, by decide⟩ (by decide) rfl (oM6 hM) (fun S4 H locs hp w => ?_)
                      rw [wm_wm, Int.zero_add, show (1 : Int64).toInt = 1 from rfl, Int.mul_one] at hp
                      subst hp
                      refine lv_aload_n hx hb dX6_act_260 rfl (lv_at hl 1 rfl) ?_
                      refine lv_lload hx hb dX6_act_261 (lv_at hl 8 rfl) ?_
                      refine lv_iload_n hx hb dX6_act_263 rfl (lv_at hl 2 rfl) ?_
                      refine lv_if_ne (tgt := 271) hx hb dX6_act_264 (by decide) (fun c_264 => ?_) (fun c_264 => ?_)
                      · refine lv_ldc2 (v := (-1)) hx hb hown (hts (.constantLong RX6 112 (-1)) (by decide +kernel)) dX6_act_271 ?_
                        exact join_274 _ _ _ _ (by first | (rw [if_pos c_264]; rfl) | (rw [if_neg c_264]; rfl)) w (lv_sub hl [1, 2, 3, 4, 5, 6, 7, 8] rfl)
                      · refine lv_lconst (v := 1) hx hb dX6_act_267 (by decide) ?_
                        refine lv_goto (tgt := 274) hx hb dX6_act_268 (by decide) ?_
                        exact join_274 _ _ _ _ (by first | (rw [if_pos c_264]; rfl) | (rw [if_neg c_264]; rfl)) w (lv_sub hl [1, 2, 3, 4, 5, 6, 7, 8] rfl)
                  refine lv_iload_n hx hb dX6_act_184 rfl (lv_at hl 3 rfl) ?_
                  refine lv_iconst (v := 4) hx hb dX6_act_185 (by decide) ?_
                  refine lv_icmp_ne (tgt := 207) hx hb dX6_act_186 (by decide) (fun c_186 => ?_) (fun c_186 => ?_)
                  · refine lv_iload_n hx hb dX6_act_207 rfl (lv_at hl 3 rfl) ?_
                    refine lv_iconst (v := 5) hx hb dX6_act_208 (by decide) ?_
                    refine lv_icmp_ne (tgt := 230) hx hb dX6_act_209 (by decide) (fun c_209 => ?_) (fun c_209 => ?_)
                    · refine lv_iload hx hb dX6_act_230 (lv_at hl 6 rfl) ?_
                      refine lv_if_eq (tgt := 240) hx hb dX6_act_232 (by decide) (fun c_232 => ?_) (fun c_232 => ?_)
                      · refine lv_lload hx hb dX6_act_240 (lv_at hl 0 rfl) ?_
                        refine join_242 _ _ _ _ (fun h2 => ?_) w (lv_sub hl [2, 3, 4, 5, 6, 7, 1, 0] rfl)
                        first
                          | (rw [cG_4 c_186, if_neg (Int64.not_lt.mpr c_194)])
                          | (rw [cG_4 c_186, if_pos (Int64.not_le.mp c_194)])
                          | (rw [cG_5 c_186 (by rw [c_209]; decide) (by rw [c_209]; decide) (by rw [c_209]; decide) (by rw [c_209]; decide)]; first | (rw [if_neg (fun q => c_217 (Int64.le_of_lt q))]) | (by_cases q : sJ S 9 0 (12 * jn b + k) < sJ S 9 0 (12 * jn a + k); rw [if_pos q]; rw [if_neg q]; exact Int64.le_antisymm c_217 (Int64.not_lt.mp q)))
                          | (have h23 : t = 2 ∨ t = 3 := by
                               rcases ht6 with h | h | h | h | h | h
                               · rw [h] at h2; exact absurd (by decide) h2
                               · rw [h] at h2; exact absurd (by decide) h2
                               · exact Or.inl h
                               · exact Or.inr h
                               · exact absurd h c_186
                               · exact absurd h c_209
                             first
                               | exact (cG_f h23 k (yes_of hf c_232)).symm
                               | exact (cG_n h23 k (no_of hf c_232)).symm)
                      · refine lv_lload hx hb dX6_act_235 (lv_at hl 1 rfl) ?_
                        refine lv_goto (tgt := 242) hx hb dX6_act_237 (by decide) ?_
                        refine join_242 _ _ _ _ (fun h2 => ?_) w (lv_sub hl [2, 3, 4, 5, 6, 7, 1, 0] rfl)
                        first
                          | (rw [cG_4 c_186, if_neg (Int64.not_lt.mpr c_194)])
                          | (rw [cG_4 c_186, if_pos (Int64.not_le.mp c_194)])
                          | (rw [cG_5 c_186 (by rw [c_209]; decide) (by rw [c_209]; decide) (by rw [c_209]; decide) (by rw [c_209]; decide)]; first | (rw [if_neg (fun q => c_217 (Int64.le_of_lt q))]) | (by_cases q : sJ S 9 0 (12 * jn b + k) < sJ S 9 0 (12 * jn a + k); rw [if_pos q]; rw [if_neg q]; exact Int64.le_antisymm c_217 (Int64.not_lt.mp q)))
                          | (have h23 : t = 2 ∨ t = 3 := by
                               rcases ht6 with h | h | h | h | h | h
                               · rw [h] at h2; exact absurd (by decide) h2
                               · rw [h] at h2; exact absurd (by decide) h2
                               · exact Or.inl h
                               · exact Or.inr h
                               · exact absurd h c_186
                               · exact absurd h c_209
                             first
                               | exact (cG_f h23 k (yes_of hf c_232)).symm
                               | exact (cG_n h23 k (no_of hf c_232)).symm)
                    · refine lv_lload hx hb dX6_act_212 (lv_at hl 1 rfl) ?_
                      refine lv_lload hx hb dX6_act_214 (lv_at hl 0 rfl) ?_
                      refine W.lcmp hx hb dX6_act_216 ?_
                      refine lv_if_ge (tgt := 225) hx hb dX6_act_217 (by decide) (fun c_217 => ?_) (fun c_217 => ?_)
                      · rw [lg_cmp_ge] at c_217
                        refine lv_lload hx hb dX6_act_225 (lv_at hl 0 rfl) ?_
                        refine lv_goto (tgt := 242) hx hb dX6_act_227 (by decide) ?_
                        refine join_242 _ _ _ _ (fun h2 => ?_) w (lv_sub hl [2, 3, 4, 5, 6, 7, 1, 0] rfl)
                        first
                          | (rw [cG_4 c_186, if_neg (Int64.not_lt.mpr c_194)])
                          | (rw [cG_4 c_186, if_pos (Int64.not_le.mp c_194)])
                          | (rw [cG_5 c_186 (by rw [c_209]; decide) (by rw [c_209]; decide) (by rw [c_209]; decide) (by rw [c_209]; decide)]; first | (rw [if_neg (fun q => c_217 (Int64.le_of_lt q))]) | (by_cases q : sJ S 9 0 (12 * jn b + k) < sJ S 9 0 (12 * jn a + k); rw [if_pos q]; rw [if_neg q]; exact Int64.le_antisymm c_217 (Int64.not_lt.mp q)))
                          | (have h23 : t = 2 ∨ t = 3 := by
                               rcases ht6 with h | h | h | h | h | h
                               · rw [h] at h2; exact absurd (by decide) h2
                               · rw [h] at h2; exact absurd (by decide) h2
                               · exact Or.inl h
                               · exact Or.inr h
                               · exact absurd h c_186
                               · exact absurd h c_209
                             first
                               | exact (cG_f h23 k (yes_of hf c_232)).symm
                               | exact (cG_n h23 k (no_of hf c_232)).symm)
                      · rw [lg_cmp_ge] at c_217
                        refine lv_lload hx hb dX6_act_220 (lv_at hl 1 rfl) ?_
                        refine lv_goto (tgt := 242) hx hb dX6_act_222 (by decide) ?_
                        refine join_242 _ _ _ _ (fun h2 => ?_) w (lv_sub hl [2, 3, 4, 5, 6, 7, 1, 0] rfl)
                        first
                          | (rw [cG_4 c_186, if_neg (Int64.not_lt.mpr c_194)])
                          | (rw [cG_4 c_186, if_pos (Int64.not_le.mp c_194)])
                          | (rw [cG_5 c_186 (by rw [c_209]; decide) (by rw [c_209]; decide) (by rw [c_209]; decide) (by rw [c_209]; decide)]; first | (rw [if_neg (fun q => c_217 (Int64.le_of_lt q))]) | (by_cases q : sJ S 9 0 (12 * jn b + k) < sJ S 9 0 (12 * jn a + k); rw [if_pos q]; rw [if_neg q]; exact Int64.le_antisymm c_217 (Int64.not_lt.mp q)))
                          | (have h23 : t = 2 ∨ t = 3 := by
                               rcases ht6 with h | h | h | h | h | h
                               · rw [h] at h2; exact absurd (by decide) h2
                               · rw [h] at h2; exact absurd (by decide) h2
                               · exact Or.inl h
                               · exact Or.inr h
                               · exact absurd h c_186
                               · exact absurd h c_209
                             first
                               | exact (cG_f h23 k (yes_of hf c_232)).symm
                               | exact (cG_n h23 k (no_of hf c_232)).symm)
                  · refine lv_lload hx hb dX6_act_189 (lv_at hl 1 rfl) ?_
                    refine lv_lload hx hb dX6_act_191 (lv_at hl 0 rfl) ?_
                    refine W.lcmp hx hb dX6_act_193 ?_
                    refine lv_if_le (tgt := 202) hx hb dX6_act_194 (by decide) (fun c_194 => ?_) (fun c_194 => ?_)
                    · rw [lg_cmp_le] at c_194
                      refine lv_lload hx hb dX6_act_202 (lv_at hl 0 rfl) ?_
                      refine lv_goto (tgt := 242) hx hb dX6_act_204 (by decide) ?_
                      refine join_242 _ _ _ _ (fun h2 => ?_) w (lv_sub hl [2, 3, 4, 5, 6, 7, 1, 0] rfl)
                      first
                        | (rw [cG_4 c_186, if_neg (Int64.not_lt.mpr c_194)])
                        | (rw [cG_4 c_186, if_pos (Int64.not_le.mp c_194)])
                        | (rw [cG_5 c_186 (by rw [c_209]; decide) (by rw [c_209]; decide) (by rw [c_209]; decide) (by rw [c_209]; decide)]; first | (rw [if_neg (fun q => c_217 (Int64.le_of_lt q))]) | (by_cases q : sJ S 9 0 (12 * jn b + k) < sJ S 9 0 (12 * jn a + k); rw [if_pos q]; rw [if_neg q]; exact Int64.le_antisymm c_217 (Int64.not_lt.mp q)))
                        | (have h23 : t = 2 ∨ t = 3 := by
                             rcases ht6 with h | h | h | h | h | h
                             · rw [h] at h2; exact absurd (by decide) h2
                             · rw [h] at h2; exact absurd (by decide) h2
                             · exact Or.inl h
                             · exact Or.inr h
                             · exact absurd h c_186
                             · exact absurd h c_209
                           first
                             | exact (cG_f h23 k (yes_of hf c_232)).symm
                             | exact (cG_n h23 k (no_of hf c_232)).symm)
                    · rw [lg_cmp_le] at c_194
                      refine lv_lload hx hb dX6_act_197 (lv_at hl 1 rfl) ?_
                      refine lv_goto (tgt := 242) hx hb dX6_act_199 (by decide) ?_
                      refine join_242 _ _ _ _ (fun h2 => ?_) w (lv_sub hl [2, 3, 4, 5, 6, 7, 1, 0] rfl)
                      first
                        | (rw [cG_4 c_186, if_neg (Int64.not_lt.mpr c_194)])
                        | (rw [cG_4 c_186, if_pos (Int64.not_le.mp c_194)])
                        | (rw [cG_5 c_186 (by rw [c_209]; decide) (by rw [c_209]; decide) (by rw [c_209]; decide) (by rw [c_209]; decide)]; first | (rw [if_neg (fun q => c_217 (Int64.le_of_lt q))]) | (by_cases q : sJ S 9 0 (12 * jn b + k) < sJ S 9 0 (12 * jn a + k); rw [if_pos q]; rw [if_neg q]; exact Int64.le_antisymm c_217 (Int64.not_lt.mp q)))
                        | (have h23 : t = 2 ∨ t = 3 := by
                             rcases ht6 with h | h | h | h | h | h
                             · rw [h] at h2; exact absurd (by decide) h2
                             · rw [h] at h2; exact absurd (by decide) h2
                             · exact Or.inl h
                             · exact Or.inr h
                             · exact absurd h c_186
                             · exact absurd h c_209
                           first
                             | exact (cG_f h23 k (yes_of hf c_232)).symm
                             | exact (cG_n h23 k (no_of hf c_232)).symm)
              exact loop_145 (jn (sI S 8 2 (jn a))) 0 _ _ _ _ (by omega) ⟨hE, hl0, hl1, hl2, fun _ h => absurd h (Nat.not_lt_zero _)⟩ lt_0 w (lv_sub hl [2, 3, 4, 5, 1, 0] rfl)
            refine lv_iload_n hx hb dX6_act_112 rfl (lv_at hl 3 rfl) ?_
            refine lv_iconst (v := 2) hx hb dX6_act_113 (by decide) ?_
            refine lv_icmp_ne (tgt := 130) hx hb dX6_act_114 (by decide) (fun c_114 => ?_) (fun c_114 => ?_)
            · refine lv_iload hx hb dX6_act_130 (lv_at hl 0 rfl) ?_
              refine lv_if_gt (tgt := 139) hx hb dX6_act_132 (by decide) (fun c_132 => ?_) (fun c_132 => ?_)
              · refine lv_iconst (v := 0) hx hb dX6_act_139 (by decide) ?_
                exact join_140 _ _ _ _ (by rw [← q4]; first | exact Or.inl ⟨rfl, Or.inl ⟨c_114, c_119⟩⟩ | exact Or.inr ⟨rfl, fun q => q.elim (fun h => h.2 c_119) (fun h => h.1 c_114)⟩ | exact Or.inl ⟨rfl, Or.inr ⟨c_114, c_132⟩⟩ | exact Or.inr ⟨rfl, fun q => q.elim (fun h => c_114 h.1) (fun h => h.2 c_132)⟩) w (lv_sub hl [2, 3, 4, 5] rfl)
              · refine lv_iconst (v := 1) hx hb dX6_act_135 (by decide) ?_
                refine lv_goto (tgt := 140) hx hb dX6_act_136 (by decide) ?_
                exact join_140 _ _ _ _ (by rw [← q4]; first | exact Or.inl ⟨rfl, Or.inl ⟨c_114, c_119⟩⟩ | exact Or.inr ⟨rfl, fun q => q.elim (fun h => h.2 c_119) (fun h => h.1 c_114)⟩ | exact Or.inl ⟨rfl, Or.inr ⟨c_114, c_132⟩⟩ | exact Or.inr ⟨rfl, fun q => q.elim (fun h => c_114 h.1) (fun h => h.2 c_132)⟩) w (lv_sub hl [2, 3, 4, 5] rfl)
            · refine lv_iload hx hb dX6_act_117 (lv_at hl 0 rfl) ?_
              refine lv_if_lt (tgt := 126) hx hb dX6_act_119 (by decide) (fun c_119 => ?_) (fun c_119 => ?_)
              · refine lv_iconst (v := 0) hx hb dX6_act_126 (by decide) ?_
                refine lv_goto (tgt := 140) hx hb dX6_act_127 (by decide) ?_
                exact join_140 _ _ _ _ (by rw [← q4]; first | exact Or.inl ⟨rfl, Or.inl ⟨c_114, c_119⟩⟩ | exact Or.inr ⟨rfl, fun q => q.elim (fun h => h.2 c_119) (fun h => h.1 c_114)⟩ | exact Or.inl ⟨rfl, Or.inr ⟨c_114, c_132⟩⟩ | exact Or.inr ⟨rfl, fun q => q.elim (fun h => c_114 h.1) (fun h => h.2 c_132)⟩) w (lv_sub hl [2, 3, 4, 5] rfl)
              · refine lv_iconst (v := 1) hx hb dX6_act_122 (by decide) ?_
                refine lv_goto (tgt := 140) hx hb dX6_act_123 (by decide) ?_
                exact join_140 _ _ _ _ (by rw [← q4]; first | exact Or.inl ⟨rfl, Or.inl ⟨c_114, c_119⟩⟩ | exact Or.inr ⟨rfl, fun q => q.elim (fun h => h.2 c_119) (fun h => h.1 c_114)⟩ | exact Or.inl ⟨rfl, Or.inr ⟨c_114, c_132⟩⟩ | exact Or.inr ⟨rfl, fun q => q.elim (fun h => c_114 h.1) (fun h => h.2 c_132)⟩) w (lv_sub hl [2, 3, 4, 5] rfl)
          · refine lv_iload hx hb dX6_act_59 (lv_at hl 0 rfl) ?_
            exact hret _ _ _ _ _ _ dX6_act_61 w (by unfold spAct; rw [if_pos ⟨ha, hb2⟩, if_pos ht, if_neg hnf, if_neg (by rw [q3] at c_56; exact pairF_lt c_56)]; exact ⟨q3, eqM.rf S n⟩)
        · have hnf : n = 60 := (nI_eq (b := 60) (by omega) (by decide)).mp c_40
          refine lv_bipush (v := (-4)) hx hb dX6_act_43 (by decide) ?_
          exact hret _ _ _ _ _ _ dX6_act_45 w (by unfold spAct; rw [if_pos ⟨ha, hb2⟩, if_pos ht, if_pos hnf]; exact ⟨rfl, eqM.rf S n⟩)
      · refine lv_bipush (v := (-3)) hx hb dX6_act_31 (by decide) ?_
        exact hret _ _ _ _ _ _ dX6_act_33 w (by unfold spAct; rw [if_pos ⟨ha, hb2⟩, if_neg (no_of q7 c_28)]; exact ⟨rfl, eqM.rf S n⟩)
    · refine lv_bipush (v := (-2)) hx hb dX6_act_16 (by decide) ?_
      exact hret _ _ _ _ _ _ dX6_act_18 w (by unfold spAct; rw [if_neg (fun q => by first | exact no_of q1 c_5 q.1 | exact no_of q2 c_13 q.2)]; exact ⟨rfl, eqM.rf S n⟩)
