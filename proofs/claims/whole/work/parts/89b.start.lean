def gvn : Cond := Jvm.Cond.and given_1 narrow_1
theorem law_KS {s : State} {args : Array Value} (hts : ∀ w ∈ lw_tbl, w.before args s = true) (hgv : gvn.before args s = true) : ∃ k : SK, KS k (fun q => s.heap.size ≤ q) s s.heap := by
  have hs := flat_of_before _ hgv
  have hA : ∀ a : Nat, a < s.heap.size → ¬ (fun q : Nat => s.heap.size ≤ q) a := fun a h => Nat.not_le.mpr h
  obtain ⟨aK, aV, hS, hE⟩ := vk_Sof (args := args) (s := s) (N := 6) (tm := tmS) (len := sLen) (byt := sByt) (A := fun q => s.heap.size ≤ q) (by decide +kernel) (fun i hi => hs _ ((by decide +kernel : ∀ i, i < 6 → (Cond.exactly (tmS i) "java/lang/String") ∈ flatC gvn) i hi)) (fun i hi => hs _ ((by decide +kernel : ∀ i, i < 6 → (Cond.eq (.field (tmS i) "java/lang/String" "coder" "B") (.int 0)) ∈ flatC gvn) i hi))
    (fun i hi => hs _ ((by decide +kernel : ∀ i, i < 6 → (Cond.arrayOf (.field (tmS i) "java/lang/String" "value" "[B") .byte) ∈ flatC gvn) i hi)) (fun i hi => hs _ ((by decide +kernel : ∀ i, i < 6 → (Cond.eq (.length (.field (tmS i) "java/lang/String" "value" "[B")) (.int (Int32.ofNat (sLen.getD i 0)))) ∈ flatC gvn) i hi))
    (fun i hi j hj => hs _ ((by decide +kernel : ∀ i, i < 6 → ∀ j, j < sLen.getD i 0 → (Cond.eq (.elem (.field (tmS i) "java/lang/String" "value" "[B") (.int (Int32.ofNat j))) (.int ((sByt.getD i []).getD j 0))) ∈ flatC gvn) i hi j hj))
    (fun i j hi hj hij => ((by decide +kernel : ∀ i, i < 6 → ∀ j, j < 6 → i ≠ j → (Cond.not (Cond.eq (tmS i) (tmS j))) ∈ flatC gvn ∨ (Cond.not (Cond.eq (tmS j) (tmS i))) ∈ flatC gvn) i hi j hj hij).imp (hs _) (hs _)) hA
  have sam : ∀ {t1 t2 : Term} {a : Nat}, (Cond.eq t1 t2).before args s = true → t1.eval args s none [] s = some (.ref a) → t2.eval args s none [] s = some (.ref a) := fun h e => by
    obtain ⟨y, y1, y2⟩ := Cond.eq_one h
    rw [y2, ← y1, e]
  have sam' : ∀ {t1 t2 : Term} {a : Nat}, (Cond.eq t1 t2).before args s = true → t2.eval args s none [] s = some (.ref a) → t1.eval args s none [] s = some (.ref a) := fun h e => by
    obtain ⟨y, y1, y2⟩ := Cond.eq_one h
    rw [y1, ← y2, e]
  have e0 := hE 0 (by decide)
  have e1 := hE 1 (by decide)
  have e2 := hE 2 (by decide)
  have e3 := hE 3 (by decide)
  have e4 := hE 4 (by decide)
  have e5 := hE 5 (by decide)
  have c0 : (Cond.eq (.static "java/lang/String" "COMPACT_STRINGS" "Z") (.int 1)).before args s = true := hs _ (by decide +kernel)
  have v0 : (Term.static "java/lang/String" "COMPACT_STRINGS" "Z").eval args s none [] s = some (.int 1) := by
    obtain ⟨y, y1, y2⟩ := Cond.eq_one c0
    rw [y1, ← y2]; rfl
  refine ⟨(aK, aV), hS, va_Zof (hts _ (by decide +kernel)) (hts _ (by decide +kernel)) v0 hA, va_Zqof (hts _ (by decide +kernel)) (hts _ (by decide +kernel)) (hs _ (by decide +kernel)) hA, ?_⟩
  refine ⟨vk_R.of (hts (.stringRef RX0 42 "hard/") (by decide +kernel)) e0, vk_R.of (hts (.stringRef RX0 48 "medium/") (by decide +kernel)) e1, vk_R.of (hts (.stringRef RX0 50 "soft") (by decide +kernel)) e2, vk_R.of (hts (.stringRef RX0 52 "[") (by decide +kernel)) e3, vk_R.of (hts (.stringRef RX0 61 "]hard/[") (by decide +kernel)) e4, vk_R.of (hts (.stringRef RX0 66 "]soft") (by decide +kernel)) e5,
    vk_R.of (hts (.stringRef RX3 43 "hard/") (by decide +kernel)) ?_, vk_R.of (hts (.stringRef RX3 51 "medium/") (by decide +kernel)) ?_, vk_R.of (hts (.stringRef RX3 49 "soft") (by decide +kernel)) ?_, vk_R.of (hts (.stringRef RX3 57 "]hard/[") (by decide +kernel)) ?_, vk_R.of (hts (.stringRef RX3 59 "]soft") (by decide +kernel)) ?_⟩
  · first | exact sam (hs _ (by decide +kernel)) e0 | exact sam' (hs _ (by decide +kernel)) e0
  · first | exact sam (hs _ (by decide +kernel)) e1 | exact sam' (hs _ (by decide +kernel)) e1
  · first | exact sam (hs _ (by decide +kernel)) e2 | exact sam' (hs _ (by decide +kernel)) e2
  · first | exact sam (hs _ (by decide +kernel)) e4 | exact sam' (hs _ (by decide +kernel)) e4
  · first | exact sam (hs _ (by decide +kernel)) e5 | exact sam' (hs _ (by decide +kernel)) e5
theorem law_xZ {s : State} {args : Array Value} (hts : ∀ w ∈ lw_tbl, w.before args s = true) (hgv : gvn.before args s = true) : xZ (fun q => s.heap.size ≤ q) s s.heap := by
  have hs := flat_of_before _ hgv
  have hA : ∀ a : Nat, a < s.heap.size → ¬ (fun q : Nat => s.heap.size ≤ q) a := fun a h => Nat.not_le.mpr h
  exact ⟨vx_Zqof (hts _ (by decide +kernel)) (hts _ (by decide +kernel)) (hs _ (by decide +kernel)) hA, vx_Zqof (hts _ (by decide +kernel)) (hts _ (by decide +kernel)) (hs _ (by decide +kernel)) hA⟩
theorem law_xK {s : State} {args : Array Value} (hts : ∀ w ∈ lw_tbl, w.before args s = true) (hgv : gvn.before args s = true) : ∃ a0 a1 a2, xK a0 a1 a2 s := by
  have hs := flat_of_before _ hgv
  obtain ⟨a0, -, -, -, e0, -⟩ := Cond.exactly_spec (args := args) (first := s) (o := none) (s := s) (idx := []) (t := .string RX5 79) (cls := "java/lang/String") (hs _ (by decide +kernel))
  obtain ⟨a1, -, -, -, e1, -⟩ := Cond.exactly_spec (args := args) (first := s) (o := none) (s := s) (idx := []) (t := .string RX5 86) (cls := "java/lang/String") (hs _ (by decide +kernel))
  obtain ⟨a2, -, -, -, e2, -⟩ := Cond.exactly_spec (args := args) (first := s) (o := none) (s := s) (idx := []) (t := .string RX5 89) (cls := "java/lang/String") (hs _ (by decide +kernel))
  exact ⟨a0, a1, a2, vk_R.of (hts (.stringRef RX5 79 "no such score") (by decide +kernel)) e0, vk_R.of (hts (.stringRef RX5 86 "the number has nothing") (by decide +kernel)) e1, vk_R.of (hts (.stringRef RX5 89 "no such level") (by decide +kernel)) e2, fun w hw => va_Nw.of (dc_on (xB1_dc w hw)) (hts w (xB1_in w hw)), fun w hw => va_Nw.of (dc_on (xB2_dc w hw)) (hts w (xB2_in w hw)), va_Nc.of (args := args) (hs _ (by decide +kernel))⟩
