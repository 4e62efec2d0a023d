/-! A pool: things are named by (kind, place). Kinds 0 .. 6 are the classes of vwCl, 7 byte rows, 8 int rows, 9 long rows, 10 rows of scores.
The ghost G of a pool: class ids and slots, array classes, the list of its things, their addresses, the rows' lengths. Its state S: ints, longs, references (as places). -/
abbrev GT : Type := va_G × (ClassId × ClassId × ClassId × ClassId) × List (Nat × Nat) × (Nat → Nat → Nat) × (Nat → Nat → Nat)
def gD (G : GT) : va_G := G.1
def gB (G : GT) : ClassId := G.2.1.1
def gI (G : GT) : ClassId := G.2.1.2.1
def gJ (G : GT) : ClassId := G.2.1.2.2.1
def gO (G : GT) : ClassId := G.2.1.2.2.2
def gP (G : GT) : List (Nat × Nat) := G.2.2.1
def gA (G : GT) : Nat → Nat → Nat := G.2.2.2.1
def gN (G : GT) : Nat → Nat → Nat := G.2.2.2.2
def gT (G : GT) : List (ClassId × FieldType) := [(gB G, .byte), (gI G, .int), (gJ G, .long), (gO G, .object "LevelScores$Score")]
def PS : Type := (Nat → Nat → Nat → Int32) × (Nat → Nat → Nat → Int64) × (Nat → Nat → Nat → Option Nat)
def sI (S : PS) : Nat → Nat → Nat → Int32 := S.1
def sJ (S : PS) : Nat → Nat → Nat → Int64 := S.2.1
def sQ (S : PS) : Nat → Nat → Nat → Option Nat := S.2.2
def uI (S : PS) (c r k : Nat) (v : Int32) : PS := (fun c' r' k' => if c' = c ∧ r' = r ∧ k' = k then v else S.1 c' r' k', S.2.1, S.2.2)
def uJ (S : PS) (c r k : Nat) (v : Int64) : PS := (S.1, fun c' r' k' => if c' = c ∧ r' = r ∧ k' = k then v else S.2.1 c' r' k', S.2.2)
def uQ (S : PS) (c r k : Nat) (v : Option Nat) : PS := (S.1, S.2.1, fun c' r' k' => if c' = c ∧ r' = r ∧ k' = k then v else S.2.2 c' r' k')
theorem sI_uI (S : PS) (c r k : Nat) (v : Int32) (c' r' k' : Nat) : sI (uI S c r k v) c' r' k' = if c' = c ∧ r' = r ∧ k' = k then v else sI S c' r' k' := rfl
theorem sJ_uI (S : PS) (c r k : Nat) (v : Int32) : sJ (uI S c r k v) = sJ S := rfl
theorem sQ_uI (S : PS) (c r k : Nat) (v : Int32) : sQ (uI S c r k v) = sQ S := rfl
theorem sJ_uJ (S : PS) (c r k : Nat) (v : Int64) (c' r' k' : Nat) : sJ (uJ S c r k v) c' r' k' = if c' = c ∧ r' = r ∧ k' = k then v else sJ S c' r' k' := rfl
theorem sI_uJ (S : PS) (c r k : Nat) (v : Int64) : sI (uJ S c r k v) = sI S := rfl
theorem sQ_uJ (S : PS) (c r k : Nat) (v : Int64) : sQ (uJ S c r k v) = sQ S := rfl
theorem sQ_uQ (S : PS) (c r k : Nat) (v : Option Nat) (c' r' k' : Nat) : sQ (uQ S c r k v) c' r' k' = if c' = c ∧ r' = r ∧ k' = k then v else sQ S c' r' k' := rfl
theorem sI_uQ (S : PS) (c r k : Nat) (v : Option Nat) : sI (uQ S c r k v) = sI S := rfl
theorem sJ_uQ (S : PS) (c r k : Nat) (v : Option Nat) : sJ (uQ S c r k v) = sJ S := rfl
theorem PS_ext {S T : PS} (h1 : ∀ c r k, sI S c r k = sI T c r k) (h2 : ∀ c r k, sJ S c r k = sJ T c r k) (h3 : ∀ c r k, sQ S c r k = sQ T c r k) : S = T := by
  obtain ⟨a, b, d⟩ := S
  obtain ⟨a', b', d'⟩ := T
  have e1 : a = a' := funext fun c => funext fun r => funext fun k => h1 c r k
  have e2 : b = b' := funext fun c => funext fun r => funext fun k => h2 c r k
  have e3 : d = d' := funext fun c => funext fun r => funext fun k => h3 c r k
  rw [e1, e2, e3]
/-- the fields of a class by their types: 0 int, 1 long, 2 boolean, k + 3 a reference to kind k -/
def fdT (c : Nat) : List Nat := match c with
  | 0 => [10, 0, 10]
  | 1 => [5, 13, 11, 0, 13, 0, 5, 7, 7]
  | 2 => [0, 0, 0, 12]
  | 3 => [10, 0, 0]
  | 4 => [1, 1]
  | 5 => [13, 0, 6, 3, 4, 7]
  | _ => [0, 11, 11, 11, 12, 0, 0, 0, 0, 12, 11, 0, 12, 0, 11, 0, 11, 0, 1, 1, 0, 2, 1, 12]
def vl (G : GT) (S : PS) (c r k t : Nat) : Value := match t with
  | 0 => .int (sI S c r k)
  | 1 => .long (sJ S c r k)
  | 2 => .int (sI S c r k)
  | t + 3 => va_rf ((sQ S c r k).map (gA G t))
def fv (G : GT) (S : PS) (c r : Nat) : List Value := (fdT c).mapIdx (fun k t => vl G S c r k t)
def en (G : GT) (S : PS) (c r : Nat) : va_E :=
  if c = 7 then .inl (gB G, gN G 7 r, .inl (sI S 7 r)) else if c = 8 then .inl (gI G, gN G 8 r, .inl (sI S 8 r)) else if c = 9 then .inl (gJ G, gN G 9 r, .inr (.inl (sJ S 9 r)))
  else if c = 10 then .inl (gO G, gN G 10 r, .inr (.inr (.inr (.inr (fun k => (sQ S 10 r k).map (gA G 2)))))) else .inr (c, fv G S c r)
def wl (G : GT) (S : PS) : va_W := (gP G).map (fun x => (gA G x.1 x.2, en G S x.1 x.2))
theorem wl_get {G : GT} (S : PS) {c r : Nat} (h : (c, r) ∈ gP G) : ∃ k : Nat, (wl G S)[k]? = some (gA G c r, en G S c r) := by
  obtain ⟨k, hk⟩ := List.getElem?_of_mem h
  exact ⟨k, by rw [wl, List.getElem?_map, hk]; rfl⟩
theorem wl_place {G : GT} {S : PS} {A : Nat → Prop} {c r k : Nat} (hD : va_D A (wl G S)) (h : (c, r) ∈ gP G) {e : va_E} (hk : (wl G S)[k]? = some (gA G c r, e)) : (gP G)[k]? = some (c, r) := by
  obtain ⟨k', hk'⟩ := List.getElem?_of_mem h
  have h2 : (wl G S)[k']? = some (gA G c r, en G S c r) := by rw [wl, List.getElem?_map, hk']; rfl
  have h3 := hD.1 k k' _ _ hk h2 rfl
  rw [h3]; exact hk'
theorem wl_set {G : GT} {S S' : PS} {A : Nat → Prop} {c r k : Nat} {e0 e : va_E} (hD : va_D A (wl G S)) (h : (c, r) ∈ gP G) (hk : (wl G S)[k]? = some (gA G c r, e0)) (he : en G S' c r = e) (hn : ∀ c' r', ¬ (c' = c ∧ r' = r) → en G S' c' r' = en G S c' r') : (wl G S).set k (gA G c r, e) = wl G S' := by
  have hp := wl_place hD h hk
  refine List.ext_getElem? fun j => ?_
  rw [List.getElem?_set]
  by_cases hj : k = j
  · subst hj
    have hlt : k < (wl G S).length := (List.getElem?_eq_some_iff.mp hk).1
    rw [if_pos rfl, if_pos hlt, wl, List.getElem?_map, hp, ← he]; rfl
  · rw [if_neg hj, wl, wl, List.getElem?_map, List.getElem?_map]
    cases hq : (gP G)[j]? with
    | none => rfl
    | some x =>
      obtain ⟨c2, r2⟩ := x
      have hne : ¬ (c2 = c ∧ r2 = r) := by
        rintro ⟨rfl, rfl⟩
        have h2 : (wl G S)[j]? = some (gA G c2 r2, en G S c2 r2) := by rw [wl, List.getElem?_map, hq]; rfl
        exact hj (hD.1 k j _ _ hk h2 rfl)
      show some (gA G c2 r2, en G S c2 r2) = some (gA G c2 r2, en G S' c2 r2)
      rw [hn c2 r2 hne]
theorem fv_get {G : GT} {S : PS} {c r k t : Nat} (h : (fdT c)[k]? = some t) : (fv G S c r)[k]? = some (vl G S c r k t) := by
  rw [fv, List.getElem?_mapIdx, h]; rfl
theorem fv_set {G : GT} {S S' : PS} {c r k t : Nat} (h : (fdT c)[k]? = some t) (hn : ∀ j t', j ≠ k → vl G S' c r j t' = vl G S c r j t') : fv G S' c r = (fv G S c r).set k (vl G S' c r k t) := by
  refine List.ext_getElem? fun j => ?_
  rw [List.getElem?_set]
  by_cases hj : k = j
  · subst hj
    have hlt : k < (fv G S c r).length := (List.getElem?_eq_some_iff.mp (fv_get (G := G) (S := S) (r := r) h)).1
    rw [if_pos rfl, if_pos hlt, fv_get h]
  · rw [if_neg hj, fv, fv, List.getElem?_mapIdx, List.getElem?_mapIdx]
    cases (fdT c)[j]? with
    | none => rfl
    | some t' => show some (vl G S' c r j t') = some (vl G S c r j t'); rw [hn j t' (fun q => hj q.symm)]
theorem en_obj {G : GT} {S : PS} {c r : Nat} (h : c < 7) : en G S c r = .inr (c, fv G S c r) := by
  unfold en
  rw [if_neg (by omega), if_neg (by omega), if_neg (by omega), if_neg (by omega)]
theorem fv_same {G : GT} {S S' : PS} {c r : Nat} (hi : ∀ k, sI S' c r k = sI S c r k) (hj : ∀ k, sJ S' c r k = sJ S c r k) (hq : ∀ k, sQ S' c r k = sQ S c r k) : fv G S' c r = fv G S c r := by
  unfold fv
  refine List.ext_getElem? fun k => ?_
  rw [List.getElem?_mapIdx, List.getElem?_mapIdx]
  cases (fdT c)[k]? with
  | none => rfl
  | some t =>
    show some _ = some _
    congr 1
    match t with
    | 0 => show Value.int _ = Value.int _; rw [hi]
    | 1 => show Value.long _ = Value.long _; rw [hj]
    | 2 => show Value.int _ = Value.int _; rw [hi]
    | t + 3 => show va_rf _ = va_rf _; rw [hq]
theorem en_same {G : GT} {S S' : PS} {c r : Nat} (hi : ∀ k, sI S' c r k = sI S c r k) (hj : ∀ k, sJ S' c r k = sJ S c r k) (hq : ∀ k, sQ S' c r k = sQ S c r k) : en G S' c r = en G S c r := by
  unfold en
  by_cases h7 : c = 7
  · subst h7; rw [if_pos rfl, if_pos rfl, show sI S' 7 r = sI S 7 r from funext hi]
  rw [if_neg h7, if_neg h7]
  by_cases h8 : c = 8
  · subst h8; rw [if_pos rfl, if_pos rfl, show sI S' 8 r = sI S 8 r from funext hi]
  rw [if_neg h8, if_neg h8]
  by_cases h9 : c = 9
  · subst h9; rw [if_pos rfl, if_pos rfl, show sJ S' 9 r = sJ S 9 r from funext hj]
  rw [if_neg h9, if_neg h9]
  by_cases h10 : c = 10
  · subst h10; rw [if_pos rfl, if_pos rfl, show sQ S' 10 r = sQ S 10 r from funext hq]
  rw [if_neg h10, if_neg h10, fv_same hi hj hq]
theorem uI_far {S : PS} {c r k : Nat} {v : Int32} {c' r' : Nat} (h : ¬ (c' = c ∧ r' = r)) {G : GT} : en G (uI S c r k v) c' r' = en G S c' r' :=
  en_same (fun j => by rw [sI_uI, if_neg (fun q => h ⟨q.1, q.2.1⟩)]) (fun _ => rfl) (fun _ => rfl)
theorem uJ_far {S : PS} {c r k : Nat} {v : Int64} {c' r' : Nat} (h : ¬ (c' = c ∧ r' = r)) {G : GT} : en G (uJ S c r k v) c' r' = en G S c' r' :=
  en_same (fun _ => rfl) (fun j => by rw [sJ_uJ, if_neg (fun q => h ⟨q.1, q.2.1⟩)]) (fun _ => rfl)
theorem uQ_far {S : PS} {c r k : Nat} {v : Option Nat} {c' r' : Nat} (h : ¬ (c' = c ∧ r' = r)) {G : GT} : en G (uQ S c r k v) c' r' = en G S c' r' :=
  en_same (fun _ => rfl) (fun _ => rfl) (fun j => by rw [sQ_uQ, if_neg (fun q => h ⟨q.1, q.2.1⟩)])
theorem vl_uI {G : GT} {S : PS} {c r k : Nat} {v : Int32} {j t : Nat} (h : j ≠ k) : vl G (uI S c r k v) c r j t = vl G S c r j t := by
  match t with
  | 0 => show Value.int _ = Value.int _; rw [sI_uI, if_neg (fun q => h q.2.2)]
  | 1 => rfl
  | 2 => show Value.int _ = Value.int _; rw [sI_uI, if_neg (fun q => h q.2.2)]
  | t + 3 => rfl
theorem vl_uJ {G : GT} {S : PS} {c r k : Nat} {v : Int64} {j t : Nat} (h : j ≠ k) : vl G (uJ S c r k v) c r j t = vl G S c r j t := by
  match t with
  | 0 => rfl
  | 1 => show Value.long _ = Value.long _; rw [sJ_uJ, if_neg (fun q => h q.2.2)]
  | 2 => rfl
  | t + 3 => rfl
theorem vl_uQ {G : GT} {S : PS} {c r k : Nat} {v : Option Nat} {j t : Nat} (h : j ≠ k) : vl G (uQ S c r k v) c r j t = vl G S c r j t := by
  match t with
  | 0 => rfl
  | 1 => rfl
  | 2 => rfl
  | t + 3 => show va_rf _ = va_rf _; rw [sQ_uQ, if_neg (fun q => h q.2.2)]
