/-! Whole numbers of more than 64 bits, in two halves: high and low of V. -/
def hiL (V : Int) : Int64 := Int64.ofInt (V / 4294967296)
def loL (V : Int) : Int64 := Int64.ofInt (V % 4294967296)
/-- within 64 bits -/
def in64 (V : Int) : Prop := -9223372036854775808 ≤ V ∧ V < 9223372036854775808
theorem i64_small {n : Int} (h1 : -9223372036854775808 ≤ n) (h2 : n < 9223372036854775808) : (Int64.ofInt n).toInt = n := Int64.toInt_ofInt_of_le (by omega) (by omega)
theorem i64_lo (x : Int64) : -9223372036854775808 ≤ x.toInt := by have := x.le_toInt; omega
theorem i64_hi (x : Int64) : x.toInt < 9223372036854775808 := by have := x.toInt_lt; omega
theorem shr32 (x : Int64) : x >>> ((32 : Int32).toInt64 &&& 63) = Int64.ofInt (x.toInt / 4294967296) := by
  apply Int64.toInt_inj.mp
  have h1 := i64_lo x
  have h2 := i64_hi x
  have hD : (((32 : Int32).toInt64 &&& 63).toBitVec.smod 64).toNat = 32 := by decide
  have e : (x >>> ((32 : Int32).toInt64 &&& 63)).toInt = x.toInt >>> 32 := by
    show (x.toBitVec.sshiftRight (((32 : Int32).toInt64 &&& 63).toBitVec.smod 64).toNat).toInt = _
    rw [hD, BitVec.toInt_sshiftRight]
    rfl
  rw [e, Int.shiftRight_eq_div_pow, i64_small (by omega) (by omega)]
  rfl
theorem toInt_cond (x : Int64) : x.toInt = if 2 * x.toBitVec.toNat < 2 ^ 64 then (x.toBitVec.toNat : Int) else (x.toBitVec.toNat : Int) - ((2 ^ 64 : Nat) : Int) := BitVec.toInt_eq_toNat_cond _
theorem and32 (x : Int64) : x &&& 4294967295 = Int64.ofInt (x.toInt % 4294967296) := by
  apply Int64.toBitVec_inj.mp
  apply BitVec.eq_of_toNat_eq
  show (x.toBitVec &&& 4294967295#64).toNat = (BitVec.ofInt 64 (x.toInt % 4294967296)).toNat
  rw [BitVec.toNat_and, show (4294967295#64).toNat = 2 ^ 32 - 1 from by decide, Nat.and_two_pow_sub_one_eq_mod, BitVec.toNat_ofInt]
  have h := toInt_cond x
  have h3 := x.toBitVec.isLt
  split at h <;> omega
theorem shl32 (x : Int64) : x <<< ((32 : Int32).toInt64 &&& 63) = x * Int64.ofInt 4294967296 := by
  have e : x * Int64.ofInt 4294967296 = Int64.ofInt (x.toInt * 4294967296) := by rw [Int64.ofInt_mul, Int64.ofInt_toInt]
  rw [e]
  apply Int64.toBitVec_inj.mp
  apply BitVec.eq_of_toNat_eq
  have hD : (((32 : Int32).toInt64 &&& 63).toBitVec.smod 64).toNat = 32 := by decide
  show (x.toBitVec <<< (((32 : Int32).toInt64 &&& 63).toBitVec.smod 64).toNat).toNat = (BitVec.ofInt 64 (x.toInt * 4294967296)).toNat
  rw [hD, BitVec.toNat_shiftLeft, Nat.shiftLeft_eq, BitVec.toNat_ofInt]
  have h := toInt_cond x
  have h3 := x.toBitVec.isLt
  split at h <;> omega
theorem hl_add (V : Int) : hiL V * Int64.ofInt 4294967296 + loL V = Int64.ofInt V := by
  unfold hiL loL
  rw [← Int64.ofInt_mul, ← Int64.ofInt_add]
  congr 1; omega
theorem shladd (V : Int) : hiL V <<< ((32 : Int32).toInt64 &&& 63) + loL V = Int64.ofInt V := by rw [shl32, hl_add]
theorem or_low {x y : Int64} {n : Nat} (hy : y.toBitVec.toNat = n) (hn : n < 4294967296) : (x <<< ((32 : Int32).toInt64 &&& 63)) ||| y = x <<< ((32 : Int32).toInt64 &&& 63) + y := by
  apply Int64.toBitVec_inj.mp
  have hD : (((32 : Int32).toInt64 &&& 63).toBitVec.smod 64).toNat = 32 := by decide
  show (x.toBitVec <<< (((32 : Int32).toInt64 &&& 63).toBitVec.smod 64).toNat) ||| y.toBitVec = (x.toBitVec <<< (((32 : Int32).toInt64 &&& 63).toBitVec.smod 64).toNat) + y.toBitVec
  rw [hD]
  apply BitVec.eq_of_toNat_eq
  rw [BitVec.toNat_or, BitVec.toNat_add, BitVec.toNat_shiftLeft, Nat.shiftLeft_eq, hy]
  have h3 := x.toBitVec.isLt
  have e : x.toBitVec.toNat * 2 ^ 32 % 2 ^ 64 = (x.toBitVec.toNat % 4294967296) <<< 32 := by rw [Nat.shiftLeft_eq]; omega
  have hlt : (x.toBitVec.toNat % 4294967296) <<< 32 + n < 2 ^ 64 := by rw [Nat.shiftLeft_eq]; omega
  rw [e, Nat.mod_eq_of_lt hlt]
  exact (Nat.shiftLeft_add_eq_or_of_lt (by omega) _).symm
theorem loL_nat (V : Int) : (loL V).toBitVec.toNat = (V % 4294967296).toNat := by
  show (BitVec.ofInt 64 (V % 4294967296)).toNat = _
  rw [BitVec.toNat_ofInt]; omega
theorem shlor (V : Int) : hiL V <<< ((32 : Int32).toInt64 &&& 63) ||| loL V = Int64.ofInt V := by
  rw [or_low (loL_nat V) (by omega), shladd]
theorem hiL_0 : hiL 0 = 0 := by decide
theorem loL_0 : loL 0 = 0 := by decide
theorem loL_int (V : Int) : (loL V).toInt = V % 4294967296 := i64_small (by omega) (by omega)
theorem hiL_int {V : Int} (h1 : -39614081257132168796771975168 ≤ V) (h2 : V < 39614081257132168796771975168) : (hiL V).toInt = V / 4294967296 := i64_small (by omega) (by omega)
theorem mul_bd {a F : Int} (h0 : 0 ≤ a) (h1 : a < 4294967296) (hF : -2147483648 ≤ F ∧ F ≤ 2147483648) : -9223372034707292160 ≤ a * F ∧ a * F ≤ 9223372034707292160 := by
  have e1 := Int.mul_le_mul_of_nonneg_left hF.1 h0
  have e2 := Int.mul_le_mul_of_nonneg_left hF.2 h0
  omega
theorem ofI_mulR (a : Int) (f : Int64) : Int64.ofInt a * f = Int64.ofInt (a * f.toInt) := by rw [Int64.ofInt_mul, Int64.ofInt_toInt]
theorem mul_split (v F : Int) : v * F = v / 4294967296 * F * 4294967296 + v % 4294967296 * F := by
  have h : v = v / 4294967296 * 4294967296 + v % 4294967296 := by omega
  have e : v * F = (v / 4294967296 * 4294967296 + v % 4294967296) * F := congrArg (· * F) h
  rw [e, Int.add_mul, Int.mul_right_comm]
/-- Wide.addProduct -/
theorem aP_hi (V : Int) (v f : Int64) (hf : -2147483648 ≤ f.toInt ∧ f.toInt ≤ 2147483648) : hiL V + (((v >>> ((32 : Int32).toInt64 &&& 63)) * f + (((v &&& 4294967295) * f) >>> ((32 : Int32).toInt64 &&& 63))) + ((loL V + (((v &&& 4294967295) * f) &&& 4294967295)) >>> ((32 : Int32).toInt64 &&& 63))) = hiL (V + v.toInt * f.toInt) := by
  have hb := mul_bd (a := v.toInt % 4294967296) (by omega) (by omega) hf
  rw [and32 v, ofI_mulR, shr32 v, ofI_mulR, shr32 (Int64.ofInt _), and32 (Int64.ofInt _), i64_small (by omega) (by omega)]
  unfold hiL loL
  rw [← Int64.ofInt_add (V % 4294967296), shr32, i64_small (by omega) (by omega), ← Int64.ofInt_add, ← Int64.ofInt_add, ← Int64.ofInt_add, mul_split v.toInt]
  congr 1
  omega
theorem aP_lo (V : Int) (v f : Int64) (hf : -2147483648 ≤ f.toInt ∧ f.toInt ≤ 2147483648) : (loL V + (((v &&& 4294967295) * f) &&& 4294967295)) &&& 4294967295 = loL (V + v.toInt * f.toInt) := by
  have hb := mul_bd (a := v.toInt % 4294967296) (by omega) (by omega) hf
  rw [and32 v, ofI_mulR, and32 (Int64.ofInt _), i64_small (by omega) (by omega)]
  unfold loL
  rw [← Int64.ofInt_add, and32, i64_small (by omega) (by omega), mul_split v.toInt]
  congr 1
  omega
/-- the model's add -/
theorem aM_hi (V : Int) (v f : Int64) (hb : -9223372036854775808 ≤ V % 4294967296 + v.toInt % 4294967296 * f.toInt ∧ V % 4294967296 + v.toInt % 4294967296 * f.toInt < 9223372036854775808) (hf : -2147483648 ≤ f.toInt ∧ f.toInt ≤ 2147483648) : (hiL V + (v >>> ((32 : Int32).toInt64 &&& 63)) * f) + ((loL V + (v &&& 4294967295) * f) >>> ((32 : Int32).toInt64 &&& 63)) = hiL (V + v.toInt * f.toInt) := by
  have hb2 := mul_bd (a := v.toInt % 4294967296) (by omega) (by omega) hf
  rw [and32 v, ofI_mulR, shr32 v, ofI_mulR]
  unfold hiL loL
  rw [← Int64.ofInt_add (V % 4294967296), shr32, i64_small (by omega) (by omega), ← Int64.ofInt_add, ← Int64.ofInt_add, mul_split v.toInt]
  congr 1
  omega
theorem aM_lo (V : Int) (v f : Int64) (hb : -9223372036854775808 ≤ V % 4294967296 + v.toInt % 4294967296 * f.toInt ∧ V % 4294967296 + v.toInt % 4294967296 * f.toInt < 9223372036854775808) : (loL V + (v &&& 4294967295) * f) &&& 4294967295 = loL (V + v.toInt * f.toInt) := by
  rw [and32 v, ofI_mulR]
  unfold loL
  rw [← Int64.ofInt_add (V % 4294967296), and32, i64_small (by omega) (by omega), mul_split v.toInt]
  congr 1
  omega
/-- fits -/
theorem fit_iff {V : Int} (h1 : -39614081257132168796771975168 ≤ V) (h2 : V < 39614081257132168796771975168) : (¬ hiL V < -2147483648 ∧ ¬ 2147483647 < hiL V) ↔ in64 V := by
  rw [Int64.lt_iff_toInt_lt, Int64.lt_iff_toInt_lt, hiL_int h1 h2, show (-2147483648 : Int64).toInt = -2147483648 from by decide, show (2147483647 : Int64).toInt = 2147483647 from by decide]
  unfold in64
  omega
theorem neg_msb (x : Int64) : x < 0 ↔ x.toBitVec.msb = true := by
  rw [Int64.lt_iff_toInt_lt, BitVec.msb_eq_toInt, decide_eq_true_eq]
  exact Iff.rfl
theorem xor_neg (x y : Int64) : x ^^^ y < 0 ↔ ¬ (x < 0 ↔ y < 0) := by
  rw [neg_msb, neg_msb, neg_msb]
  show (x.toBitVec ^^^ y.toBitVec).msb = true ↔ _
  rw [BitVec.msb_xor]
  cases x.toBitVec.msb <;> cases y.toBitVec.msb <;> simp
theorem and_neg (x y : Int64) : x &&& y < 0 ↔ (x < 0 ∧ y < 0) := by
  rw [neg_msb, neg_msb, neg_msb]
  show (x.toBitVec &&& y.toBitVec).msb = true ↔ _
  rw [BitVec.msb_and]
  cases x.toBitVec.msb <;> cases y.toBitVec.msb <;> simp
theorem i64_neg (x : Int64) : x < 0 ↔ x.toInt < 0 := by rw [Int64.lt_iff_toInt_lt]; exact Iff.rfl
theorem i64_add (x y : Int64) : x + y = Int64.ofInt (x.toInt + y.toInt) := by rw [Int64.ofInt_add, Int64.ofInt_toInt, Int64.ofInt_toInt]
theorem i64_sub (x y : Int64) : x - y = Int64.ofInt (x.toInt - y.toInt) := by rw [Int64.ofInt_sub, Int64.ofInt_toInt, Int64.ofInt_toInt]
theorem i64_mul (x y : Int64) : x * y = Int64.ofInt (x.toInt * y.toInt) := by rw [Int64.ofInt_mul, Int64.ofInt_toInt, Int64.ofInt_toInt]
theorem i64_bmod (n : Int) : (Int64.ofInt n).toInt = n.bmod 18446744073709551616 := Int64.toInt_ofInt
/-- a sum that has neither one's sign has wrapped -/
theorem ov_add (x y : Int64) : (x ^^^ (x + y)) &&& (y ^^^ (x + y)) < 0 ↔ ¬ in64 (x.toInt + y.toInt) := by
  rw [and_neg, xor_neg, xor_neg, i64_add, i64_neg, i64_neg, i64_neg, i64_bmod]
  have a1 := i64_lo x
  have a2 := i64_hi x
  have a3 := i64_lo y
  have a4 := i64_hi y
  unfold in64
  generalize x.toInt = a at *
  generalize y.toInt = b at *
  have hb : (a + b).bmod 18446744073709551616 = if a + b < -9223372036854775808 then a + b + 18446744073709551616 else if a + b < 9223372036854775808 then a + b else a + b - 18446744073709551616 := by
    rw [Int.bmod_def]; split <;> split <;> (try split) <;> omega
  rw [hb]
  split <;> (try split) <;> omega
theorem ov_sub (x y : Int64) : (x ^^^ y) &&& (x ^^^ (x - y)) < 0 ↔ ¬ in64 (x.toInt - y.toInt) := by
  rw [and_neg, xor_neg, xor_neg, i64_sub, i64_neg, i64_neg, i64_neg, i64_bmod]
  have a1 := i64_lo x
  have a2 := i64_hi x
  have a3 := i64_lo y
  have a4 := i64_hi y
  unfold in64
  generalize x.toInt = a at *
  generalize y.toInt = b at *
  have hb : (a - b).bmod 18446744073709551616 = if a - b < -9223372036854775808 then a - b + 18446744073709551616 else if a - b < 9223372036854775808 then a - b else a - b - 18446744073709551616 := by
    rw [Int.bmod_def]; split <;> split <;> (try split) <;> omega
  rw [hb]
  split <;> (try split) <;> omega
theorem div_pos_int {x y : Int64} (hy : 0 < y.toInt) : (x / y).toInt = x.toInt.tdiv y.toInt := Int64.toInt_div_of_ne_right x y (fun h => by rw [h] at hy; exact absurd hy (by decide))
theorem tdiv_facts (a : Int) {b : Int} (hb : 0 < b) : a.tdiv b * b + a.tmod b = a ∧ -b < a.tmod b ∧ a.tmod b < b ∧ (0 ≤ a → 0 ≤ a.tmod b) ∧ (a ≤ 0 → a.tmod b ≤ 0) := by
  have h1 := Int.tdiv_mul_add_tmod a b
  have h2 : a.tmod b < b := Int.tmod_lt_of_pos a hb
  have h3 : -b < a.tmod b := by
    have := Int.tmod_lt_of_pos (-a) hb
    rw [Int.neg_tmod] at this
    omega
  refine ⟨h1, h3, h2, fun h => Int.tmod_nonneg b h, fun h => ?_⟩
  have := Int.tmod_nonneg b (show 0 ≤ -a by omega)
  rw [Int.neg_tmod] at this
  omega
theorem rem_int {x y : Int64} (hy : 0 < y.toInt) : x - x / y * y = Int64.ofInt (x.toInt.tmod y.toInt) := by
  have h := (tdiv_facts x.toInt hy).1
  rw [i64_mul, div_pos_int hy, i64_sub, i64_small]
  · congr 1; omega
  · have := tdiv_facts x.toInt hy; have a1 := i64_lo x; have a2 := i64_hi x; have a3 := i64_hi y; omega
  · have := tdiv_facts x.toInt hy; have a1 := i64_lo x; have a2 := i64_hi x; have a3 := i64_hi y; omega
