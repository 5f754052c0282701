/-! the numbers of a token -/
theorem sh64 (x s : Int64) (k : Nat) (hs : (s.toBitVec.smod 64).toNat = k) : (x >>> s).toInt = x.toInt >>> k := by
  show (x.toBitVec.sshiftRight (s.toBitVec.smod 64).toNat).toInt = _
  rw [hs, BitVec.toInt_sshiftRight]
  rfl
theorem sh0 (x : Int64) : x >>> ((8 * 0 : Int32).toInt64 &&& 63) = x := by
  apply Int64.toInt_inj.mp
  rw [sh64 x _ 0 (by decide)]
  exact Int.shiftRight_zero _
theorem n40 : ¬ (4 : Int32) ≤ 0 := by decide
theorem n41 : ¬ (4 : Int32) ≤ 1 := by decide
theorem n42 : ¬ (4 : Int32) ≤ 2 := by decide
theorem n43 : ¬ (4 : Int32) ≤ 3 := by decide
theorem n44 : (4 : Int32) ≤ 4 := by decide
theorem a31 : (3 : Int32) + 1 = 4 := by decide
theorem s8 : (8 * 1 : Int32).toInt64 &&& 63 = (8 : Int32).toInt64 &&& 63 := by decide
theorem s16 : (8 * 2 : Int32).toInt64 &&& 63 = (16 : Int32).toInt64 &&& 63 := by decide
theorem s24 : (8 * 3 : Int32).toInt64 &&& 63 = (24 : Int32).toInt64 &&& 63 := by decide
def ck (p : Int64) : Int64 := ((p >>> ((24 : Int32).toInt64 &&& 63) &&& 255) + (p >>> ((16 : Int32).toInt64 &&& 63) &&& 255) + (p >>> ((8 : Int32).toInt64 &&& 63) &&& 255) + (p &&& 255)) * 31 + 7
theorem ck_cls (p : Int64) : f_Box_checkOf p () = some ((ck p - ck p / 256 * 256).toInt32, ()) := by
  unfold f_Box_checkOf ck
  simp only [bd_e]
theorem ck_mod (p : Int64) : f_Mod_checkOf p () = some (ck p - ck p / 256 * 256, ()) := by
  unfold f_Mod_checkOf ck
  rw [show (64 : Nat) = 59 + 1 + 1 + 1 + 1 + 1 from rfl, f_Mod_checkOf_5, if_neg n40]
  simp only [bd_e, a01]
  rw [f_Mod_checkOf_5, if_neg n41]
  simp only [bd_e, a11]
  rw [f_Mod_checkOf_5, if_neg n42]
  simp only [bd_e, a21]
  rw [f_Mod_checkOf_5, if_neg n43]
  simp only [bd_e, a31]
  rw [f_Mod_checkOf_5, if_pos n44]
  simp only [bd_e, sh0, s8, s16, s24]
  have e : (0 : Int64) + (p &&& 255) + (p >>> ((8 : Int32).toInt64 &&& 63) &&& 255) + (p >>> ((16 : Int32).toInt64 &&& 63) &&& 255) + (p >>> ((24 : Int32).toInt64 &&& 63) &&& 255) =
      (p >>> ((24 : Int32).toInt64 &&& 63) &&& 255) + (p >>> ((16 : Int32).toInt64 &&& 63) &&& 255) + (p >>> ((8 : Int32).toInt64 &&& 63) &&& 255) + (p &&& 255) := by
    rw [Int64.zero_add]
    generalize p &&& 255 = a
    generalize p >>> ((8 : Int32).toInt64 &&& 63) &&& 255 = b
    generalize p >>> ((16 : Int32).toInt64 &&& 63) &&& 255 = c
    generalize p >>> ((24 : Int32).toInt64 &&& 63) &&& 255 = d
    rw [Int64.add_comm _ d, Int64.add_comm _ c, Int64.add_comm a b, ← Int64.add_assoc, ← Int64.add_assoc]
  rw [e]
theorem rem256 (y : Int64) : (y - y / 256 * 256).toInt32.toInt64 = y - y / 256 * 256 := by
  have e9 : (256 : Int64).toInt = 256 := by decide
  have e1 : (y / 256).toInt = y.toInt.tdiv 256 := by
    rw [Int64.toInt_div_of_ne_right _ _ (by decide), e9]
  have e2 := Int.mul_tdiv_add_tmod y.toInt 256
  have e3 := Int.natAbs_tmod y.toInt 256
  have e4 : y.toInt.natAbs % (256 : Int).natAbs < 256 := Nat.mod_lt _ (by decide)
  have e6 : (y.toInt.tdiv 256).natAbs = y.toInt.natAbs / 256 := Int.natAbs_tdiv y.toInt 256
  rw [← e3] at e4
  rw [← e1] at e2 e6
  have l1 := y.toInt_lt
  have l2 := y.le_toInt
  generalize y / 256 = q at *
  have e5 : (q * 256).toInt = q.toInt * 256 := by
    rw [FP.Core.int64_mul, e9]
    · rw [e9]; omega
    · rw [e9]; omega
  have e7 : (y - q * 256).toInt = y.toInt - q.toInt * 256 := by
    rw [FP.Core.int64_sub, e5]
    · rw [e5]; omega
    · rw [e5]; omega
  apply lg_i2l_l2i
  · rw [e7]; omega
  · rw [e7]; omega
theorem lg0 (a b : Int64) : lg_cmp a b = 0 ↔ a = b := by
  unfold lg_cmp
  by_cases h : a > b
  · rw [if_pos h]
    constructor
    · intro e; exact absurd e (by decide)
    · intro e
      have := Int64.lt_iff_toInt_lt.mp h
      rw [e] at this
      omega
  · rw [if_neg h]
    by_cases h2 : a = b
    · rw [if_pos h2]; exact ⟨fun _ => h2, fun _ => rfl⟩
    · rw [if_neg h2]
      exact ⟨fun e => absurd e (by decide), fun e => absurd e h2⟩
theorem lg_nlt {a b : Int64} (h : ¬ lg_cmp a b < 0) : b.toInt ≤ a.toInt := by
  unfold lg_cmp at h
  by_cases c : a > b
  · have := Int64.lt_iff_toInt_lt.mp c; omega
  · rw [if_neg c] at h
    by_cases c2 : a = b
    · rw [c2]; omega
    · rw [if_neg c2] at h; exact absurd (by decide) h
theorem lg_le' {a b : Int64} (h : lg_cmp a b ≤ 0) : a.toInt ≤ b.toInt := by
  unfold lg_cmp at h
  by_cases c : a > b
  · rw [if_pos c] at h; exact absurd h (by decide)
  · exact Int.not_lt.mp (fun q => c (Int64.lt_iff_toInt_lt.mpr q))
/-- the body of a token is a number of 32 bits; its kind is 0 .. 3 -/
theorem kind_bd {t : Int64} (h1 : 0 ≤ t.toInt) (h2 : t.toInt ≤ 1099511627775) :
    0 ≤ (((t ^^^ 733007751850) / 256) >>> ((30 : Int32).toInt64 &&& 63)).toInt32.toInt ∧ (((t ^^^ 733007751850) / 256) >>> ((30 : Int32).toInt64 &&& 63)).toInt32.toInt ≤ 3 := by
  have e1 : t.toBitVec.toNat < 2 ^ 40 := by
    have e : t.toInt = if 2 * t.toBitVec.toNat < 2 ^ 64 then (t.toBitVec.toNat : Int) else (t.toBitVec.toNat : Int) - ((2 ^ 64 : Nat) : Int) := BitVec.toInt_eq_toNat_cond t.toBitVec
    have l := t.toBitVec.isLt
    split at e <;> omega
  have e2 : (t ^^^ 733007751850).toBitVec.toNat < 2 ^ 40 := by
    rw [Int64.toBitVec_xor, BitVec.toNat_xor]
    exact Nat.xor_lt_two_pow e1 (by decide)
  generalize t ^^^ 733007751850 = x at *
  have e3 : 0 ≤ x.toInt ∧ x.toInt < 2 ^ 40 := by
    have e : x.toInt = if 2 * x.toBitVec.toNat < 2 ^ 64 then (x.toBitVec.toNat : Int) else (x.toBitVec.toNat : Int) - ((2 ^ 64 : Nat) : Int) := BitVec.toInt_eq_toNat_cond x.toBitVec
    split at e <;> omega
  have e4 : (x / 256).toInt = x.toInt / 256 := lg_ldiv_nonneg e3.1 (by decide)
  have e5 : ((x / 256) >>> ((30 : Int32).toInt64 &&& 63)).toInt = (x / 256).toInt >>> 30 := sh64 _ _ 30 (by decide)
  have e6 : (x / 256).toInt >>> 30 = (x / 256).toInt / (2 ^ 30 : Nat) := Int.shiftRight_eq_div_pow _ _
  rw [e4] at e5 e6
  rw [e6] at e5
  rw [FP.Core.int64_toInt32 (by omega) (by omega), e5]
  omega
theorem num_eq (x : Int64) : (x >>> ((16 : Int32).toInt64 &&& 63) &&& 16383).toInt32 = (x >>> ((16 : Int32).toInt64 &&& 63)).toInt32 &&& 16383 := Int64.toInt32_and _ _
theorem x_eq (x : Int64) : (x &&& 65535).toInt32 = x.toInt32 &&& 65535 := Int64.toInt32_and _ _
theorem div3 {j : Nat} (h : j < 65536) : nI j / 3 = nI (j / 3) := by
  apply Int32.toInt_inj.mp
  rw [lg_idiv_nonneg, nI_toInt (by omega), nI_toInt (by omega)]
  · simp only [Int32.reduceToInt]
    omega
  · rw [nI_toInt (by omega)]; omega
  · decide
theorem rem3 {j : Nat} (h : j < 65536) : nI j - nI (j / 3) * 3 = nI (j % 3) := by
  rw [m3', pk_sub (by omega)]
  congr 1
  omega
