/-! doubles: bounds -/
abbrev zv (a : UInt64) : Int := FP.Core.zval FP.Core.b64 (FP.Core.val64 a)
abbrev oneI : Int := (FP.Core.one64 : Int)
theorem oneI_pos : 0 < oneI := by
  have := FP.Core.one64_pos
  show (0 : Int) < (FP.Core.one64 : Int)
  omega
def RB (K : Int) (a : UInt64) : Prop := FN a ∧ -(K * oneI) ≤ zv a ∧ zv a ≤ K * oneI
theorem zmag_of {a : UInt64} {K : Int} (h : -(K * oneI) ≤ zv a ∧ zv a ≤ K * oneI) : ((FP.Core.zmag FP.Core.b64 (FP.Core.val64 a) : Nat) : Int) ≤ K * oneI := by
  obtain ⟨h1, h2⟩ := h
  unfold zv FP.Core.zval FP.Core.signed at h1 h2
  split at h1
  · next q => rw [if_pos q] at h2; omega
  · next q => rw [if_neg q] at h2; omega
theorem zv_of {a : UInt64} {K : Int} (h : ((FP.Core.zmag FP.Core.b64 (FP.Core.val64 a) : Nat) : Int) ≤ K * oneI) : -(K * oneI) ≤ zv a ∧ zv a ≤ K * oneI := by
  unfold zv FP.Core.zval FP.Core.signed
  split <;> constructor <;> omega
theorem RB_mag {K : Int} {a : UInt64} (h : RB K a) (hK : K ≤ 16777216) : a.toNat % 2 ^ 63 < 1048 * 2 ^ 52 := by
  have h1 := zmag_of h.2
  have h2 : K * oneI ≤ 16777216 * oneI := Int.mul_le_mul_of_nonneg_right hK (Int.le_of_lt oneI_pos)
  rw [FP.Core.zmag_bits h.1.nn] at h1
  have h3 : FP.Core.unitsOf FP.Core.b64 (a.toNat % 2 ^ 63) ≤ 16777216 * FP.Core.one64 := by
    have : ((FP.Core.unitsOf FP.Core.b64 (a.toNat % 2 ^ 63) : Nat) : Int) ≤ ((16777216 * FP.Core.one64 : Nat) : Int) := by
      rw [Int.natCast_mul]
      exact Int.le_trans h1 h2
    omega
  have h4 : 16777216 * FP.Core.one64 = FP.Core.unitsOf FP.Core.b64 (1047 * FP.Core.b64.tails) := by decide +kernel
  rw [h4, FP.Core.unitsOf_le_iff, FP.Core.tails_b64] at h3
  omega
theorem mag_RB {j : Nat} {a : UInt64} (h : a.toNat % 2 ^ 63 < (1023 + j) * 2 ^ 52) (hj : j ≤ 1000) : RB ((2 ^ j : Nat) : Int) a := by
  refine ⟨FN_mag h (by omega), zv_of ?_⟩
  obtain ⟨s, c, q, h1, h2⟩ := FP.Core.mag_bits h (by omega)
  rw [h1]
  show ((c * 2 ^ (q - FP.Core.b64.qmin).toNat : Nat) : Int) ≤ _
  have h3 : 2 ^ 52 * 2 ^ (1023 + j - 1) = 2 ^ j * FP.Core.one64 := by
    unfold FP.Core.one64
    rw [← Nat.pow_add, ← Nat.pow_add]
    congr 1
    omega
  rw [h3] at h2
  have h4 : ((2 ^ j : Nat) : Int) * oneI = ((2 ^ j * FP.Core.one64 : Nat) : Int) := (Int.natCast_mul _ _).symm
  rw [h4]
  omega
theorem RB_mono {K K' : Int} {a : UInt64} (h : RB K a) (hK : K ≤ K') : RB K' a := by
  have h2 : K * oneI ≤ K' * oneI := Int.mul_le_mul_of_nonneg_right hK (Int.le_of_lt oneI_pos)
  exact ⟨h.1, by have := h.2.1; omega, by have := h.2.2; omega⟩
theorem zv_l2d {n : Int64} (h : n.toInt.natAbs ≤ 2 ^ 53) : zv (FP.Core.l2d n) = n.toInt * oneI := FP.Core.DInt_zval (FP.Core.l2d_int h)
theorem of_toInt {K : Int} (h : -2 ^ 53 ≤ K) (h2 : K ≤ 2 ^ 53) : (Int64.ofInt K).toInt = K := Int64.toInt_ofInt_of_le (by omega) (by omega)
theorem fin_of_zv {a : UInt64} (h : NN a) {K : Int} (hK : K ≤ 2 ^ 53) (hz : -(K * oneI) ≤ zv a ∧ zv a ≤ K * oneI) : FN a := by
  have h1 := zmag_of hz
  have h2 : K * oneI ≤ 2 ^ 53 * oneI := Int.mul_le_mul_of_nonneg_right hK (Int.le_of_lt oneI_pos)
  cases e : FP.Core.val64 a with
  | nan => exact absurd e h
  | fin s c q => exact ⟨s, c, q, e⟩
  | inf s =>
    exfalso
    rw [e] at h1
    have h3 : ((FP.Core.zmag FP.Core.b64 (FP.Core.Datum.inf s) : Nat) : Int) ≤ ((2 ^ 53 * FP.Core.one64 : Nat) : Int) := by
      rw [Int.natCast_mul]
      exact Int.le_trans h1 h2
    have h4 : ¬ (FP.Core.zmag FP.Core.b64 (FP.Core.Datum.inf s) ≤ 2 ^ 53 * FP.Core.one64) := by
      show ¬ (FP.Core.b64.tails * 2 ^ (FP.Core.b64.exps - 2) ≤ 2 ^ 53 * FP.Core.one64)
      decide +kernel
    omega
theorem RB_add {K J : Int} {a e : UInt64} (ha : RB K a) (he : RB J e) (h0 : 0 ≤ K + J) (h1 : K + J ≤ 2 ^ 53) : RB (K + J) (FP.dadd a e) := by
  have hd : (K + J) * oneI = K * oneI + J * oneI := Int.add_mul _ _ _
  have e1 := of_toInt (K := K + J) (by omega) h1
  have e2 := of_toInt (K := -(K + J)) (by omega) (by omega)
  have u := zv_l2d (n := Int64.ofInt (K + J)) (by rw [e1]; omega)
  have l := zv_l2d (n := Int64.ofInt (-(K + J))) (by rw [e2]; omega)
  rw [e1] at u
  rw [e2, Int.neg_mul] at l
  have nn : NN (FP.dadd a e) := NN_add ha.1.nn he.1
  have up : zv (FP.dadd a e) ≤ (K + J) * oneI := by
    rw [← u]
    show FP.Core.zval FP.Core.b64 (FP.Core.val64 (FP.Core.dadd a e)) ≤ _
    rw [FP.Core.val64_dadd]
    refine FP.Core.sum_le FP.Core.good_b64 ha.1 he.1 (FP.Core.val64_fits _) (FP.Core.val64_fits _) (FP.Core.val64_fits _) (FN.nn (FP.Core.l2d_fin _)) ?_
    have := ha.2.2
    have := he.2.2
    unfold zv at *
    omega
  have lo : -((K + J) * oneI) ≤ zv (FP.dadd a e) := by
    rw [← l]
    show _ ≤ FP.Core.zval FP.Core.b64 (FP.Core.val64 (FP.Core.dadd a e))
    rw [FP.Core.val64_dadd]
    refine FP.Core.sum_ge FP.Core.good_b64 ha.1 he.1 (FP.Core.val64_fits _) (FP.Core.val64_fits _) (FP.Core.val64_fits _) (FN.nn (FP.Core.l2d_fin _)) ?_
    have := ha.2.1
    have := he.2.1
    unfold zv at *
    omega
  exact ⟨fin_of_zv nn h1 ⟨lo, up⟩, lo, up⟩
theorem d2l_bd {x : UInt64} (h : x.toNat % 2 ^ 63 < 1059 * 2 ^ 52) : -68719476736 ≤ (FP.d2l x).toInt ∧ (FP.d2l x).toInt ≤ 68719476736 := by
  have f : FN x := FN_mag h (by decide)
  have e : (FP.d2l x).toInt = _ := FP.Core.d2l_val f.nn
  rw [e]
  obtain ⟨s, c, q, h1, h2⟩ := FP.Core.mag_bits h (by decide)
  have h3 : FP.Core.zmag FP.Core.b64 (FP.Core.val64 x) < 68719476736 * FP.Core.one64 := by
    rw [h1]
    show c * 2 ^ (q - FP.Core.b64.qmin).toNat < _
    refine Nat.lt_of_lt_of_le h2 ?_
    decide +kernel
  have h4 : FP.Core.zmag FP.Core.b64 (FP.Core.val64 x) / FP.Core.one64 < 68719476736 := Nat.div_lt_of_lt_mul (by rw [Nat.mul_comm]; exact h3)
  generalize FP.Core.zmag FP.Core.b64 (FP.Core.val64 x) / FP.Core.one64 = m at *
  unfold FP.Core.signed
  split <;> omega
theorem th_bd {K : Int} {a : UInt64} (h : RB K a) (hK : K ≤ 16777216) : -68719476736 ≤ (FP.d2l (FP.dmul a 4652007308841189376)).toInt ∧ (FP.d2l (FP.dmul a 4652007308841189376)).toInt ≤ 68719476736 := by
  refine d2l_bd ?_
  have := FP.Core.dmul_mag (Kb := 1033) (RB_mag h hK) (b := 4652007308841189376) (by decide +kernel) (by decide) (by decide)
  exact this
/-- a load's number -/
theorem ld_bd {x : Int64} (h : x.toInt.natAbs ≤ 2 ^ 30) : RB 8388608 (FP.ddiv (FP.l2d x) 4652007308841189376) := by
  have h1 : (FP.l2d x).toNat % 2 ^ 63 ≤ 1053 * 2 ^ 52 := FP.Core.fromInt_mag (FP.Core.toNat_l2d x) h (by decide) (by decide)
  have h2 : (FP.ddiv (FP.l2d x) 4652007308841189376).toNat % 2 ^ 63 < (1023 + 23) * 2 ^ 52 := by
    have := FP.Core.ddiv_mag (a := FP.l2d x) (b := 4652007308841189376) (K := 1054) (L := 1032) (by omega) (by decide +kernel) (by decide +kernel) (by decide) (by decide)
    exact this
  have h3 := mag_RB (j := 23) h2 (by decide)
  have e : ((2 ^ 23 : Nat) : Int) = 8388608 := by decide
  rw [e] at h3
  exact h3
theorem zmag_ge {a : UInt64} {k : Int} (h : zv a = k * oneI) (hk : k ≤ -1) : FP.Core.sgn (FP.Core.val64 a) = true ∧ FP.Core.one64 ≤ FP.Core.zmag FP.Core.b64 (FP.Core.val64 a) := by
  have p := oneI_pos
  have h1 : k * oneI ≤ -1 * oneI := Int.mul_le_mul_of_nonneg_right hk (Int.le_of_lt p)
  rw [← h] at h1
  unfold zv FP.Core.zval FP.Core.signed at h1
  split at h1
  · next q =>
    refine ⟨q, ?_⟩
    unfold oneI at h1 p
    omega
  · omega
/-- an eighth of an int that isn't below 0 -/
theorem vt_neg (x : Int32) (h : x.toInt < 0) : zv (FP.dmul (FP.i2d x) 4593671619917905920) ≤ -1 := by
  have hz : zv (FP.i2d x) = x.toInt * oneI := FP.Core.DInt_zval (FP.Core.i2d_int x)
  obtain ⟨s1, m1⟩ := zmag_ge hz (by omega)
  obtain ⟨s, c, q, e⟩ := FP.Core.i2d_fin x
  obtain ⟨t, d, r, e2⟩ : FN 4593671619917905920 := FN_mag (K := 1021) (by decide +kernel) (by decide)
  have m2 : 1 ≤ FP.Core.zmag FP.Core.b64 (FP.Core.val64 4593671619917905920) := by decide +kernel
  have s2 : FP.Core.sgn (FP.Core.val64 4593671619917905920) = false := by decide +kernel
  have f1 := FP.Core.val64_fits (FP.i2d x)
  have f2 := FP.Core.val64_fits 4593671619917905920
  have e' : FP.Core.val64 (FP.i2d x) = .fin s c q := e
  rw [e'] at f1 s1 m1
  rw [e2] at f2 s2 m2
  obtain ⟨p1, p2, p3⟩ := FP.Core.product_units f1 f2
  have s1' : s = true := s1
  have s2' : t = false := s2
  subst s1' s2'
  show FP.Core.zval FP.Core.b64 (FP.Core.val64 (FP.Core.dmul (FP.i2d x) 4593671619917905920)) ≤ -1
  rw [FP.Core.val64_dmul, e', e2, p1]
  have hV : FP.Core.zval FP.Core.b64 (FP.Core.val64 9223372036854775809) = -1 := by decide +kernel
  rw [← hV]
  refine FP.Core.zval_round_le FP.Core.good_b64 (e0 := 2 * FP.Core.b64.qmin) (FP.Core.val64_fits _) (by decide +kernel) (by decide) p2 ?_
  rw [p3, hV]
  have h5 : (FP.Core.b64.qmin - 2 * FP.Core.b64.qmin).toNat = 1074 := by decide
  rw [h5]
  have h6 : FP.Core.one64 ≤ FP.Core.zmag FP.Core.b64 (.fin true c q) * FP.Core.zmag FP.Core.b64 (.fin false d r) := by
    have := Nat.mul_le_mul m1 m2
    rw [Nat.mul_one] at this
    exact this
  show FP.Core.signed true _ ≤ -1 * ((FP.Core.one64 : Nat) : Int)
  unfold FP.Core.signed
  rw [if_pos rfl]
  omega
