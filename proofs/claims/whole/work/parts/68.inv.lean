/-! what holds between the calls: numbers -/
def Bf (A : Int) : Int := 137438953472 + 1000000000 * A
def SI (K N A : Int) (on la op em pl cu : Int32) (cr hg : UInt64) (rg pr : Nat → UInt64) (ta : Nat → Int32) (wo : Nat → Int64) (z : Nat) : Prop :=
  (on = 0 ∨ on = 1) ∧ (op = 0 ∨ op = 1) ∧ (em = 0 ∨ em = 1) ∧ (pl = -1 ∨ ∃ p : Nat, p < 12 ∧ pl = nI p) ∧ (cu = -1 ∨ ∃ p : Nat, p < 6 ∧ cu = nI p) ∧
  NN cr ∧ NN hg ∧ NN (rg 0) ∧ NN (rg 1) ∧ RB K (rg 2) ∧ (∀ j, j < 3 → (pr j).toNat % 2 ^ 63 < 1048 * 2 ^ 52) ∧ (∀ j, j < 8 → -1 ≤ (ta j).toInt ∧ (ta j).toInt ≤ 2) ∧
  (-A ≤ la.toInt ∧ la.toInt ≤ A) ∧ WI N (Bf A) wo ∧ z ≤ 12
theorem k4_bd {K A : Int} {la tm op em : Int32} {cr : UInt64} {rg : Nat → UInt64} {f : Int64} (h : RB K (rg 2)) (hK : K ≤ 16777216) (hla : -A ≤ la.toInt ∧ la.toInt ≤ A) (hA : A ≤ 1000000) :
    -(Bf A) ≤ (kw cr tm op em la rg f 4).toInt ∧ (kw cr tm op em la rg f 4).toInt ≤ Bf A := by
  have h1 := th_bd h hK
  have e0 : kw cr tm op em la rg f 4 = FP.d2l (FP.dmul (rg 2) 4652007308841189376) + 1000000000 * la.toInt64 := rfl
  rw [e0]
  have e1 : (1000000000 : Int64).toInt = 1000000000 := by decide
  have e2 : la.toInt64.toInt = la.toInt := Int32.toInt_toInt64 la
  have e3 : (1000000000 * la.toInt64).toInt = 1000000000 * la.toInt := by
    rw [FP.Core.int64_mul, e1, e2]
    · rw [e1, e2]; omega
    · rw [e1, e2]; omega
  generalize FP.d2l (FP.dmul (rg 2) 4652007308841189376) = y at *
  have e4 : (y + 1000000000 * la.toInt64).toInt = y.toInt + 1000000000 * la.toInt := by
    rw [FP.Core.int64_add, e3]
    · rw [e3]; omega
    · rw [e3]; omega
  rw [e4]
  unfold Bf
  omega
theorem Bf_1 {A : Int} (h : 0 ≤ A) : 1 ≤ Bf A := by unfold Bf; omega
theorem cmpl_lt {a b : UInt64} : Op.cmpValue (FP.dcmp a b) .l < 0 ↔ FP.dcmp a b = some .lt ∨ FP.dcmp a b = none := by
  cases FP.dcmp a b with
  | none => simp [Op.cmpValue]
  | some o => cases o <;> simp [Op.cmpValue] <;> decide
theorem cmpg_le {a b : UInt64} : Op.cmpValue (FP.dcmp a b) .g ≤ 0 ↔ FP.dcmp a b = some .lt ∨ FP.dcmp a b = some .eq := by
  cases FP.dcmp a b with
  | none => simp [Op.cmpValue]
  | some o => cases o <;> simp [Op.cmpValue] <;> decide
/-- what may pass: from 0.0 up to M -/
def upTo (v M : UInt64) : Prop := ¬ Op.cmpValue (FP.dcmp v FP.dconst0) .l < 0 ∧ Op.cmpValue (FP.dcmp v M) .g ≤ 0
theorem up_zv {v M : UInt64} (h : upTo v M) : NN v ∧ 0 ≤ zv v ∧ zv v ≤ zv M := by
  obtain ⟨h1, h2⟩ := h
  rw [cmpl_lt] at h1
  rw [cmpg_le] at h2
  obtain ⟨a, b, c⟩ := FP.Core.dcmp_le.mp h2
  have h3 : FP.Core.dcmp v FP.dconst0 = some .gt ∨ FP.Core.dcmp v FP.dconst0 = some .eq := by
    have h4 : ¬ (FP.Core.dcmp v FP.dconst0 = some .lt ∨ FP.Core.dcmp v FP.dconst0 = none) := h1
    cases e : FP.Core.dcmp v FP.dconst0 with
    | none => exact absurd (Or.inr e) h4
    | some o =>
      cases o
      · exact absurd (Or.inl e) h4
      · exact Or.inr rfl
      · exact Or.inl rfl
  obtain ⟨_, _, d⟩ := FP.Core.dcmp_ge.mp h3
  have z : FP.Core.zval FP.Core.b64 (FP.Core.val64 FP.dconst0) = 0 := by decide +kernel
  rw [z] at d
  exact ⟨a, d, c⟩
theorem up_mag {v M : UInt64} {k : Nat} (h : upTo v M) (hM : NN M) (hk : M.toNat < k * 2 ^ 52) (hs : FP.Core.sgn (FP.Core.val64 M) = false) (hM2 : M.toNat < 2 ^ 63) : v.toNat % 2 ^ 63 < k * 2 ^ 52 := by
  obtain ⟨a, b, c⟩ := up_zv h
  have h1 : ((FP.Core.zmag FP.Core.b64 (FP.Core.val64 v) : Nat) : Int) ≤ zv M := by
    unfold zv FP.Core.zval FP.Core.signed at b c
    unfold zv FP.Core.zval FP.Core.signed
    rw [hs] at c ⊢
    simp only [Bool.false_eq_true, if_false] at c ⊢
    split at b
    · next q => omega
    · next q => rw [if_neg q] at c; exact c
  unfold zv FP.Core.zval FP.Core.signed at h1
  rw [hs, if_neg (by decide), FP.Core.zmag_bits a, FP.Core.zmag_bits hM] at h1
  have h2 := FP.Core.unitsOf_le_iff.mp (Int.ofNat_le.mp h1)
  omega
theorem vt_up {x : Int32} (h : upTo (FP.dmul (FP.i2d x) 4593671619917905920) 4645744490609377280) :
    (FP.dmul (FP.i2d x) 4593671619917905920).toNat % 2 ^ 63 < 1032 * 2 ^ 52 ∧ FP.dmul (FP.dmul (FP.i2d x) 4593671619917905920) FP.dconst0 = FP.dconst0 := by
  have m := up_mag (k := 1032) h (by decide +kernel) (by decide +kernel) (by decide +kernel) (by decide +kernel)
  refine ⟨m, ?_⟩
  have hx : ¬ x.toInt < 0 := by
    intro hx
    have := vt_neg x hx
    have := (up_zv h).2.1
    omega
  have f : FN (FP.dmul (FP.i2d x) 4593671619917905920) := FN_mag m (by decide)
  have hsg : FP.Core.sgn (FP.Core.val64 (FP.dmul (FP.i2d x) 4593671619917905920)) = false := by
    have e : FP.i2d x = FP.Core.l2d x.toInt64 := FP.Core.i2d_l2d x
    obtain ⟨c, q, e2⟩ := FP.Core.l2d_shape x.toInt64
    rw [Int32.toInt_toInt64, decide_eq_false hx] at e2
    show FP.Core.sgn (FP.Core.val64 (FP.Core.dmul (FP.i2d x) 4593671619917905920)) = false
    rw [FP.Core.val64_dmul, e, e2]
    obtain ⟨t, d, r, e3⟩ : FN 4593671619917905920 := FN_mag (K := 1021) (by decide +kernel) (by decide)
    have s2 : FP.Core.sgn (FP.Core.val64 4593671619917905920) = false := by decide +kernel
    rw [e3] at s2 ⊢
    have s3 : t = false := s2
    subst s3
    exact FP.Core.sgn_roundRatio _ _ _ _ _
  generalize FP.dmul (FP.i2d x) 4593671619917905920 = v at *
  have hz : FP.Core.DZero (FP.Core.dmul v FP.dconst0) := FP.Core.dmul_zero f (by rw [FP.Core.zero_bits2]; decide +kernel)
  have hs2 : FP.Core.sgn (FP.Core.val64 (FP.Core.dmul v FP.dconst0)) = false := by
    rw [FP.Core.val64_dmul]
    obtain ⟨s, c, q, e⟩ := f
    obtain ⟨t, d, r, e3⟩ : FN FP.dconst0 := FN_mag (K := 1) (by decide +kernel) (by decide)
    have s2 : FP.Core.sgn (FP.Core.val64 FP.dconst0) = false := by decide +kernel
    rw [e] at hsg ⊢
    rw [e3] at s2 ⊢
    have s3 : t = false := s2
    have s4 : s = false := hsg
    subst s3 s4
    exact FP.Core.sgn_roundRatio _ _ _ _ _
  have nn : FP.Core.val64 (FP.Core.dmul v FP.dconst0) ≠ .nan := NN_mulF f (FN_mag (K := 1) (by decide +kernel) (by decide))
  rw [FP.Core.sgn_bits nn] at hs2
  have h0 := (FP.Core.zero_bits2 _).mp hz
  have h5 : (FP.Core.dmul v FP.dconst0).toNat = 0 := by
    have := of_decide_eq_false hs2
    omega
  apply UInt64.toNat_inj.mp
  show (FP.Core.dmul v FP.dconst0).toNat = _
  rw [h5]
  decide
theorem at_up {a : UInt64} (h : upTo a 4636737291354636288) : a.toNat % 2 ^ 63 < 1030 * 2 ^ 52 :=
  up_mag (k := 1030) h (by decide +kernel) (by decide +kernel) (by decide +kernel) (by decide +kernel)
