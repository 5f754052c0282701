/-! doubles: when a step gives no NaN -/
abbrev NN (a : UInt64) : Prop := FP.Core.val64 a ≠ .nan
abbrev FN (a : UInt64) : Prop := FP.Core.DFin a
theorem fp_le (v : UInt64) : (v &&& 0x7fffffffffffffff ≤ 0x7ff0000000000000) ↔ NN v := by
  show _ ↔ FP.Core.val64 v ≠ .nan
  rw [FP.Core.ne_nan, UInt64.le_iff_toNat_le, FP.Core.mask_toNat]
  exact Iff.rfl
theorem gn_ok {β : Type} {v : UInt64} {k : Option β} (h : NN v) : gn v k = k := by unfold gn; rw [if_pos ((fp_le v).mpr h)]
theorem FN.nn {a : UInt64} (h : FN a) : NN a := by
  obtain ⟨s, c, q, h⟩ := h
  intro e
  rw [h] at e
  cases e
theorem nn_round {s : Bool} {c : Nat} {q : Int} : FP.Core.round FP.Core.b64 (.fin s c q) ≠ .nan := FP.Core.roundRatio_ne_nan _ _ _ _ _
theorem NN_add {a b : UInt64} (ha : NN a) (hb : FN b) : NN (FP.dadd a b) := by
  show FP.Core.val64 (FP.Core.dadd a b) ≠ .nan
  rw [FP.Core.val64_dadd]
  obtain ⟨s, c, q, hb⟩ := hb
  rw [hb]
  cases h : FP.Core.val64 a with
  | nan => exact absurd h ha
  | inf t => intro e; cases e
  | fin t d r => exact nn_round
theorem NN_sub {a b : UInt64} (ha : NN a) (hb : FN b) : NN (FP.dsub a b) := by
  show FP.Core.val64 (FP.Core.dsub a b) ≠ .nan
  rw [FP.Core.val64_dsub]
  obtain ⟨s, c, q, hb⟩ := hb
  rw [hb]
  cases h : FP.Core.val64 a with
  | nan => exact absurd h ha
  | inf t => intro e; cases e
  | fin t d r => exact nn_round
theorem NN_mulF {a b : UInt64} (ha : FN a) (hb : FN b) : NN (FP.dmul a b) := by
  show FP.Core.val64 (FP.Core.dmul a b) ≠ .nan
  rw [FP.Core.val64_dmul]
  obtain ⟨s, c, q, hb⟩ := hb
  obtain ⟨t, d, r, ha⟩ := ha
  rw [hb, ha]
  exact nn_round
/-- finite and not 0 -/
def FZ (b : UInt64) : Prop := ∃ t d q, FP.Core.val64 b = .fin t d q ∧ d ≠ 0
theorem NN_mul {a b : UInt64} (ha : NN a) (hb : FZ b) : NN (FP.dmul a b) := by
  show FP.Core.val64 (FP.Core.dmul a b) ≠ .nan
  rw [FP.Core.val64_dmul]
  obtain ⟨t, d, q, hb, hd⟩ := hb
  rw [hb]
  cases h : FP.Core.val64 a with
  | nan => exact absurd h ha
  | inf s =>
    show FP.Core.round _ (if d = 0 then .nan else .inf (s != t)) ≠ .nan
    rw [if_neg hd]
    intro e; cases e
  | fin s c r => exact nn_round
theorem NN_div {a b : UInt64} (ha : NN a) (hb : FZ b) : NN (FP.ddiv a b) := by
  show FP.Core.val64 (FP.Core.ddiv a b) ≠ .nan
  rw [FP.Core.val64_ddiv]
  obtain ⟨t, d, q, hb, hd⟩ := hb
  rw [hb]
  cases h : FP.Core.val64 a with
  | nan => exact absurd h ha
  | inf s => intro e; cases e
  | fin s c r =>
    show (if d = 0 then (if c = 0 then FP.Core.Datum.nan else .inf (s != t)) else FP.Core.roundRatio _ (s != t) c d (r - q)) ≠ .nan
    rw [if_neg hd]
    exact FP.Core.roundRatio_ne_nan _ _ _ _ _
theorem fz_1000 : FZ 4652007308841189376 := ⟨false, 8796093022208000, -43, by decide +kernel, by decide⟩
theorem fz_60000 : FZ 4678479150791524352 := ⟨_, _, _, rfl, by decide +kernel⟩
theorem fz_100 : FZ 4636737291354636288 := ⟨_, _, _, rfl, by decide +kernel⟩
theorem FN_mag {a : UInt64} {K : Nat} (h : a.toNat % 2 ^ 63 < K * 2 ^ 52) (hK : K ≤ 2047) : FN a := FP.Core.fin_of_lt h hK
/-- e: a power of at most 400.0 * 100.0, by 60000.0 -/
theorem fp_e {v a : UInt64} (hv : v.toNat % 2 ^ 63 < 1032 * 2 ^ 52) (ha : a.toNat % 2 ^ 63 < 1030 * 2 ^ 52) :
    FN (FP.dmul v a) ∧ (FP.ddiv (FP.dmul v a) 4678479150791524352).toNat % 2 ^ 63 < 1026 * 2 ^ 52 := by
  have h1 := FP.Core.dmul_mag hv ha (by decide) (by decide)
  refine ⟨FN_mag h1 (by decide), ?_⟩
  exact FP.Core.ddiv_mag (K := 1040) (L := 1038) (by simpa using h1) (by decide +kernel) (by decide +kernel) (by decide) (by decide)
