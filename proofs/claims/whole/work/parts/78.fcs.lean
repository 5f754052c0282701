/-! the frame check sequence -/
theorem nI_xor (a b : Nat) : nI a ^^^ nI b = nI (a ^^^ b) := by
  unfold nI
  apply Int32.toBitVec_inj.mp
  rw [Int32.toBitVec_xor, Int32.toBitVec_ofNat', Int32.toBitVec_ofNat', Int32.toBitVec_ofNat', BitVec.ofNat_xor]
theorem nI_div {j c : Nat} (h : j < 2 ^ 31) (hc : 0 < c) (hc2 : c < 2 ^ 31) : nI j / nI c = nI (j / c) := by
  have hd : j / c ≤ j := Nat.div_le_self _ _
  apply Int32.toInt_inj.mp
  rw [lg_idiv_nonneg, nI_toInt (by omega), nI_toInt (by omega), nI_toInt (by omega)]
  · exact (Int.natCast_ediv _ _).symm
  · rw [nI_toInt (by omega)]; omega
  · rw [nI_toInt (by omega)]; omega
theorem d2 {j : Nat} (h : j < 2 ^ 31) : nI j / 2 = nI (j / 2) := nI_div (c := 2) h (by decide) (by decide)
theorem d256 {j : Nat} (h : j < 2 ^ 31) : nI j / 256 = nI (j / 256) := nI_div (c := 256) h (by decide) (by decide)
theorem r2' {j : Nat} : nI j - nI (j / 2) * 2 = nI (j % 2) := by
  have e : nI (j / 2) * 2 = nI (j / 2 * 2) := nI_mul _ 2
  rw [e, pk_sub (by omega)]
  congr 1
  omega
theorem r256 {j : Nat} : nI j - nI (j / 256) * 256 = nI (j % 256) := by
  have e : nI (j / 256) * 256 = nI (j / 256 * 256) := nI_mul _ 256
  rw [e, pk_sub (by omega)]
  congr 1
  omega
theorem x33800 (a : Nat) : nI a ^^^ 33800 = nI (a ^^^ 33800) := nI_xor a 33800
theorem x32 (a : Nat) : nI a ^^^ 32 = nI (a ^^^ 32) := nI_xor a 32
def fs (k : Nat) : Nat := if k % 2 = 1 then (k / 2) ^^^ 33800 else k / 2
theorem fs_lt {k : Nat} (h : k < 65536) : fs k < 65536 := by
  unfold fs
  split
  · exact Nat.xor_lt_two_pow (n := 16) (by omega) (by decide)
  · omega
def f8 : Nat → Nat → Nat
  | 0, k => k
  | d + 1, k => f8 d (fs k)
theorem f8_lt : ∀ {d k : Nat}, k < 65536 → f8 d k < 65536 := by
  intro d
  induction d with
  | zero => intro k h; exact h
  | succ d ih => intro k h; exact ih (fs_lt h)
theorem in_cls (n0 : Nat) (r : Int32 → Int32 → Int32 → (Nat → Int32) → Option (Int32 × (Nat → Int32))) (v1 v3 : Int32) (u : Nat → Int32) :
    ∀ (d i m k : Nat), d + i = 8 → d < m → k < 65536 → f_Line_fcsOf_19 n0 r m v1 (nI k) v3 (nI i) u = r v1 (nI (f8 d k)) (v3 + 1) u := by
  intro d
  induction d with
  | zero =>
    intro i m k hi hm hk
    obtain ⟨m, rfl⟩ : ∃ k, m = k + 1 := ⟨m - 1, by omega⟩
    obtain rfl : i = 8 := by omega
    rw [f_Line_fcsOf_19, if_pos (by decide), bd_e, f8]
  | succ d ih =>
    intro i m k hi hm hk
    obtain ⟨m, rfl⟩ : ∃ k, m = k + 1 := ⟨m - 1, by omega⟩
    have hle : ¬ (8 : Int32) ≤ nI i := nI_ge (b := 8) (by omega) (by decide)
    rw [f_Line_fcsOf_19, if_neg hle]
    simp only [bd_e, d2 (show k < 2 ^ 31 by omega), r2', nI_1, x33800]
    rw [f8, ← ih (i + 1) m (fs k) (by omega) (by omega) (fs_lt hk)]
    unfold fs
    by_cases c : k % 2 = 1
    · rw [c, if_pos rfl, if_pos (by decide)]
    · have c2 : k % 2 = 0 := by omega
      rw [c2, if_neg (by decide), if_neg (by decide)]
theorem in_mod : ∀ (d i m k : Nat), d + i = 8 → d < m → k < 65536 → f_Mod_stepOf_6 m (nI k) (nI i) () = some (nI (f8 d k), ()) := by
  intro d
  induction d with
  | zero =>
    intro i m k hi hm hk
    obtain ⟨m, rfl⟩ : ∃ k, m = k + 1 := ⟨m - 1, by omega⟩
    obtain rfl : i = 8 := by omega
    rw [f_Mod_stepOf_6, if_pos (by decide), f8]
  | succ d ih =>
    intro i m k hi hm hk
    obtain ⟨m, rfl⟩ : ∃ k, m = k + 1 := ⟨m - 1, by omega⟩
    have hle : ¬ (8 : Int32) ≤ nI i := nI_ge (b := 8) (by omega) (by decide)
    have ha : nI k &&& 1 = nI (k % 2) := pk_andN (m := 1) (by omega) 1 (by decide)
    rw [f_Mod_stepOf_6, if_neg hle]
    simp only [bd_e, d2 (show k < 2 ^ 31 by omega), ha, nI_1, x33800]
    rw [f8, ← ih (i + 1) m (fs k) (by omega) (by omega) (fs_lt hk)]
    unfold fs
    by_cases c : k % 2 = 1
    · rw [c, if_pos rfl, if_neg (by decide)]
    · have c2 : k % 2 = 0 := by omega
      rw [c2, if_pos (by decide), if_neg (by decide)]
def fc (u : Nat → Int32) : Nat → Nat → Nat → Nat
  | 0, _, f => f
  | d + 1, i, f => fc u d (i + 1) (f8 8 (f ^^^ (u i).toInt.toNat))
def By (u : Nat → Int32) (e : Nat) : Prop := ∀ j, j < e → 0 ≤ (u j).toInt ∧ (u j).toInt ≤ 255
theorem by_n {u : Nat → Int32} {e j : Nat} (h : By u e) (hj : j < e) : u j = nI (u j).toInt.toNat ∧ (u j).toInt.toNat < 256 := by
  obtain ⟨a, b⟩ := h j hj
  exact ⟨pos_n a, by omega⟩
theorem fc_lt (u : Nat → Int32) {e : Nat} (h : By u e) : ∀ (d i f : Nat), d + i = e → f < 65536 → fc u d i f < 65536 := by
  intro d
  induction d with
  | zero => intro i f _ hf; exact hf
  | succ d ih =>
    intro i f hi hf
    have hb := (by_n h (j := i) (by omega)).2
    exact ih (i + 1) _ (by omega) (f8_lt (Nat.xor_lt_two_pow (n := 16) hf (by omega)))
theorem fc_congr {u v : Nat → Int32} {e : Nat} (h : ∀ j, j < e → u j = v j) : ∀ (d i f : Nat), d + i = e → fc u d i f = fc v d i f := by
  intro d
  induction d with
  | zero => intro i f _; rfl
  | succ d ih =>
    intro i f hi
    rw [fc, fc, h i (by omega)]
    exact ih (i + 1) _ (by omega)
theorem out_cls (n0 : Nat) (hn0 : n0 < 64) (u : Nat → Int32) {e : Nat} (h : By u e) (he : e ≤ n0) :
    ∀ (d i m f : Nat), d + i = e → d < m → f < 65536 → f_Line_fcsOf_5 n0 m (nI e) (nI f) (nI i) u = some (nI (65535 - fc u d i f), u) := by
  intro d
  induction d with
  | zero =>
    intro i m f hi hm hf
    obtain ⟨m, rfl⟩ : ∃ k, m = k + 1 := ⟨m - 1, by omega⟩
    obtain rfl : i = e := by omega
    have hle : nI i ≤ nI i := nI_le (by omega) (by omega)
    have e2 : (65535 : Int32) - nI f = nI (65535 - f) := pk_sub (a := 65535) (by omega)
    rw [f_Line_fcsOf_5, if_pos hle, bd_e, e2, fc]
  | succ d ih =>
    intro i m f hi hm hf
    obtain ⟨m, rfl⟩ : ∃ k, m = k + 1 := ⟨m - 1, by omega⟩
    have hle : ¬ nI e ≤ nI i := nI_ge (by omega) (by omega)
    obtain ⟨b1, b2⟩ := by_n h (j := i) (by omega)
    rw [f_Line_fcsOf_5, if_neg hle, gi_n (by omega) (by omega), cl_n (by omega)]
    simp only [bd_e]
    rw [b1, nI_xor, nI_e0, in_cls _ _ _ _ _ 8 0 64 _ (by omega) (by omega) (Nat.xor_lt_two_pow (n := 16) hf (by omega)), nI_1, ih (i + 1) m _ (by omega) (by omega) (f8_lt (Nat.xor_lt_two_pow (n := 16) hf (by omega))), fc]
theorem out_mod (u : S_Mod) (mb : Nat → Int32) (hmb : u.2.2.2.2.2.2.2.2.2.2.2.2.2.2.2.2.2.2.2.2.2.1 = mb) {e : Nat} (h : By mb e) (he : e ≤ 14) :
    ∀ (d i m f : Nat), d + i = e → d < m → f < 65536 → f_Mod_fcs_5 m (nI e) (nI f) (nI i) u = some (nI (65535 - fc mb d i f), u) := by
  intro d
  induction d with
  | zero =>
    intro i m f hi hm hf
    obtain ⟨m, rfl⟩ : ∃ k, m = k + 1 := ⟨m - 1, by omega⟩
    obtain rfl : i = e := by omega
    have hle : nI i ≤ nI i := nI_le (by omega) (by omega)
    have e2 : (65535 : Int32) - nI f = nI (65535 - f) := pk_sub (a := 65535) (by omega)
    rw [f_Mod_fcs_5, if_pos hle, bd_e, e2, fc]
  | succ d ih =>
    intro i m f hi hm hf
    obtain ⟨m, rfl⟩ : ∃ k, m = k + 1 := ⟨m - 1, by omega⟩
    have hle : ¬ nI e ≤ nI i := nI_ge (by omega) (by omega)
    obtain ⟨b1, b2⟩ := by_n h (j := i) (by omega)
    rw [f_Mod_fcs_5, if_neg hle, gi_n (by omega) (by omega), cl_n (by omega)]
    unfold f_Mod_stepOf
    simp only [bd_e, hmb]
    rw [b1, nI_xor, nI_e0, in_mod 8 0 64 _ (by omega) (by omega) (Nat.xor_lt_two_pow (n := 16) hf (by omega)), ca_e, nI_1, ih (i + 1) m _ (by omega) (by omega) (f8_lt (Nat.xor_lt_two_pow (n := 16) hf (by omega))), fc]
def fv (u : Nat → Int32) (e : Nat) : Nat := 65535 - fc u e 0 65535
theorem fv_cls (n0 : Nat) (hn0 : n0 < 64) (u : Nat → Int32) {e : Nat} (h : By u e) (he : e ≤ n0) : f_Line_fcsOf n0 (nI e) u = some (nI (fv u e), u) := by
  unfold f_Line_fcsOf
  exact out_cls n0 hn0 u h he e 0 64 65535 (by omega) (by omega) (by omega)
theorem fv_mod (u : S_Mod) (mb : Nat → Int32) (hmb : u.2.2.2.2.2.2.2.2.2.2.2.2.2.2.2.2.2.2.2.2.2.1 = mb) {e : Nat} (h : By mb e) (he : e ≤ 14) : f_Mod_fcs (nI e) u = some (nI (fv mb e), u) := by
  unfold f_Mod_fcs
  exact out_mod u mb hmb h he e 0 64 65535 (by omega) (by omega) (by omega)
theorem fv_le (u : Nat → Int32) (e : Nat) : fv u e ≤ 65535 := Nat.sub_le _ _
theorem fv_congr {u v : Nat → Int32} {e : Nat} (h : ∀ j, j < e → u j = v j) : fv u e = fv v e := by
  unfold fv
  rw [fc_congr h e 0 65535 (by omega)]
theorem and255 {k : Nat} (h : k ≤ 65535) : nI k &&& 255 = nI (k % 256) := pk_andN (m := 255) (by omega) 8 (by decide)
theorem shr8 {k : Nat} (h : k ≤ 65535) : nI k >>> ((8 : Int32) &&& 31) = nI (k / 256) := pk_shrN (by omega) _ 8 (by decide)
