/-! the tariff that stands; plan -/
theorem nI_mul (a b : Nat) : nI a * nI b = nI (a * b) := by
  unfold nI
  exact (Int32.ofNat_mul a b).symm
theorem tf_loop (u : S_Mod) (tm : Int32) (mi ta : Nat → Int32) (h1 : u.2.2.1 = tm) (h2 : u.2.2.2.2.2.2.2.2.2.2.1 = mi) (h3 : u.2.2.2.2.2.2.2.2.2.2.2.1 = ta)
    (hta : ∀ j, j < 8 → -1 ≤ (ta j).toInt ∧ (ta j).toInt ≤ 2) (fr : Nat) (hfr : fr ≤ 4) :
    ∀ (d i n m : Nat) (b : Int32), d + i = fr + 4 → d < n → d < m → (b = -1 ∨ ∃ j : Nat, j < 8 ∧ b = nI j ∧ 0 ≤ (ta j).toInt) →
    ∃ r : Int32, (0 ≤ r.toInt ∧ r.toInt ≤ 2) ∧ f_Plans_tariffAt_30 n (nI fr) (tm - tm / 1440 * 1440) b (nI i) (mi, ta) = some (r, (mi, ta)) ∧ f_Mod_tariff_25 m (nI fr) b (nI i) u = some (r, u) := by
  intro d
  have e4 : nI fr + 4 = nI (fr + 4) := nI_add fr 4
  induction d with
  | zero =>
    intro i n m b hi hn hm hb
    obtain ⟨n, rfl⟩ : ∃ k, n = k + 1 := ⟨n - 1, by omega⟩
    obtain ⟨m, rfl⟩ : ∃ k, m = k + 1 := ⟨m - 1, by omega⟩
    obtain rfl : i = fr + 4 := by omega
    have hle : nI (fr + 4) ≤ nI (fr + 4) := nI_le (by omega) (by omega)
    rw [f_Plans_tariffAt_30, f_Mod_tariff_25]
    simp only [bd_e, e4, h3, hle, if_true]
    rcases hb with rfl | ⟨j, hj, rfl, hj2⟩
    · refine ⟨0, by decide, ?_, ?_⟩
      · rw [if_pos rfl]
      · rw [if_neg (by decide)]
    · have q1 : ¬ nI j = -1 := by
        intro e
        have := congrArg Int32.toInt e
        rw [nI_toInt (by omega)] at this
        simp only [Int32.reduceToInt] at this
        omega
      refine ⟨ta j, ⟨hj2, (hta j hj).2⟩, ?_, ?_⟩
      · rw [if_neg q1, gi_n hj (by decide), cl_n (by omega)]
      · rw [if_pos (nI_pos' (by omega)), gi_n hj (by decide), cl_n (by omega)]
  | succ d ih =>
    intro i n m b hi hn hm hb
    obtain ⟨n, rfl⟩ : ∃ k, n = k + 1 := ⟨n - 1, by omega⟩
    obtain ⟨m, rfl⟩ : ∃ k, m = k + 1 := ⟨m - 1, by omega⟩
    have hle : ¬ nI (fr + 4) ≤ nI i := nI_ge (by omega) (by omega)
    rw [f_Plans_tariffAt_30, f_Mod_tariff_25]
    have hi8 : i < 8 := by omega
    have g (β : Type) (k : Option β) : gi (nI i) 8 k = k := gi_n hi8 (by decide)
    have cl : (nI i).toNatClampNeg = i := cl_n (by omega)
    simp only [bd_e, e4, h1, h2, h3, hle, if_false, nI_1, g, cl]
    have ht := hta i hi8
    by_cases c1 : ta i = -1
    · have c2 : ta i < 0 := (by simp only [Int32.lt_iff_toInt_lt, Int32.le_iff_toInt_le, ← Int32.toInt_inj, Int32.reduceToInt] at *; omega)
      simp only [c1, if_true]
      rw [if_pos (by decide)]
      exact ih (i + 1) n m b (by omega) (by omega) (by omega) hb
    · have c2 : ¬ ta i < 0 := (by simp only [Int32.lt_iff_toInt_lt, Int32.le_iff_toInt_le, ← Int32.toInt_inj, Int32.reduceToInt] at *; omega)
      have c3 : 0 ≤ (ta i).toInt := (by simp only [Int32.lt_iff_toInt_lt, Int32.le_iff_toInt_le, ← Int32.toInt_inj, Int32.reduceToInt] at *; omega)
      simp only [c1, c2, if_false]
      by_cases c4 : tm - tm / 1440 * 1440 < mi i
      · simp only [c4, if_true]
        exact ih (i + 1) n m b (by omega) (by omega) (by omega) hb
      · simp only [c4, if_false]
        rcases hb with rfl | ⟨j, hj, rfl, hj2⟩
        · simp only [if_true]
          rw [if_pos (by decide)]
          exact ih (i + 1) n m _ (by omega) (by omega) (by omega) (Or.inr ⟨i, hi8, rfl, c3⟩)
        · have q1 : ¬ nI j = -1 := by
            intro e
            have := congrArg Int32.toInt e
            rw [nI_toInt (by omega)] at this
            simp only [Int32.reduceToInt] at this
            omega
          have q2 : ¬ nI j < 0 := nI_pos (by omega)
          have g2 (β : Type) (k : Option β) : gi (nI j) 8 k = k := gi_n hj (by decide)
          have cl2 : (nI j).toNatClampNeg = j := cl_n (by omega)
          simp only [q1, q2, if_false, g2, cl2]
          by_cases c5 : mi i ≤ mi j
          · simp only [c5, if_true]
            exact ih (i + 1) n m _ (by omega) (by omega) (by omega) (Or.inr ⟨j, hj, rfl, hj2⟩)
          · simp only [c5, if_false]
            exact ih (i + 1) n m _ (by omega) (by omega) (by omega) (Or.inr ⟨i, hi8, rfl, c3⟩)
theorem tf (u : S_Mod) (tm : Int32) (mi ta : Nat → Int32) (h1 : u.2.2.1 = tm) (h2 : u.2.2.2.2.2.2.2.2.2.2.1 = mi) (h3 : u.2.2.2.2.2.2.2.2.2.2.2.1 = ta)
    (hta : ∀ j, j < 8 → -1 ≤ (ta j).toInt ∧ (ta j).toInt ≤ 2) :
    ∃ r : Int32, (0 ≤ r.toInt ∧ r.toInt ≤ 2) ∧ f_Plans_tariffAt tm (mi, ta) = some (r, (mi, ta)) ∧ f_Mod_tariff u = some (r, u) := by
  unfold f_Plans_tariffAt f_Mod_tariff f_Plans_tariffAt_17
  simp only [bd_e, h1]
  by_cases c : tm / 1440 - tm / 1440 / 7 * 7 < 5
  · have c2 : tm / 1440 - tm / 1440 / 7 * 7 ≤ 4 := by
      generalize tm / 1440 - tm / 1440 / 7 * 7 = x at c
      exact (by simp only [Int32.lt_iff_toInt_lt, Int32.le_iff_toInt_le, ← Int32.toInt_inj, Int32.reduceToInt] at *; omega)
    simp only [c, c2, if_true]
    exact tf_loop u tm mi ta h1 h2 h3 hta 0 (by omega) 4 0 64 64 (-1) (by omega) (by omega) (by omega) (Or.inl rfl)
  · have c2 : ¬ tm / 1440 - tm / 1440 / 7 * 7 ≤ 4 := by
      generalize tm / 1440 - tm / 1440 / 7 * 7 = x at c
      exact (by simp only [Int32.lt_iff_toInt_lt, Int32.le_iff_toInt_le, ← Int32.toInt_inj, Int32.reduceToInt] at *; omega)
    simp only [c, c2, if_false]
    exact tf_loop u tm mi ta h1 h2 h3 hta 4 (by omega) 4 4 64 64 (-1) (by omega) (by omega) (by omega) (Or.inl rfl)
theorem pz_loop (u : S_Mod) (mi ta : Nat → Int32) (h3 : u.2.2.2.2.2.2.2.2.2.2.2.1 = ta) (hta : ∀ j, j < 8 → -1 ≤ (ta j).toInt ∧ (ta j).toInt ≤ 2) (dy : Nat) (hdy : dy ≤ 1) :
    ∀ (d i n m : Nat) (c : Int32), d + i = 4 * dy + 4 → d < n → d < m →
    ∃ r : Int32, f_Plans_size_6 n (nI dy) c (nI i) (mi, ta) = some (r, (mi, ta)) ∧ f_Mod_plan_81 m (nI dy) c (nI i) u = some (r, u) := by
  intro d
  have e4 : nI (dy + 1) * 4 = nI (4 * dy + 4) := by exact (nI_mul (dy + 1) 4).trans (by congr 1; omega)
  have e5 : 4 * nI dy = nI (4 * dy) := nI_mul 4 dy
  have e6 : nI (4 * dy) + 4 = nI (4 * dy + 4) := nI_add (4 * dy) 4
  induction d with
  | zero =>
    intro i n m c hi hn hm
    obtain ⟨n, rfl⟩ : ∃ k, n = k + 1 := ⟨n - 1, by omega⟩
    obtain ⟨m, rfl⟩ : ∃ k, m = k + 1 := ⟨m - 1, by omega⟩
    obtain rfl : i = 4 * dy + 4 := by omega
    have hle : nI (4 * dy + 4) ≤ nI (4 * dy + 4) := nI_le (by omega) (by omega)
    refine ⟨c, ?_, ?_⟩
    · rw [f_Plans_size_6]
      simp only [bd_e, nI_1, e4, hle, if_true]
    · rw [f_Mod_plan_81]
      simp only [bd_e, e5, e6, hle, if_true]
  | succ d ih =>
    intro i n m c hi hn hm
    obtain ⟨n, rfl⟩ : ∃ k, n = k + 1 := ⟨n - 1, by omega⟩
    obtain ⟨m, rfl⟩ : ∃ k, m = k + 1 := ⟨m - 1, by omega⟩
    have hle : ¬ nI (4 * dy + 4) ≤ nI i := nI_ge (by omega) (by omega)
    rw [f_Plans_size_6, f_Mod_plan_81]
    have g (β : Type) (k : Option β) : gi (nI i) 8 k = k := gi_n (by omega) (by decide)
    have cl : (nI i).toNatClampNeg = i := cl_n (by omega)
    simp only [bd_e, nI_1, e4, e5, e6, h3, hle, if_false, g, cl]
    have ht := hta i (by omega)
    by_cases c1 : ta i = -1
    · simp only [c1, if_true]
      rw [if_pos (by decide)]
      exact ih (i + 1) n m c (by omega) (by omega) (by omega)
    · have c2 : ¬ ta i < 0 := (by simp only [Int32.lt_iff_toInt_lt, Int32.le_iff_toInt_le, ← Int32.toInt_inj, Int32.reduceToInt] at *; omega)
      simp only [c1, c2, if_false]
      exact ih (i + 1) n m _ (by omega) (by omega) (by omega)
