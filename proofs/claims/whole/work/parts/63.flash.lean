/-! flash: sums, good slots, the latest -/
def sm (w : Nat → Int64) (a : Nat) : Int64 := 7 * w a + 11 * w (a + 1) + 13 * w (a + 2) + 17 * w (a + 3) + 19 * w (a + 4) + 1
def gd (w : Nat → Int64) (s : Nat) : Prop := ¬ lg_cmp (w (6 * s)) 0 ≤ 0 ∧ lg_cmp (w (6 * s + 5)) (sm w (6 * s)) = 0
theorem nI_2 (a : Nat) : nI a + 2 = nI (a + 2) := nI_add a 2
theorem nI_3 (a : Nat) : nI a + 3 = nI (a + 3) := nI_add a 3
theorem nI_4 (a : Nat) : nI a + 4 = nI (a + 4) := nI_add a 4
theorem nI_5 (a : Nat) : nI a + 5 = nI (a + 5) := nI_add a 5
theorem nI_6 (a : Nat) : nI a + 6 = nI (a + 6) := nI_add a 6
theorem nI_18 (a : Nat) : nI a + 18 = nI (a + 18) := nI_add a 18
theorem m6 (a : Nat) : 6 * nI a = nI (6 * a) := nI_mul 6 a
theorem m6' (a : Nat) : nI a * 6 = nI (6 * a) := (nI_mul a 6).trans (by rw [Nat.mul_comm])
theorem m3 (a : Nat) : 3 * nI a = nI (3 * a) := nI_mul 3 a
theorem m3' (a : Nat) : nI a * 3 = nI (3 * a) := (nI_mul a 3).trans (by rw [Nat.mul_comm])
theorem m18 (a : Nat) : 18 * nI a = nI (18 * a) := nI_mul 18 a
theorem p1 (a : Nat) : nI (a + 1) - 1 = nI a := nI_pred a
theorem sm_cls {n0 a : Nat} (w : Nat → Int64) (h : a + 4 < n0) (hn : n0 < 2 ^ 31) : f_Flash_sumOf n0 (nI a) w = some (sm w a, w) := by
  unfold f_Flash_sumOf
  simp only [bd_e, nI_1, nI_2, nI_3, nI_4, cl_n (n := a) (by omega), cl_n (n := a + 1) (by omega), cl_n (n := a + 2) (by omega), cl_n (n := a + 3) (by omega), cl_n (n := a + 4) (by omega)]
  rw [gi_n (by omega) hn, gi_n (by omega) hn, gi_n (by omega) hn, gi_n (by omega) hn, gi_n (by omega) hn]
  rw [sm]
theorem sm_mod {a : Nat} (u : S_Mod) (w : Nat → Int64) (hw : u.2.2.2.2.2.2.2.2.2.2.2.2.2.2.1 = w) (h : a + 4 < 72) : f_Mod_sum (nI a) u = some (sm w a, u) := by
  unfold f_Mod_sum
  simp only [bd_e, hw, nI_1, nI_2, nI_3, nI_4, cl_n (n := a) (by omega), cl_n (n := a + 1) (by omega), cl_n (n := a + 2) (by omega), cl_n (n := a + 3) (by omega), cl_n (n := a + 4) (by omega)]
  rw [gi_n (by omega) (by decide), gi_n (by omega) (by decide), gi_n (by omega) (by decide), gi_n (by omega) (by decide), gi_n (by omega) (by decide)]
  rw [sm]
theorem gd_cls {s : Nat} (hs : s < 12) (w : Nat → Int64) (we : Nat → Int32) (dr : Nat → Int64) (pl cu : Int32) :
    (gd w s → f_Flash_isGood (nI s) (w, we, dr, pl, cu) = some (1, (w, we, dr, pl, cu))) ∧ (¬ gd w s → f_Flash_isGood (nI s) (w, we, dr, pl, cu) = some (0, (w, we, dr, pl, cu))) := by
  have e : f_Flash_isGood (nI s) (w, we, dr, pl, cu) = (if lg_cmp (w (6 * s)) 0 ≤ 0 then some (0, (w, we, dr, pl, cu)) else if lg_cmp (w (6 * s + 5)) (sm w (6 * s)) = 0 then some (1, (w, we, dr, pl, cu)) else some (0, (w, we, dr, pl, cu))) := by
    unfold f_Flash_isGood
    simp only [bd_e, m6', nI_6, p1, sm_cls w (show 6 * s + 4 < 72 by omega) (by decide), ca_e, cl_n (n := 6 * s) (by omega), cl_n (n := 6 * s + 5) (by omega)]
    rw [gi_n (by omega) (by decide), gi_n (by omega) (by decide)]
  constructor
  · intro h
    rw [e, if_neg h.1, if_pos h.2]
  · intro h
    rw [e]
    by_cases c : lg_cmp (w (6 * s)) 0 ≤ 0
    · rw [if_pos c]
    · rw [if_neg c, if_neg (fun c2 => h ⟨c, c2⟩)]
theorem gd_mod {s : Nat} (hs : s < 12) (u : S_Mod) (w : Nat → Int64) (hw : u.2.2.2.2.2.2.2.2.2.2.2.2.2.2.1 = w) :
    (gd w s → f_Mod_good (nI s) u = some (1, u)) ∧ (¬ gd w s → f_Mod_good (nI s) u = some (0, u)) := by
  have e : f_Mod_good (nI s) u = (if lg_cmp (w (6 * s)) 0 ≤ 0 then some (0, u) else if lg_cmp (w (6 * s + 5)) (sm w (6 * s)) = 0 then some (1, u) else some (0, u)) := by
    unfold f_Mod_good
    simp only [bd_e, m6, nI_5, hw, sm_mod u w hw (show 6 * s + 4 < 72 by omega), ca_e, cl_n (n := 6 * s) (by omega), cl_n (n := 6 * s + 5) (by omega)]
    rw [gi_n (by omega) (by decide), gi_n (by omega) (by decide)]
  constructor
  · intro h
    rw [e, if_neg h.1, if_pos h.2]
  · intro h
    rw [e]
    by_cases c : lg_cmp (w (6 * s)) 0 ≤ 0
    · rw [if_pos c]
    · rw [if_neg c, if_neg (fun c2 => h ⟨c, c2⟩)]
theorem nI_nm1 {j : Nat} (h : j < 2 ^ 31) : ¬ nI j = -1 := by
  intro e
  have := congrArg Int32.toInt e
  rw [nI_toInt h] at this
  simp only [Int32.reduceToInt] at this
  omega
theorem wa_cls {s k : Nat} (hs : s < 12) (hk : k < 6) (w : Nat → Int64) (we : Nat → Int32) (dr : Nat → Int64) (pl cu : Int32) :
    f_Flash_wordAt (nI s) (nI k) (w, we, dr, pl, cu) = some (w (6 * s + k), (w, we, dr, pl, cu)) := by
  unfold f_Flash_wordAt
  simp only [bd_e, m6', nI_add, cl_n (n := 6 * s + k) (by omega)]
  rw [gi_n (by omega) (by decide)]
theorem wa_cls0 {s : Nat} (hs : s < 12) (w : Nat → Int64) (we : Nat → Int32) (dr : Nat → Int64) (pl cu : Int32) :
    f_Flash_wordAt (nI s) 0 (w, we, dr, pl, cu) = some (w (6 * s), (w, we, dr, pl, cu)) := wa_cls (k := 0) hs (by decide) w we dr pl cu
theorem nw_loop (w : Nat → Int64) (we : Nat → Int32) (dr : Nat → Int64) (pl cu : Int32) (u : S_Mod) (hw : u.2.2.2.2.2.2.2.2.2.2.2.2.2.2.1 = w) :
    ∀ (d i n m : Nat) (b : Int32), d + i = 12 → d < n → d < m → (b = -1 ∨ ∃ j : Nat, j < 12 ∧ b = nI j ∧ gd w j) →
    ∃ r : Int32, (r = -1 ∨ ∃ j : Nat, j < 12 ∧ r = nI j ∧ gd w j) ∧ f_Flash_newestSlot_4 n b (nI i) (w, we, dr, pl, cu) = some (r, (w, we, dr, pl, cu)) ∧ f_Mod_latest_4 m b (nI i) u = some (r, u) := by
  intro d
  induction d with
  | zero =>
    intro i n m b hi hn hm hb
    obtain ⟨n, rfl⟩ : ∃ k, n = k + 1 := ⟨n - 1, by omega⟩
    obtain ⟨m, rfl⟩ : ∃ k, m = k + 1 := ⟨m - 1, by omega⟩
    obtain rfl : i = 12 := by omega
    refine ⟨b, hb, ?_, ?_⟩
    · rw [f_Flash_newestSlot_4, if_pos (by decide)]
    · rw [f_Mod_latest_4, if_pos (by decide)]
  | succ d ih =>
    intro i n m b hi hn hm hb
    obtain ⟨n, rfl⟩ : ∃ k, n = k + 1 := ⟨n - 1, by omega⟩
    obtain ⟨m, rfl⟩ : ∃ k, m = k + 1 := ⟨m - 1, by omega⟩
    have hi8 : i < 12 := by omega
    have hle : ¬ (12 : Int32) ≤ nI i := nI_ge (b := 12) (by omega) (by omega)
    have g1 := gd_cls hi8 w we dr pl cu
    have g2 := gd_mod hi8 u w hw
    rw [f_Flash_newestSlot_4, f_Mod_latest_4, if_neg hle, if_neg hle]
    by_cases c : gd w i
    · simp only [g1.1 c, g2.1 c, ca_e, bd_e, nI_1, k10, ↓reduceIte]
      rcases hb with rfl | ⟨j, hj, rfl, hj2⟩
      · simp only [km0, ↓reduceIte]
        exact ih (i + 1) n m _ (by omega) (by omega) (by omega) (Or.inr ⟨i, hi8, rfl, c⟩)
      · have q1 := nI_nm1 (j := j) (by omega)
        have q2 : ¬ nI j < 0 := nI_pos (by omega)
        have gg (β : Type) (k : Option β) : gi (nI (6 * i)) 72 k = k := gi_n (by omega) (by decide)
        have gj (β : Type) (k : Option β) : gi (nI (6 * j)) 72 k = k := gi_n (by omega) (by decide)
        simp only [q1, q2, if_false, wa_cls0 hi8, wa_cls0 hj, ca_e, m6, hw, gg, gj, cl_n (n := 6 * i) (by omega), cl_n (n := 6 * j) (by omega)]
        by_cases c5 : lg_cmp (w (6 * i)) (w (6 * j)) ≤ 0
        · simp only [c5, if_true]
          exact ih (i + 1) n m _ (by omega) (by omega) (by omega) (Or.inr ⟨j, hj, rfl, hj2⟩)
        · simp only [c5, if_false]
          exact ih (i + 1) n m _ (by omega) (by omega) (by omega) (Or.inr ⟨i, hi8, rfl, c⟩)
    · simp only [g1.2 c, g2.2 c, ca_e, bd_e, nI_1, ↓reduceIte]
      exact ih (i + 1) n m _ (by omega) (by omega) (by omega) hb
theorem nw (w : Nat → Int64) (we : Nat → Int32) (dr : Nat → Int64) (pl cu : Int32) (u : S_Mod) (hw : u.2.2.2.2.2.2.2.2.2.2.2.2.2.2.1 = w) :
    ∃ r : Int32, (r = -1 ∨ ∃ j : Nat, j < 12 ∧ r = nI j ∧ gd w j) ∧ f_Flash_newestSlot (w, we, dr, pl, cu) = some (r, (w, we, dr, pl, cu)) ∧ f_Mod_latest u = some (r, u) := by
  unfold f_Flash_newestSlot f_Mod_latest
  exact nw_loop w we dr pl cu u hw 12 0 64 64 (-1) (by omega) (by omega) (by omega) (Or.inl rfl)
theorem gs_loop (w : Nat → Int64) (we : Nat → Int32) (dr : Nat → Int64) (pl cu : Int32) (u : S_Mod) (hw : u.2.2.2.2.2.2.2.2.2.2.2.2.2.2.1 = w) :
    ∀ (d i n m : Nat) (b : Int32), d + i = 12 → d < n → d < m →
    ∃ r : Int32, f_Flash_goodSlots_4 n b (nI i) (w, we, dr, pl, cu) = some (r, (w, we, dr, pl, cu)) ∧ f_Mod_power_58 m b (nI i) u = some (r, u) := by
  intro d
  induction d with
  | zero =>
    intro i n m b hi hn hm
    obtain ⟨n, rfl⟩ : ∃ k, n = k + 1 := ⟨n - 1, by omega⟩
    obtain ⟨m, rfl⟩ : ∃ k, m = k + 1 := ⟨m - 1, by omega⟩
    obtain rfl : i = 12 := by omega
    refine ⟨b, ?_, ?_⟩
    · rw [f_Flash_goodSlots_4, if_pos (by decide)]
    · rw [f_Mod_power_58, if_pos (by decide)]
  | succ d ih =>
    intro i n m b hi hn hm
    obtain ⟨n, rfl⟩ : ∃ k, n = k + 1 := ⟨n - 1, by omega⟩
    obtain ⟨m, rfl⟩ : ∃ k, m = k + 1 := ⟨m - 1, by omega⟩
    have hi8 : i < 12 := by omega
    have hle : ¬ (12 : Int32) ≤ nI i := nI_ge (b := 12) (by omega) (by omega)
    have g1 := gd_cls hi8 w we dr pl cu
    have g2 := gd_mod hi8 u w hw
    rw [f_Flash_goodSlots_4, f_Mod_power_58, if_neg hle, if_neg hle]
    by_cases c : gd w i
    · simp only [g1.1 c, g2.1 c, ca_e, bd_e, nI_1, k10, ↓reduceIte]
      exact ih (i + 1) n m _ (by omega) (by omega) (by omega)
    · simp only [g1.2 c, g2.2 c, ca_e, bd_e, nI_1, ↓reduceIte]
      exact ih (i + 1) n m _ (by omega) (by omega) (by omega)
theorem gs (w : Nat → Int64) (we : Nat → Int32) (dr : Nat → Int64) (pl cu : Int32) (u : S_Mod) (hw : u.2.2.2.2.2.2.2.2.2.2.2.2.2.2.1 = w) :
    ∃ r : Int32, f_Flash_goodSlots (w, we, dr, pl, cu) = some (r, (w, we, dr, pl, cu)) ∧ f_Mod_power_58 64 0 0 u = some (r, u) := by
  unfold f_Flash_goodSlots
  exact gs_loop w we dr pl cu u hw 12 0 64 64 0 (by omega) (by omega) (by omega)
