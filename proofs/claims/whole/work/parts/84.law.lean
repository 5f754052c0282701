/-! the whole run -/
theorem law_loop (xs : Nat → Int32) (L : Nat) (hL : L ≤ 2560) : ∀ (d j m : Nat) (b : S_Box) (u : S_Mod) (o : Nat → Int64) (dd : Nat → UInt64), d + j = 513 → d < m → Inv j b u → f_law_28 xs L m (nI (5 * j)) (b, u, o, dd) = some 1 := by
  have eL : (Int32.ofNat L - 5).toInt = (L : Int) - 5 := by
    have e : (Int32.ofNat L).toInt = L := nI_toInt (by omega)
    rw [Int32.toInt_sub, e]
    simp only [Int32.reduceToInt]
    exact Int.bmod_eq_of_le (by omega) (by omega)
  have e5 (j : Nat) : nI (5 * j) + 5 = nI (5 * (j + 1)) := (nI_add (5 * j) 5).trans (by congr 1)
  intro d
  induction d with
  | zero =>
    intro j m b u o dd hj hm h
    obtain ⟨m, rfl⟩ : ∃ k, m = k + 1 := ⟨m - 1, by omega⟩
    have hlt : Int32.ofNat L - 5 < nI (5 * j) := by
      rw [Int32.lt_iff_toInt_lt, eL, nI_toInt (by omega)]
      omega
    rw [f_law_28, bd_e, if_pos hlt]
  | succ d ih =>
    intro j m b u o dd hj hm h
    obtain ⟨m, rfl⟩ : ∃ k, m = k + 1 := ⟨m - 1, by omega⟩
    rw [f_law_28, bd_e]
    by_cases hlt : Int32.ofNat L - 5 < nI (5 * j)
    · rw [if_pos hlt]
    · have hi : 5 * j + 4 < L := by
        rw [Int32.lt_iff_toInt_lt, eL, nI_toInt (by omega)] at hlt
        omega
      have hn : j < 512 := by omega
      rw [if_neg hlt, gi_n (by omega) (by omega)]
      simp only [bd_e, e5]
      have R : ∀ b' u' o' d', Inv (j + 1) b' u' → f_law_28 xs L m (nI (5 * (j + 1))) (b', u', o', d') = some 1 := fun b' u' o' d' h' => ih (j + 1) m b' u' o' d' (by omega) (by omega) h'
      generalize xs (nI (5 * j)).toNatClampNeg &&& 15 = x
      by_cases c0 : x = 0
      · rw [if_pos c0]
        obtain ⟨b', u', o', d', i1, i2⟩ := ca_plan xs L hL (fun (v5 : Int32) (u : S_Box × S_Mod × (Nat → Int64) × (Nat → UInt64)) => f_law_28 xs L m (v5 + 5) u) j (5 * j) hi hn b u o dd h
        rw [i2, e5]
        exact R b' u' o' d' i1
      rw [if_neg c0]
      by_cases c1 : x = 1
      · rw [if_pos c1]
        obtain ⟨b', u', o', d', i1, i2⟩ := ca_use xs L hL (fun (v5 : Int32) (u : S_Box × S_Mod × (Nat → Int64) × (Nat → UInt64)) => f_law_28 xs L m (v5 + 5) u) j (5 * j) hi hn b u o dd h
        rw [i2, e5]
        exact R b' u' o' d' i1
      rw [if_neg c1]
      by_cases c2 : x = 2
      · rw [if_pos c2]
        obtain ⟨b', u', o', d', i1, i2⟩ := ca_token xs L hL (fun (v5 : Int32) (u : S_Box × S_Mod × (Nat → Int64) × (Nat → UInt64)) => f_law_28 xs L m (v5 + 5) u) j (5 * j) hi hn b u o dd h
        rw [i2, e5]
        exact R b' u' o' d' i1
      rw [if_neg c2]
      by_cases c3 : x = 3
      · rw [if_pos c3]
        obtain ⟨b', u', o', d', i1, i2⟩ := ca_emergency xs L hL (fun (v5 : Int32) (u : S_Box × S_Mod × (Nat → Int64) × (Nat → UInt64)) => f_law_28 xs L m (v5 + 5) u) j (5 * j) hi hn b u o dd h
        rw [i2, e5]
        exact R b' u' o' d' i1
      rw [if_neg c3]
      by_cases c4 : x = 4
      · rw [if_pos c4]
        obtain ⟨b', u', o', d', i1, i2⟩ := ca_save xs L hL (fun (v5 : Int32) (u : S_Box × S_Mod × (Nat → Int64) × (Nat → UInt64)) => f_law_28 xs L m (v5 + 5) u) j (5 * j) hi hn b u o dd h
        rw [i2, e5]
        exact R b' u' o' d' i1
      rw [if_neg c4]
      by_cases c5 : x = 5
      · rw [if_pos c5]
        obtain ⟨b', u', o', d', i1, i2⟩ := ca_cut xs L hL (fun (v5 : Int32) (u : S_Box × S_Mod × (Nat → Int64) × (Nat → UInt64)) => f_law_28 xs L m (v5 + 5) u) j (5 * j) hi hn b u o dd h
        rw [i2, e5]
        exact R b' u' o' d' i1
      rw [if_neg c5]
      by_cases c6 : x = 6
      · rw [if_pos c6]
        obtain ⟨b', u', o', d', i1, i2⟩ := ca_power xs L hL (fun (v5 : Int32) (u : S_Box × S_Mod × (Nat → Int64) × (Nat → UInt64)) => f_law_28 xs L m (v5 + 5) u) j (5 * j) hi hn b u o dd h
        rw [i2, e5]
        exact R b' u' o' d' i1
      rw [if_neg c6]
      by_cases c7 : x = 7
      · rw [if_pos c7]
        obtain ⟨b', u', o', d', i1, i2⟩ := ca_request xs L hL (fun (v5 : Int32) (u : S_Box × S_Mod × (Nat → Int64) × (Nat → UInt64)) => f_law_28 xs L m (v5 + 5) u) j (5 * j) hi hn b u o dd h
        rw [i2, e5]
        exact R b' u' o' d' i1
      rw [if_neg c7]
      by_cases c8 : x = 8
      · rw [if_pos c8]
        obtain ⟨b', u', o', d', i1, i2⟩ := ca_reply xs L hL (fun (v5 : Int32) (u : S_Box × S_Mod × (Nat → Int64) × (Nat → UInt64)) => f_law_28 xs L m (v5 + 5) u) j (5 * j) hi hn b u o dd h
        rw [i2, e5]
        exact R b' u' o' d' i1
      rw [if_neg c8]
      by_cases c9 : x = 9
      · rw [if_pos c9]
        obtain ⟨b', u', o', d', i1, i2⟩ := ca_flash xs L hL (fun (v5 : Int32) (u : S_Box × S_Mod × (Nat → Int64) × (Nat → UInt64)) => f_law_28 xs L m (v5 + 5) u) j (5 * j) hi hn b u o dd h
        rw [i2, e5]
        exact R b' u' o' d' i1
      rw [if_neg c9]
      by_cases c10 : x = 10
      · rw [if_pos c10]
        obtain ⟨b', u', o', d', i1, i2⟩ := ca_read xs L hL (fun (v5 : Int32) (u : S_Box × S_Mod × (Nat → Int64) × (Nat → UInt64)) => f_law_28 xs L m (v5 + 5) u) j (5 * j) hi hn b u o dd h
        rw [i2, e5]
        exact R b' u' o' d' i1
      rw [if_neg c10]
      by_cases c11 : x = 11
      · rw [if_pos c11]
        obtain ⟨b', u', o', d', i1, i2⟩ := ca_price xs L hL (fun (v5 : Int32) (u : S_Box × S_Mod × (Nat → Int64) × (Nat → UInt64)) => f_law_28 xs L m (v5 + 5) u) j (5 * j) hi hn b u o dd h
        rw [i2, e5]
        exact R b' u' o' d' i1
      rw [if_neg c11]
      by_cases c12 : x = 12
      · rw [if_pos c12]
        obtain ⟨b', u', o', d', i1, i2⟩ := ca_count xs L hL (fun (v5 : Int32) (u : S_Box × S_Mod × (Nat → Int64) × (Nat → UInt64)) => f_law_28 xs L m (v5 + 5) u) j (5 * j) hi hn b u o dd h
        rw [i2, e5]
        exact R b' u' o' d' i1
      rw [if_neg c12]
      have h' : Inv (j + 1) b u := by
        obtain ⟨th, on, tm, cr, rg, hg, la, op, em, pr, mi, ta, ev, wo, we, pl, cu, tb, be, es, mb, mc, mr, rc, dr, bb, pa, an, le, z, q1, q2, s, l⟩ := h
        exact ⟨th, on, tm, cr, rg, hg, la, op, em, pr, mi, ta, ev, wo, we, pl, cu, tb, be, es, mb, mc, mr, rc, dr, bb, pa, an, le, z, q1, q2, SI_n s, l⟩
      exact R b u o dd h'
theorem pure_law (xs : Nat → Int32) (L : Nat) (hL : L ≤ 2560) : f_law xs L = some 1 := by
  unfold f_law
  rw [init_box, cv_e, init_mod, cv_e]
  have := law_loop xs L hL 513 0 514 b0 u0 (fun _ => 0) (fun _ => 0) (by omega) (by omega) init_inv
  rw [Nat.mul_zero, nI_0] at this
  exact this
