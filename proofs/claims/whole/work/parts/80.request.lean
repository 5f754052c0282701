/-! request -/
def cdQ (E : String) (k : Int32) : Prop := (E = xIA ∧ k = 1) ∨ (E = xIS ∧ k = 2) ∨ (E = xAE ∧ k = 3) ∨ (E = xUO ∧ k = 4)
theorem nI_ne {a b : Nat} (ha : a < 2 ^ 31) (hb : b < 2 ^ 31) (h : a ≠ b) : ¬ nI a = nI b := fun e => h ((nI_eq ha hb).mp e)
theorem known (th : Int32) (on : Int32) (tm : Int32) (cr : UInt64) (rg : (Nat → UInt64)) (hg : UInt64) (la : Int32) (op : Int32) (em : Int32) (pr : (Nat → UInt64)) (mi : (Nat → Int32)) (ta : (Nat → Int32)) (ev : (Nat → Int32)) (wo : (Nat → Int64)) (we : (Nat → Int32)) (pl : Int32) (cu : Int32) (tb : Int32) (be : Int32) (es : Int32) (mb : (Nat → Int32)) (mc : Int32) (mr : (Nat → Int32)) (rc : Int32) (dr : Nat → Int64) (bb pa an : Nat → Int32) (le : Int32) {z : Nat} (hz : z ≤ 12) (k a : Nat) (hk : k < 256) (ha : a < 256) :
    (f_Box_isKnown (nI k) (nI a) (pr, (mi, ta), (rg, tm, cr, hg, la, op, em), (ev, nI z), (wo, we, dr, pl, cu), (bb, pa, an, le, rc, be, es), on) = some (0, (pr, (mi, ta), (rg, tm, cr, hg, la, op, em), (ev, nI z), (wo, we, dr, pl, cu), (bb, pa, an, le, rc, be, es), on)) ∧ f_Mod_known (nI k) (nI a) (th, on, tm, cr, rg, hg, la, op, em, pr, mi, ta, ev, nI z, wo, we, pl, cu, tb, be, es, mb, mc, mr, rc) = some (0, (th, on, tm, cr, rg, hg, la, op, em, pr, mi, ta, ev, nI z, wo, we, pl, cu, tb, be, es, mb, mc, mr, rc))) ∨
    (f_Box_isKnown (nI k) (nI a) (pr, (mi, ta), (rg, tm, cr, hg, la, op, em), (ev, nI z), (wo, we, dr, pl, cu), (bb, pa, an, le, rc, be, es), on) = some (1, (pr, (mi, ta), (rg, tm, cr, hg, la, op, em), (ev, nI z), (wo, we, dr, pl, cu), (bb, pa, an, le, rc, be, es), on)) ∧ f_Mod_known (nI k) (nI a) (th, on, tm, cr, rg, hg, la, op, em, pr, mi, ta, ev, nI z, wo, we, pl, cu, tb, be, es, mb, mc, mr, rc) = some (1, (th, on, tm, cr, rg, hg, la, op, em, pr, mi, ta, ev, nI z, wo, we, pl, cu, tb, be, es, mb, mc, mr, rc)) ∧ ((k = 0 ∧ a ≤ 5) ∨ (k = 1 ∧ a < 4) ∨ (k = 2 ∧ a < z))) := by
  unfold f_Box_isKnown f_Mod_known f_Mod_known_10 f_Mod_known_20
  have e0 : (nI k = 0) = (k = 0) := propext ⟨fun e => (nI_eq (b := 0) (by omega) (by decide)).mp e, fun e => by rw [e, nI_0]⟩
  have e1 : (nI k = 1) = (k = 1) := propext ⟨fun e => (nI_eq (b := 1) (by omega) (by decide)).mp e, fun e => by rw [e]; rfl⟩
  have e2 : (nI k = 2) = (k = 2) := propext ⟨fun e => (nI_eq (b := 2) (by omega) (by decide)).mp e, fun e => by rw [e]; rfl⟩
  simp only [e0, e1, e2]
  by_cases c0 : k = 0
  · have q1 : ¬ k = 1 := by omega
    have q2 : ¬ k = 2 := by omega
    simp only [c0, if_true]
    by_cases d : a ≤ 5
    · have d1 : ¬ (5 : Int32) < nI a := nI_nlt (a := 5) d (by decide)
      have d2 : nI a < (6 : Int32) := nI_lt (b := 6) (by omega) (by decide)
      simp only [d1, d2, if_true, if_false]
      exact Or.inr ⟨trivial, trivial, Or.inl ⟨trivial, d⟩⟩
    · have d1 : (5 : Int32) < nI a := nI_lt (a := 5) (by omega) (by omega)
      have d2 : ¬ nI a < (6 : Int32) := nI_nlt (b := 6) (by omega) (by omega)
      have z1 : ¬ (0 : Nat) = 1 := by decide
      have z2 : ¬ (0 : Nat) = 2 := by decide
      simp only [d1, d2, z1, z2, if_true, if_false]
      exact Or.inl ⟨trivial, trivial⟩
  · by_cases c1 : k = 1
    · have z0 : ¬ (1 : Nat) = 0 := by decide
      have z2 : ¬ (1 : Nat) = 2 := by decide
      simp only [c1, z0, z2, if_true, if_false]
      by_cases d : a < 4
      · have d1 : ¬ (4 : Int32) ≤ nI a := nI_ge (b := 4) d (by decide)
        have d2 : nI a < (4 : Int32) := nI_lt (b := 4) (by omega) (by decide)
        simp only [d1, d2, if_true, if_false]
        exact Or.inr ⟨trivial, trivial, Or.inr (Or.inl ⟨trivial, d⟩)⟩
      · have d1 : (4 : Int32) ≤ nI a := nI_le (a := 4) (by omega) (by omega)
        have d2 : ¬ nI a < (4 : Int32) := nI_nlt (b := 4) (by omega) (by omega)
        simp only [d1, d2, if_true, if_false]
        exact Or.inl ⟨trivial, trivial⟩
    · by_cases c2 : k = 2
      · have z0 : ¬ (2 : Nat) = 0 := by decide
        have z1 : ¬ (2 : Nat) = 1 := by decide
        simp only [c2, z0, z1, if_true, if_false]
        by_cases d : a < z
        · have d1 : ¬ nI z ≤ nI a := nI_ge d (by omega)
          simp only [d1, if_false]
          exact Or.inr ⟨trivial, trivial, Or.inr (Or.inr ⟨trivial, d⟩)⟩
        · have d1 : nI z ≤ nI a := nI_le (by omega) (by omega)
          simp only [d1, if_true]
          exact Or.inl ⟨trivial, trivial⟩
      · simp only [c0, c1, c2, if_false]
        exact Or.inl ⟨trivial, trivial⟩
theorem number (th : Int32) (on : Int32) (tm : Int32) (cr : UInt64) (rg : (Nat → UInt64)) (hg : UInt64) (la : Int32) (op : Int32) (em : Int32) (pr : (Nat → UInt64)) (mi : (Nat → Int32)) (ta : (Nat → Int32)) (ev : (Nat → Int32)) (wo : (Nat → Int64)) (we : (Nat → Int32)) (pl : Int32) (cu : Int32) (tb : Int32) (be : Int32) (es : Int32) (mb : (Nat → Int32)) (mc : Int32) (mr : (Nat → Int32)) (rc : Int32) (dr : Nat → Int64) (bb pa an : Nat → Int32) (le : Int32) {z : Nat} (hz : z ≤ 12) (k a : Nat) (h : (k = 0 ∧ a ≤ 5) ∨ (k = 1 ∧ a < 4) ∨ (k = 2 ∧ a < z)) (h0 : NN cr) (h1 : NN hg) (h2 : NN (rg 0)) (h3 : NN (rg 1)) (h4 : NN (rg 2)) :
    ∃ v : Int64, f_Box_numberFor (nI k) (nI a) (pr, (mi, ta), (rg, tm, cr, hg, la, op, em), (ev, nI z), (wo, we, dr, pl, cu), (bb, pa, an, le, rc, be, es), on) = some (v, (pr, (mi, ta), (rg, tm, cr, hg, la, op, em), (ev, nI z), (wo, we, dr, pl, cu), (bb, pa, an, le, rc, be, es), on)) ∧ f_Mod_answer (nI k) (nI a) (th, on, tm, cr, rg, hg, la, op, em, pr, mi, ta, ev, nI z, wo, we, pl, cu, tb, be, es, mb, mc, mr, rc) = some (v, (th, on, tm, cr, rg, hg, la, op, em, pr, mi, ta, ev, nI z, wo, we, pl, cu, tb, be, es, mb, mc, mr, rc)) := by
  unfold f_Box_numberFor f_Mod_answer f_Mod_scaled f_State_value
  rcases h with ⟨rfl, ha⟩ | ⟨rfl, ha⟩ | ⟨rfl, ha⟩
  · have z1 : ¬ nI 0 = 1 := by decide
    have z2 : ¬ nI 0 = 2 := by decide
    simp only [z1, z2, if_false]
    by_cases a5 : a = 5
    · subst a5
      have y1 : nI 5 = 5 := by decide
      have y2 : (3 : Int32) ≤ 5 := by decide
      have y3 : ¬ (5 : Int32) = 3 := by decide
      have y4 : ¬ (5 : Int32) = 4 := by decide
      simp only [y1, y2, y3, y4, if_true, if_false, bd_e]
      exact ⟨_, rfl, rfl⟩
    · have y5 : ¬ nI a = 5 := nI_ne (b := 5) (by omega) (by decide) a5
      simp only [y5, if_false]
      by_cases a3 : a < 3
      · have y1 : ¬ (3 : Int32) ≤ nI a := nI_ge (b := 3) a3 (by decide)
        have g (β : Type) (q : Option β) : gi (nI a) 3 q = q := gi_n a3 (by decide)
        have cl : (nI a).toNatClampNeg = a := cl_n (by omega)
        have hr : NN (rg a) := by
          have : a = 0 ∨ a = 1 ∨ a = 2 := by omega
          rcases this with rfl | rfl | rfl
          · exact h2
          · exact h3
          · exact h4
        simp only [y1, if_false, g, cl, bd_e, ca_e, th_ok hr, gn_ok (NNk hr)]
        exact ⟨_, rfl, rfl⟩
      · have y1 : (3 : Int32) ≤ nI a := nI_le (a := 3) (by omega) (by omega)
        simp only [y1, if_true]
        by_cases a4 : a = 4
        · subst a4
          have y4 : nI 4 = 4 := by decide
          have y3 : ¬ (4 : Int32) = 3 := by decide
          simp only [y4, y3, if_true, if_false, bd_e, ca_e, th_ok h1, gn_ok (NNk h1)]
          exact ⟨_, rfl, rfl⟩
        · obtain rfl : a = 3 := by omega
          have y4 : nI 3 = 3 := by decide
          have y3 : ¬ (3 : Int32) = 4 := by decide
          simp only [y4, y3, if_true, if_false, bd_e, ca_e, th_ok h0, gn_ok (NNk h0)]
          exact ⟨_, rfl, rfl⟩
  · have z1 : nI 1 = 1 := by decide
    have g (β : Type) (q : Option β) : gi (nI a) 4 q = q := gi_n ha (by decide)
    simp only [z1, if_true, g, bd_e]
    exact ⟨_, rfl, rfl⟩
  · have z1 : ¬ nI 2 = 1 := by decide
    have z2 : nI 2 = 2 := by decide
    have g (β : Type) (q : Option β) : gi (nI a) 12 q = q := gi_n (by omega) (by decide)
    simp only [z2, k21, if_true, if_false, g, bd_e]
    exact ⟨_, rfl, rfl⟩
