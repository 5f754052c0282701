/-! count, emergency, save -/
theorem op_count (n : Nat) (b : S_Box) (u : S_Mod) (h : Inv n b u) (p1 : Int32) : Agree (n + 1) cd2 (f_Box_count p1 b) (f_Mod_count p1 u) := by
  obtain ⟨th, on, tm, cr, rg, hg, la, op, em, pr, mi, ta, ev, wo, we, pl, cu, tb, be, es, mb, mc, mr, rc, dr, bb, pa, an, le, z, rfl, rfl, s, l⟩ := h
  have err : Inv (n + 1) (pr, (mi, ta), (rg, tm, cr, hg, la, op, em), (ev, nI z), (wo, we, dr, pl, cu), (bb, pa, an, le, rc, be, es), on) (1, on, tm, cr, rg, hg, la, op, em, pr, mi, ta, ev, nI z, wo, we, pl, cu, tb, be, es, mb, mc, mr, rc) := ⟨1, on, tm, cr, rg, hg, la, op, em, pr, mi, ta, ev, wo, we, pl, cu, tb, be, es, mb, mc, mr, rc, dr, bb, pa, an, le, z, rfl, rfl, SI_n s, l⟩
  have err2 : Inv (n + 1) (pr, (mi, ta), (rg, tm, cr, hg, la, op, em), (ev, nI z), (wo, we, dr, pl, cu), (bb, pa, an, le, rc, be, es), on) (2, on, tm, cr, rg, hg, la, op, em, pr, mi, ta, ev, nI z, wo, we, pl, cu, tb, be, es, mb, mc, mr, rc) := ⟨2, on, tm, cr, rg, hg, la, op, em, pr, mi, ta, ev, wo, we, pl, cu, tb, be, es, mb, mc, mr, rc, dr, bb, pa, an, le, z, rfl, rfl, SI_n s, l⟩
  have ok : Inv (n + 1) (pr, (mi, ta), (rg, tm, cr, hg, la, op, em), (ev, nI z), (wo, we, dr, pl, cu), (bb, pa, an, le, rc, be, es), on) (0, on, tm, cr, rg, hg, la, op, em, pr, mi, ta, ev, nI z, wo, we, pl, cu, tb, be, es, mb, mc, mr, rc) := ⟨0, on, tm, cr, rg, hg, la, op, em, pr, mi, ta, ev, wo, we, pl, cu, tb, be, es, mb, mc, mr, rc, dr, bb, pa, an, le, z, rfl, rfl, SI_n s, l⟩
  unfold f_Box_count f_Mod_count f_Mod_raise f_Box_requireOn f_Box_countOfState
  rcases in_cases p1 0 10 with ⟨a1, a2, a3, a4⟩ | ⟨a1, a2⟩
  · simp only [a1, a2, cxv_e, ca_e, k10, if_false]
    simp only [Int32.reduceToInt] at a3 a4
    by_cases c0 : p1 < 6
    · have c6 : ¬ (6 : Int32) ≤ p1 := (by simp only [Int32.lt_iff_toInt_lt, Int32.le_iff_toInt_le, ← Int32.toInt_inj, Int32.reduceToInt] at *; omega)
      simp only [c0, c6, if_true, if_false]
      by_cases c1 : p1 = 0
      · simp only [c1, if_true]
        by_cases o : on = 0
        · simp only [o, if_true] at ok ⊢
          exact ⟨_, _, _, rfl, ok, Or.inl ⟨rfl, rfl⟩⟩
        · simp only [o, if_false]
          exact ⟨_, _, _, rfl, ok, Or.inl ⟨rfl, rfl⟩⟩
      · by_cases c2 : p1 = 1
        · subst c2
          simp only [k10, if_true, if_false]
          exact ⟨_, _, _, rfl, ok, Or.inl ⟨rfl, rfl⟩⟩
        · simp only [c1, c2, if_false, bd_e]
          have e2 : (p1 - 2).toInt = p1.toInt - 2 := by
            rw [Int32.toInt_sub]
            simp only [Int32.reduceToInt]
            exact Int.bmod_eq_of_le (by omega) (by omega)
          have hb : 0 ≤ (p1 - 2).toInt ∧ (p1 - 2).toInt < 4 := (by simp only [Int32.lt_iff_toInt_lt, Int32.le_iff_toInt_le, ← Int32.toInt_inj, Int32.reduceToInt] at *; omega)
          obtain ⟨y, hy, e⟩ := int_of (p := p1 - 2) (k := 4) hb.1 hb.2
          have g (β : Type) (k : Option β) : gi (nI y) 4 k = k := gi_n hy (by decide)
          simp only [e, g]
          exact ⟨_, _, _, rfl, ok, Or.inl ⟨rfl, rfl⟩⟩
    · have c6 : (6 : Int32) ≤ p1 := (by simp only [Int32.lt_iff_toInt_lt, Int32.le_iff_toInt_le, ← Int32.toInt_inj, Int32.reduceToInt] at *; omega)
      have c1 : ¬ p1 = 0 := (by simp only [Int32.lt_iff_toInt_lt, Int32.le_iff_toInt_le, ← Int32.toInt_inj, Int32.reduceToInt] at *; omega)
      have c2 : ¬ p1 = 1 := (by simp only [Int32.lt_iff_toInt_lt, Int32.le_iff_toInt_le, ← Int32.toInt_inj, Int32.reduceToInt] at *; omega)
      simp only [c0, c6, c1, c2, if_true, if_false]
      by_cases o : on = 0
      · simp only [o, if_true, cxv_x] at err2 ⊢
        exact ⟨_, _, _, rfl, err2, Or.inr ⟨_, 2, rfl, rfl, Or.inr ⟨rfl, rfl⟩⟩⟩
      · simp only [o, if_false, cxv_e]
        by_cases d6 : p1 = 6
        · simp only [d6, if_true, ca_e]
          exact ⟨_, _, _, rfl, ok, Or.inl ⟨rfl, rfl⟩⟩
        · by_cases d7 : p1 = 7
          · subst d7
            simp only [d6, if_true, if_false]
            by_cases q : op = 0
            · simp only [q, if_true, ca_e] at ok ⊢
              exact ⟨_, _, _, rfl, ok, Or.inl ⟨rfl, rfl⟩⟩
            · simp only [q, if_false, ca_e]
              exact ⟨_, _, _, rfl, ok, Or.inl ⟨rfl, rfl⟩⟩
          · by_cases d8 : p1 = 8
            · subst d8
              simp only [d6, d7, if_true, if_false]
              by_cases q : em = 0
              · simp only [q, if_true, ca_e] at ok ⊢
                exact ⟨_, _, _, rfl, ok, Or.inl ⟨rfl, rfl⟩⟩
              · simp only [q, if_false, ca_e]
                exact ⟨_, _, _, rfl, ok, Or.inl ⟨rfl, rfl⟩⟩
            · by_cases d9 : p1 = 9
              · subst d9
                simp only [d6, d7, d8, if_true, if_false, ca_e]
                exact ⟨_, _, _, rfl, ok, Or.inl ⟨rfl, rfl⟩⟩
              · simp only [d6, d7, d8, d9, if_false]
                have hta := s.2.2.2.2.2.2.2.2.2.2.2.1
                obtain ⟨r, hr, e1, e2⟩ := tf (0, on, tm, cr, rg, hg, la, op, em, pr, mi, ta, ev, nI z, wo, we, pl, cu, tb, be, es, mb, mc, mr, rc) tm mi ta rfl rfl rfl hta
                simp only [e1, e2, ca_e]
                exact ⟨_, _, _, rfl, ok, Or.inl ⟨rfl, rfl⟩⟩
  · simp only [a1, a2, cxv_x, ca_e, if_true]
    exact ⟨_, _, _, rfl, err, Or.inr ⟨_, 1, rfl, rfl, Or.inl ⟨rfl, rfl⟩⟩⟩
theorem op_emergency (n : Nat) (b : S_Box) (u : S_Mod) (h : Inv n b u) : Agree (n + 1) cdE (f_Box_emergency b) (f_Mod_emergency u) := by
  obtain ⟨th, on, tm, cr, rg, hg, la, op, em, pr, mi, ta, ev, wo, we, pl, cu, tb, be, es, mb, mc, mr, rc, dr, bb, pa, an, le, z, rfl, rfl, s, l⟩ := h
  have err : Inv (n + 1) (pr, (mi, ta), (rg, tm, cr, hg, la, op, em), (ev, nI z), (wo, we, dr, pl, cu), (bb, pa, an, le, rc, be, es), on) (1, on, tm, cr, rg, hg, la, op, em, pr, mi, ta, ev, nI z, wo, we, pl, cu, tb, be, es, mb, mc, mr, rc) := ⟨1, on, tm, cr, rg, hg, la, op, em, pr, mi, ta, ev, wo, we, pl, cu, tb, be, es, mb, mc, mr, rc, dr, bb, pa, an, le, z, rfl, rfl, SI_n s, l⟩
  have err2 : Inv (n + 1) (pr, (mi, ta), (rg, tm, cr, hg, la, op, em), (ev, nI z), (wo, we, dr, pl, cu), (bb, pa, an, le, rc, be, es), on) (2, on, tm, cr, rg, hg, la, op, em, pr, mi, ta, ev, nI z, wo, we, pl, cu, tb, be, es, mb, mc, mr, rc) := ⟨2, on, tm, cr, rg, hg, la, op, em, pr, mi, ta, ev, wo, we, pl, cu, tb, be, es, mb, mc, mr, rc, dr, bb, pa, an, le, z, rfl, rfl, SI_n s, l⟩
  have s2 := SI_n s
  obtain ⟨i1, i2, i3, i4, i5, i6, i7, i8, i9, i10, i11, i12, i13, i14, i15⟩ := s2
  unfold f_Box_emergency f_Mod_emergency f_Mod_raise f_Box_requireOn f_Box_emergency_26 f_Mod_emergency_34 f_Box_emergency_62 f_Mod_emergency_67 f_Box_closeRelay f_Mod_close f_Mod_raise
  by_cases o : on = 0
  · simp only [o, if_true, cxv_x, ca_e] at err ⊢
    exact ⟨_, _, _, rfl, err, Or.inr ⟨_, 1, rfl, rfl, Or.inl ⟨rfl, rfl⟩⟩⟩
  · simp only [o, if_false, cxv_e, bd_e, ca_e]
    by_cases c : em = 0
    · simp only [c, if_true]
      by_cases c2 : Op.cmpValue (FP.dcmp cr FP.dconst0) .l < 0
      · simp only [c2, if_true]
        by_cases c3 : op = 0
        · subst c3
          simp only [if_true, cv_e, ite_self]
          exact ⟨_, _, _, rfl, ⟨0, on, tm, cr, rg, hg, la, 0, 1, pr, mi, ta, ev, wo, we, pl, cu, tb, be, es, mb, mc, mr, rc, dr, bb, pa, an, le, z, rfl, rfl, ⟨i1, i2, Or.inr rfl, i4, i5, i6, i7, i8, i9, i10, i11, i12, i13, i14, i15⟩, l⟩, Or.inl ⟨rfl, rfl⟩⟩
        · simp only [c3, if_false]
          by_cases c4 : Op.cmpValue (FP.dcmp cr 13835058055282163712) .l < 0
          · simp only [c4, if_true]
            exact ⟨_, _, _, rfl, ⟨0, on, tm, cr, rg, hg, la, op, 1, pr, mi, ta, ev, wo, we, pl, cu, tb, be, es, mb, mc, mr, rc, dr, bb, pa, an, le, z, rfl, rfl, ⟨i1, i2, Or.inr rfl, i4, i5, i6, i7, i8, i9, i10, i11, i12, i13, i14, i15⟩, l⟩, Or.inl ⟨rfl, rfl⟩⟩
          · simp only [c4, if_false, ev_box (hz := i15), ev_mod (hz := i15), cv_e, if_true]
            exact ⟨_, _, _, rfl, ⟨0, on, tm, cr, rg, hg, la, 0, 1, pr, mi, ta, evz 5 tm ev z, wo, we, pl, cu, tb, be, es, mb, mc, mr, rc, dr, bb, pa, an, le, evn z, rfl, rfl, ⟨i1, Or.inl rfl, Or.inr rfl, i4, i5, i6, i7, i8, i9, i10, i11, i12, i13, i14, evn_le i15⟩, l⟩, Or.inl ⟨rfl, rfl⟩⟩
      · simp only [c2, if_false]
        simp only [c] at err2
        exact ⟨_, _, _, rfl, err2, Or.inr ⟨_, 2, rfl, rfl, Or.inr ⟨rfl, rfl⟩⟩⟩
    · simp only [c, if_false]
      exact ⟨_, _, _, rfl, err2, Or.inr ⟨_, 2, rfl, rfl, Or.inr ⟨rfl, rfl⟩⟩⟩
theorem op_save (n : Nat) (hn : n < 512) (b : S_Box) (u : S_Mod) (h : Inv n b u) : Agree (n + 1) cdV (f_Box_save b) (f_Mod_save u) := by
  obtain ⟨th, on, tm, cr, rg, hg, la, op, em, pr, mi, ta, ev, wo, we, pl, cu, tb, be, es, mb, mc, mr, rc, dr, bb, pa, an, le, z, rfl, rfl, s, l⟩ := h
  have err : Inv (n + 1) (pr, (mi, ta), (rg, tm, cr, hg, la, op, em), (ev, nI z), (wo, we, dr, pl, cu), (bb, pa, an, le, rc, be, es), on) (1, on, tm, cr, rg, hg, la, op, em, pr, mi, ta, ev, nI z, wo, we, pl, cu, tb, be, es, mb, mc, mr, rc) := ⟨1, on, tm, cr, rg, hg, la, op, em, pr, mi, ta, ev, wo, we, pl, cu, tb, be, es, mb, mc, mr, rc, dr, bb, pa, an, le, z, rfl, rfl, SI_n s, l⟩
  unfold f_Box_save f_Mod_save f_Mod_raise f_Box_requireOn f_Box_keepOrThrow
  by_cases o : on = 0
  · simp only [o, if_true, cxv_x, ca_e] at err ⊢
    exact ⟨_, _, _, rfl, err, Or.inr ⟨_, 1, rfl, rfl, Or.inl ⟨rfl, rfl⟩⟩⟩
  · simp only [o, if_false, cxv_e, bd_e, ca_e]
    obtain ⟨i1, i2, i3, i4, i5, i6, i7, i8, i9, i10, i11, i12, i13, i14, i15⟩ := s
    obtain ⟨W, E, D, pl', cu', on', t, rc', rm, e1, e2, j1, j2, j3, j4⟩ := keep 0 on tm cr rg hg la op em pr mi ta ev (nI z) wo we pl cu tb be es mb mc mr rc dr bb pa an le i4 i5 i6 i8 i9 i10.1.nn (by omega) (by omega) (Bf_1 (by omega)) i14 (k4_bd i10 (by omega) i13 (by omega))
    have hon : on' = 0 ∨ on' = 1 := by
      rcases j4 with ⟨_, _, r⟩ | ⟨_, _, r⟩ | ⟨_, _, r, _⟩
      · rw [r]; exact i1
      · exact Or.inl r
      · rw [r]; exact i1
    have s2 : SI (8388608 + 2400 * (n + 1 : Nat)) (301 * (n + 1 : Nat)) (16384 + 200 * (n + 1 : Nat)) on' la op em pl' cu' cr hg rg pr ta W z :=
      SI_mono (K := 8388608 + 2400 * n) (N := 301 * n + 1) (A := 16384 + 200 * n) ⟨hon, i2, i3, j1, j2, i6, i7, i8, i9, i10, i11, i12, i13, j3, i15⟩ (by omega) (by omega) (by omega)
    simp only [e1, e2, ca_e]
    rcases j4 with ⟨r1, r2, r3⟩ | ⟨r1, r2, r3⟩ | ⟨r1, r2, r3, r4⟩
    · subst r1 r2
      simp only [if_true, k10, if_false, cx_x]
      exact ⟨_, _, _, rfl, ⟨2, on', tm, cr, rg, hg, la, op, em, pr, mi, ta, ev, W, E, pl', cu', 1, be, es, mb, mc, mr, rc, D, bb, pa, an, le, z, rfl, rfl, s2, l⟩, Or.inr ⟨_, 2, rfl, rfl, Or.inr (Or.inl ⟨rfl, rfl⟩)⟩⟩
    · subst r1 r2
      simp only [if_true, k20, km00, if_false, cx_x]
      exact ⟨_, _, _, rfl, ⟨3, on', tm, cr, rg, hg, la, op, em, pr, mi, ta, ev, W, E, pl', cu', 2, be, es, mb, mc, mr, rc, D, bb, pa, an, le, z, rfl, rfl, s2, l⟩, Or.inr ⟨_, 3, rfl, rfl, Or.inr (Or.inr ⟨rfl, rfl⟩)⟩⟩
    · have q1 : ¬ rc' = 0 := by
        intro e
        rw [e] at r4
        exact absurd r4 (by decide)
      have q2 : ¬ rc' = -1 := by
        intro e
        rw [e] at r4
        exact absurd r4 (by decide)
      subst r2
      simp only [q1, q2, if_true, if_false, cx_e]
      rw [← r1]
      exact ⟨_, _, _, rfl, ⟨0, on', tm, cr, rg, hg, la, op, em, pr, mi, ta, ev, W, E, pl', cu', 0, be, es, mb, mc, mr, rc, D, bb, pa, an, le, z, rfl, rfl, s2, l⟩, Or.inl ⟨rfl, rfl⟩⟩
