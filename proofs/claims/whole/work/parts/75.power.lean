/-! power -/
theorem op_power (n : Nat) (hn : n < 512) (b : S_Box) (u : S_Mod) (h : Inv n b u) (p : Int32) (hp : p = 0 ∨ p = 1) : Agree (n + 1) cdS1 (f_Box_power p b) (f_Mod_power p u) := by
  obtain ⟨th, on, tm, cr, rg, hg, la, op, em, pr, mi, ta, ev, wo, we, pl, cu, tb, be, es, mb, mc, mr, rc, dr, bb, pa, an, le, z, rfl, rfl, s, l⟩ := h
  have lp : LI 0 0 le 0 rc bb mb an mr := ⟨Or.inl rfl, Or.inl rfl, fun _ => ⟨rfl, rfl⟩, fun e => absurd e (by decide), l.2.2.2.2⟩
  unfold f_Box_power f_Mod_power f_Events_clear f_Line_giveUp f_Mod_raise
  by_cases c : on = p
  · simp only [c, if_true, ca_e]
    rw [c] at s
    exact ⟨_, _, _, rfl, ⟨1, p, tm, cr, rg, hg, la, op, em, pr, mi, ta, ev, wo, we, pl, cu, tb, be, es, mb, mc, mr, rc, dr, bb, pa, an, le, z, rfl, rfl, SI_n s, l⟩, Or.inr ⟨_, 1, rfl, rfl, rfl, rfl⟩⟩
  · simp only [c, if_false, gb_ok hp, cv_e]
    obtain ⟨i1, i2, i3, i4, i5, i6, i7, i8, i9, i10, i11, i12, i13, i14, i15⟩ := s
    by_cases c0 : p = 0
    · subst c0
      simp only [if_true]
      exact ⟨_, _, _, rfl, ⟨0, 0, tm, cr, rg, hg, la, op, em, pr, mi, ta, ev, wo, we, pl, cu, tb, 0, 0, mb, 0, mr, rc, dr, bb, pa, an, le, 0, rfl, rfl, SI_n ⟨Or.inl rfl, i2, i3, i4, i5, i6, i7, i8, i9, i10, i11, i12, i13, i14, by omega⟩, lp⟩, Or.inl ⟨rfl, rfl⟩⟩
    · simp only [c0, if_false]
      obtain ⟨tm', la', op', em', pl', cr', rg', dr', e1, e2, s'⟩ := load 0 p tm cr rg hg la op em pr mi ta ev 0 wo we pl cu tb 0 0 mb 0 mr rc dr bb pa an le (z := 0) ⟨hp, i2, i3, i4, i5, i6, i7, i8, i9, i10, i11, i12, i13, i14, by omega⟩ (by omega) (by omega)
      obtain ⟨r, g1, g2⟩ := gs wo we dr' pl' cu (0, p, tm', cr', rg', FP.dconst0, la', op', em', pr, mi, ta, ev, 0, wo, we, pl', cu, tb, 0, 0, mb, 0, mr, rc) rfl
      simp only [e1, e2, cv_e, g1, g2, ca_e]
      exact ⟨_, _, _, rfl, ⟨0, p, tm', cr', rg', FP.dconst0, la', op', em', pr, mi, ta, ev, wo, we, pl', cu, tb, 0, 0, mb, 0, mr, rc, dr', bb, pa, an, le, 0, rfl, rfl, SI_mono s' (by omega) (by omega) (by omega), lp⟩, Or.inl ⟨rfl, rfl⟩⟩
