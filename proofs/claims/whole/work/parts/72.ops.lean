/-! the small calls -/
def cd1 (E : String) (k : Int32) : Prop := E = xIA ∧ k = 1
def cdS1 (E : String) (k : Int32) : Prop := E = xIS ∧ k = 1
def cd2 (E : String) (k : Int32) : Prop := (E = xIA ∧ k = 1) ∨ (E = xIS ∧ k = 2)
def cdE (E : String) (k : Int32) : Prop := (E = xIS ∧ k = 1) ∨ (E = xUO ∧ k = 2)
def cdV (E : String) (k : Int32) : Prop := (E = xIS ∧ k = 1) ∨ (E = xUO ∧ k = 2) ∨ (E = xAE ∧ k = 3)
def cdR (E : String) (k : Int32) : Prop := E = xIO ∧ k = 1
theorem int_of {p : Int32} {k : Nat} (h : 0 ≤ p.toInt) (h2 : p.toInt < k) : ∃ j : Nat, j < k ∧ p = nI j := ⟨p.toInt.toNat, by omega, pos_n h⟩
theorem op_plan (n : Nat) (b : S_Box) (u : S_Mod) (h : Inv n b u) (p1 p2 p3 p4 : Int32) : Agree (n + 1) cd1 (f_Box_plan p1 p2 p3 p4 b) (f_Mod_plan p1 p2 p3 p4 u) := by
  obtain ⟨th, on, tm, cr, rg, hg, la, op, em, pr, mi, ta, ev, wo, we, pl, cu, tb, be, es, mb, mc, mr, rc, dr, bb, pa, an, le, z, rfl, rfl, s, l⟩ := h
  have err : Inv (n + 1) (pr, (mi, ta), (rg, tm, cr, hg, la, op, em), (ev, nI z), (wo, we, dr, pl, cu), (bb, pa, an, le, rc, be, es), on) (1, on, tm, cr, rg, hg, la, op, em, pr, mi, ta, ev, nI z, wo, we, pl, cu, tb, be, es, mb, mc, mr, rc) := ⟨1, on, tm, cr, rg, hg, la, op, em, pr, mi, ta, ev, wo, we, pl, cu, tb, be, es, mb, mc, mr, rc, dr, bb, pa, an, le, z, rfl, rfl, SI_n s, l⟩
  unfold f_Box_plan f_Mod_plan f_Mod_plan_44 f_Mod_raise
  rcases in_cases p1 0 1 with ⟨a1, a2, a3, a4⟩ | ⟨a1, a2⟩
  · simp only [a1, a2, cxv_e, ca_e, k10, if_false]
    rcases in_cases p2 0 3 with ⟨b1, b2, b3, b4⟩ | ⟨b1, b2⟩
    · simp only [b1, b2, cxv_e, ca_e, k10, if_false]
      rcases in_cases p3 0 1439 with ⟨c1, c2, c3, c4⟩ | ⟨c1, c2⟩
      · simp only [c1, c2, cxv_e, ca_e, k10, if_false]
        rcases in_cases p4 (-1) 2 with ⟨d1, d2, d3, d4⟩ | ⟨d1, d2⟩
        · simp only [d1, d2, cxv_e, ca_e, k10, if_false]
          simp only [Int32.reduceToInt] at a3 a4 b3 b4 d3 d4
          obtain ⟨y, hy, rfl⟩ := int_of (p := p1) (k := 2) (by omega) (by omega)
          obtain ⟨e, he, rfl⟩ := int_of (p := p2) (k := 4) (by omega) (by omega)
          have m1 : nI y * 4 = nI (4 * y) := (nI_mul y 4).trans (by rw [Nat.mul_comm])
          have m2 : 4 * nI y = nI (4 * y) := nI_mul 4 y
          have g (β : Type) (k : Option β) : gi (nI (4 * y + e)) 8 k = k := gi_n (by omega) (by decide)
          have cl : (nI (4 * y + e)).toNatClampNeg = 4 * y + e := cl_n (by omega)
          unfold f_Plans_put f_Plans_size
          simp only [bd_e, m1, m2, nI_add, g, cl, cv_e]
          obtain ⟨i1, i2, i3, i4, i5, i6, i7, i8, i9, i10, i11, i12, i13, i14, i15⟩ := s
          have hta : ∀ j, j < 8 → -1 ≤ (upd ta (4 * y + e) p4 j).toInt ∧ (upd ta (4 * y + e) p4 j).toInt ≤ 2 := by
            intro j hj
            by_cases q : j = 4 * y + e
            · subst q; rw [pk_us]; exact ⟨d3, d4⟩
            · rw [pk_un q]; exact i12 j hj
          obtain ⟨r, q1, q2⟩ := pz_loop (0, on, tm, cr, rg, hg, la, op, em, pr, upd mi (4 * y + e) p3, upd ta (4 * y + e) p4, ev, nI z, wo, we, pl, cu, tb, be, es, mb, mc, mr, rc) (upd mi (4 * y + e) p3) (upd ta (4 * y + e) p4) rfl hta y (by omega) 4 (4 * y) 64 64 0 (by omega) (by omega) (by omega)
          simp only [q1, ca_e]
          exact ⟨r, _, _, q2, ⟨0, on, tm, cr, rg, hg, la, op, em, pr, upd mi (4 * y + e) p3, upd ta (4 * y + e) p4, ev, wo, we, pl, cu, tb, be, es, mb, mc, mr, rc, dr, bb, pa, an, le, z, rfl, rfl, SI_n ⟨i1, i2, i3, i4, i5, i6, i7, i8, i9, i10, i11, hta, i13, i14, i15⟩, l⟩, Or.inl ⟨rfl, rfl⟩⟩
        · simp only [d1, d2, cxv_x, ca_e, if_true]
          exact ⟨0, _, _, rfl, err, Or.inr ⟨_, 1, rfl, rfl, rfl, rfl⟩⟩
      · simp only [c1, c2, cxv_x, ca_e, if_true]
        exact ⟨0, _, _, rfl, err, Or.inr ⟨_, 1, rfl, rfl, rfl, rfl⟩⟩
    · simp only [b1, b2, cxv_x, ca_e, if_true]
      exact ⟨0, _, _, rfl, err, Or.inr ⟨_, 1, rfl, rfl, rfl, rfl⟩⟩
  · simp only [a1, a2, cxv_x, ca_e, if_true]
    exact ⟨0, _, _, rfl, err, Or.inr ⟨_, 1, rfl, rfl, rfl, rfl⟩⟩
theorem op_cut (n : Nat) (b : S_Box) (u : S_Mod) (h : Inv n b u) (p1 : Int32) : Agree (n + 1) cd1 (f_Box_cut p1 b) (f_Mod_cut p1 u) := by
  obtain ⟨th, on, tm, cr, rg, hg, la, op, em, pr, mi, ta, ev, wo, we, pl, cu, tb, be, es, mb, mc, mr, rc, dr, bb, pa, an, le, z, rfl, rfl, s, l⟩ := h
  unfold f_Box_cut f_Mod_cut f_Mod_raise f_Flash_setCut
  rcases in_cases p1 0 5 with ⟨a1, a2, a3, a4⟩ | ⟨a1, a2⟩
  · simp only [a1, a2, cxv_e, ca_e, k10, if_false]
    simp only [Int32.reduceToInt] at a3 a4
    obtain ⟨i1, i2, i3, i4, i5, i6, i7, i8, i9, i10, i11, i12, i13, i14, i15⟩ := s
    exact ⟨cu, _, _, rfl, ⟨0, on, tm, cr, rg, hg, la, op, em, pr, mi, ta, ev, wo, we, pl, p1, tb, be, es, mb, mc, mr, rc, dr, bb, pa, an, le, z, rfl, rfl, SI_n ⟨i1, i2, i3, i4, Or.inr (int_of (p := p1) (k := 6) (by omega) (by omega)), i6, i7, i8, i9, i10, i11, i12, i13, i14, i15⟩, l⟩, Or.inl ⟨rfl, rfl⟩⟩
  · simp only [a1, a2, cxv_x, ca_e, if_true]
    exact ⟨0, _, _, rfl, ⟨1, on, tm, cr, rg, hg, la, op, em, pr, mi, ta, ev, wo, we, pl, cu, tb, be, es, mb, mc, mr, rc, dr, bb, pa, an, le, z, rfl, rfl, SI_n s, l⟩, Or.inr ⟨_, 1, rfl, rfl, rfl, rfl⟩⟩
theorem op_reply (n : Nat) (b : S_Box) (u : S_Mod) (h : Inv n b u) (p1 : Int32) : Agree (n + 1) cdR (f_Box_reply p1 b) (f_Mod_reply p1 u) := by
  obtain ⟨th, on, tm, cr, rg, hg, la, op, em, pr, mi, ta, ev, wo, we, pl, cu, tb, be, es, mb, mc, mr, rc, dr, bb, pa, an, le, z, rfl, rfl, s, l⟩ := h
  obtain ⟨q, hq, rfl, hqq⟩ := l.2.2.2.2
  have e1 : (nI q).toInt = q := nI_toInt (by omega)
  have e2 : (nI q - 1).toInt = (q : Int) - 1 := by
    rw [Int32.toInt_sub, e1]
    simp only [Int32.reduceToInt]
    exact Int.bmod_eq_of_le (by omega) (by omega)
  unfold f_Box_reply f_Mod_reply f_Mod_raise f_Box_reply_15 f_Mod_in
  simp only [bd_e]
  by_cases c : p1 < 0
  · simp only [c, if_true, ca_e]
    exact ⟨0, _, _, rfl, ⟨1, on, tm, cr, rg, hg, la, op, em, pr, mi, ta, ev, wo, we, pl, cu, tb, be, es, mb, mc, mr, nI q, dr, bb, pa, an, le, z, rfl, rfl, SI_n s, l⟩, Or.inr ⟨_, 1, rfl, rfl, rfl, rfl⟩⟩
  · by_cases c2 : p1 < nI q
    · have c3 : ¬ nI q - 1 < p1 := (by simp only [Int32.lt_iff_toInt_lt, Int32.le_iff_toInt_le, ← Int32.toInt_inj, Int32.reduceToInt] at *; omega)
      have c4 : 0 ≤ p1.toInt ∧ p1.toInt < q := (by simp only [Int32.lt_iff_toInt_lt, Int32.le_iff_toInt_le, ← Int32.toInt_inj, Int32.reduceToInt] at *; omega)
      obtain ⟨j, hj, rfl⟩ := int_of (p := p1) (k := q) c4.1 c4.2
      simp only [c, c2, c3, if_false, if_true, ca_e, k10]
      have g (β : Type) (k : Option β) : gi (nI j) 24 k = k := gi_n (by omega) (by decide)
      have g2 (β : Type) (k : Option β) : gi (nI j) 30 k = k := gi_n (by omega) (by decide)
      have cl : (nI j).toNatClampNeg = j := cl_n (by omega)
      simp only [g, g2, cl, hqq j hj]
      exact ⟨mr j, _, _, rfl, ⟨0, on, tm, cr, rg, hg, la, op, em, pr, mi, ta, ev, wo, we, pl, cu, tb, be, es, mb, mc, mr, nI q, dr, bb, pa, an, le, z, rfl, rfl, SI_n s, l⟩, Or.inl ⟨rfl, rfl⟩⟩
    · have c3 : nI q - 1 < p1 := (by simp only [Int32.lt_iff_toInt_lt, Int32.le_iff_toInt_le, ← Int32.toInt_inj, Int32.reduceToInt] at *; omega)
      simp only [c, c2, c3, if_false, if_true, ca_e]
      exact ⟨0, _, _, rfl, ⟨1, on, tm, cr, rg, hg, la, op, em, pr, mi, ta, ev, wo, we, pl, cu, tb, be, es, mb, mc, mr, nI q, dr, bb, pa, an, le, z, rfl, rfl, SI_n s, l⟩, Or.inr ⟨_, 1, rfl, rfl, rfl, rfl⟩⟩
theorem op_flash (n : Nat) (b : S_Box) (u : S_Mod) (h : Inv n b u) (p1 p2 : Int32) : Agree (n + 1) cd1 (f_Box_flash p1 p2 b) (f_Mod_flash p1 p2 u) := by
  obtain ⟨th, on, tm, cr, rg, hg, la, op, em, pr, mi, ta, ev, wo, we, pl, cu, tb, be, es, mb, mc, mr, rc, dr, bb, pa, an, le, z, rfl, rfl, s, l⟩ := h
  have err : Inv (n + 1) (pr, (mi, ta), (rg, tm, cr, hg, la, op, em), (ev, nI z), (wo, we, dr, pl, cu), (bb, pa, an, le, rc, be, es), on) (1, on, tm, cr, rg, hg, la, op, em, pr, mi, ta, ev, nI z, wo, we, pl, cu, tb, be, es, mb, mc, mr, rc) := ⟨1, on, tm, cr, rg, hg, la, op, em, pr, mi, ta, ev, wo, we, pl, cu, tb, be, es, mb, mc, mr, rc, dr, bb, pa, an, le, z, rfl, rfl, SI_n s, l⟩
  unfold f_Box_flash f_Mod_flash f_Mod_flash_38 f_Mod_raise
  rcases in_cases p1 0 11 with ⟨a1, a2, a3, a4⟩ | ⟨a1, a2⟩
  · simp only [a1, a2, cxv_e, ca_e, k10, if_false]
    rcases in_cases p2 0 5 with ⟨b1, b2, b3, b4⟩ | ⟨b1, b2⟩
    · simp only [b1, b2, cxv_e, ca_e, k10, if_false]
      simp only [Int32.reduceToInt] at a3 a4 b3 b4
      obtain ⟨y, hy, rfl⟩ := int_of (p := p1) (k := 12) (by omega) (by omega)
      obtain ⟨e, he, rfl⟩ := int_of (p := p2) (k := 6) (by omega) (by omega)
      have g (β : Type) (k : Option β) : gi (nI (6 * y + e)) 72 k = k := gi_n (by omega) (by decide)
      have cl : (nI (6 * y + e)).toNatClampNeg = 6 * y + e := cl_n (by omega)
      simp only [wa_cls hy he, ca_e, bd_e, m6, nI_add, g, cl]
      exact ⟨wo (6 * y + e), _, _, rfl, ⟨0, on, tm, cr, rg, hg, la, op, em, pr, mi, ta, ev, wo, we, pl, cu, tb, be, es, mb, mc, mr, rc, dr, bb, pa, an, le, z, rfl, rfl, SI_n s, l⟩, Or.inl ⟨rfl, rfl⟩⟩
    · simp only [b1, b2, cxv_x, ca_e, if_true, bd_e]
      exact ⟨_, _, _, rfl, err, Or.inr ⟨_, 1, rfl, rfl, rfl, rfl⟩⟩
  · simp only [a1, a2, cxv_x, ca_e, if_true, bd_e]
    exact ⟨_, _, _, rfl, err, Or.inr ⟨_, 1, rfl, rfl, rfl, rfl⟩⟩
theorem op_price (n : Nat) (b : S_Box) (u : S_Mod) (h : Inv n b u) (p1 : Int32) : Agree (n + 1) cd1 (f_Box_price p1 b) (f_Mod_price p1 u) := by
  obtain ⟨th, on, tm, cr, rg, hg, la, op, em, pr, mi, ta, ev, wo, we, pl, cu, tb, be, es, mb, mc, mr, rc, dr, bb, pa, an, le, z, rfl, rfl, s, l⟩ := h
  have err : Inv (n + 1) (pr, (mi, ta), (rg, tm, cr, hg, la, op, em), (ev, nI z), (wo, we, dr, pl, cu), (bb, pa, an, le, rc, be, es), on) (1, on, tm, cr, rg, hg, la, op, em, pr, mi, ta, ev, nI z, wo, we, pl, cu, tb, be, es, mb, mc, mr, rc) := ⟨1, on, tm, cr, rg, hg, la, op, em, pr, mi, ta, ev, wo, we, pl, cu, tb, be, es, mb, mc, mr, rc, dr, bb, pa, an, le, z, rfl, rfl, SI_n s, l⟩
  unfold f_Box_price f_Mod_price f_Mod_raise
  rcases in_cases p1 0 2 with ⟨a1, a2, a3, a4⟩ | ⟨a1, a2⟩
  · simp only [a1, a2, cxv_e, ca_e, k10, if_false]
    simp only [Int32.reduceToInt] at a3 a4
    obtain ⟨y, hy, rfl⟩ := int_of (p := p1) (k := 3) (by omega) (by omega)
    have g (β : Type) (k : Option β) : gi (nI y) 3 k = k := gi_n hy (by decide)
    have cl : (nI y).toNatClampNeg = y := cl_n (by omega)
    simp only [g, cl, bd_e]
    exact ⟨pr y, _, _, rfl, ⟨0, on, tm, cr, rg, hg, la, op, em, pr, mi, ta, ev, wo, we, pl, cu, tb, be, es, mb, mc, mr, rc, dr, bb, pa, an, le, z, rfl, rfl, SI_n s, l⟩, Or.inl ⟨rfl, rfl⟩⟩
  · simp only [a1, a2, cxv_x, ca_e, if_true, bd_e]
    exact ⟨_, _, _, rfl, err, Or.inr ⟨_, 1, rfl, rfl, rfl, rfl⟩⟩
theorem op_read (n : Nat) (b : S_Box) (u : S_Mod) (h : Inv n b u) (p1 : Int32) : Agree (n + 1) cd2 (f_Box_read p1 b) (f_Mod_read p1 u) := by
  obtain ⟨th, on, tm, cr, rg, hg, la, op, em, pr, mi, ta, ev, wo, we, pl, cu, tb, be, es, mb, mc, mr, rc, dr, bb, pa, an, le, z, rfl, rfl, s, l⟩ := h
  have err : Inv (n + 1) (pr, (mi, ta), (rg, tm, cr, hg, la, op, em), (ev, nI z), (wo, we, dr, pl, cu), (bb, pa, an, le, rc, be, es), on) (1, on, tm, cr, rg, hg, la, op, em, pr, mi, ta, ev, nI z, wo, we, pl, cu, tb, be, es, mb, mc, mr, rc) := ⟨1, on, tm, cr, rg, hg, la, op, em, pr, mi, ta, ev, wo, we, pl, cu, tb, be, es, mb, mc, mr, rc, dr, bb, pa, an, le, z, rfl, rfl, SI_n s, l⟩
  have err2 : Inv (n + 1) (pr, (mi, ta), (rg, tm, cr, hg, la, op, em), (ev, nI z), (wo, we, dr, pl, cu), (bb, pa, an, le, rc, be, es), on) (2, on, tm, cr, rg, hg, la, op, em, pr, mi, ta, ev, nI z, wo, we, pl, cu, tb, be, es, mb, mc, mr, rc) := ⟨2, on, tm, cr, rg, hg, la, op, em, pr, mi, ta, ev, wo, we, pl, cu, tb, be, es, mb, mc, mr, rc, dr, bb, pa, an, le, z, rfl, rfl, SI_n s, l⟩
  have ok : Inv (n + 1) (pr, (mi, ta), (rg, tm, cr, hg, la, op, em), (ev, nI z), (wo, we, dr, pl, cu), (bb, pa, an, le, rc, be, es), on) (0, on, tm, cr, rg, hg, la, op, em, pr, mi, ta, ev, nI z, wo, we, pl, cu, tb, be, es, mb, mc, mr, rc) := ⟨0, on, tm, cr, rg, hg, la, op, em, pr, mi, ta, ev, wo, we, pl, cu, tb, be, es, mb, mc, mr, rc, dr, bb, pa, an, le, z, rfl, rfl, SI_n s, l⟩
  unfold f_Box_read f_Mod_read f_Mod_raise f_Box_requireOn f_State_value
  rcases in_cases p1 0 4 with ⟨a1, a2, a3, a4⟩ | ⟨a1, a2⟩
  · simp only [a1, a2, cxv_e, ca_e, k10, if_false]
    simp only [Int32.reduceToInt] at a3 a4
    by_cases o : on = 0
    · simp only [o, if_true, cxv_x, bd_e] at err2 ⊢
      exact ⟨_, _, _, rfl, err2, Or.inr ⟨_, 2, rfl, rfl, Or.inr ⟨rfl, rfl⟩⟩⟩
    · simp only [o, if_false, cxv_e, bd_e]
      by_cases c : (3 : Int32) ≤ p1
      · by_cases c2 : p1 = 3
        · subst c2
          have c3 : ¬ (3 : Int32) = 4 := by decide
          simp only [c, c3, if_true, if_false, ca_e]
          exact ⟨cr, _, _, rfl, ok, Or.inl ⟨rfl, rfl⟩⟩
        · have c3 : p1 = 4 := (by simp only [Int32.lt_iff_toInt_lt, Int32.le_iff_toInt_le, ← Int32.toInt_inj, Int32.reduceToInt] at *; omega)
          simp only [c3, if_true, ca_e]
          rw [if_pos (by decide), if_pos (by decide), if_neg (by decide), ca_e]
          exact ⟨hg, _, _, rfl, ok, Or.inl ⟨rfl, rfl⟩⟩
      · have c5 : p1.toInt < 3 := (by simp only [Int32.lt_iff_toInt_lt, Int32.le_iff_toInt_le, ← Int32.toInt_inj, Int32.reduceToInt] at *; omega)
        obtain ⟨y, hy, rfl⟩ := int_of (p := p1) (k := 3) (by omega) (by omega)
        have g (β : Type) (k : Option β) : gi (nI y) 3 k = k := gi_n hy (by decide)
        have cl : (nI y).toNatClampNeg = y := cl_n (by omega)
        simp only [c, if_false, g, cl, ca_e]
        exact ⟨rg y, _, _, rfl, ok, Or.inl ⟨rfl, rfl⟩⟩
  · simp only [a1, a2, cxv_x, ca_e, if_true, bd_e]
    exact ⟨_, _, _, rfl, err, Or.inr ⟨_, 1, rfl, rfl, Or.inl ⟨rfl, rfl⟩⟩⟩
