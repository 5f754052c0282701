/-! what holds between the calls, and what a call must do -/
def LI (be es le mc rc : Int32) (bb mb an mr : Nat → Int32) : Prop :=
  (be = 0 ∨ be = 1) ∧ (es = 0 ∨ es = 1) ∧ (be = 0 → mc = 0 ∧ es = 0) ∧ (be = 1 → ∃ c : Nat, c ≤ 13 ∧ mc = nI c ∧ le = nI c ∧ ∀ j, j < c → j < 12 → bb j = mb j ∧ 0 ≤ (mb j).toInt ∧ (mb j).toInt ≤ 255) ∧
  ∃ q : Nat, q ≤ 24 ∧ rc = nI q ∧ ∀ j, j < q → an j = mr j
def Inv (n : Nat) (b : S_Box) (m : S_Mod) : Prop := ∃ (th : Int32) (on : Int32) (tm : Int32) (cr : UInt64) (rg : (Nat → UInt64)) (hg : UInt64) (la : Int32) (op : Int32) (em : Int32) (pr : (Nat → UInt64)) (mi : (Nat → Int32)) (ta : (Nat → Int32)) (ev : (Nat → Int32)) (wo : (Nat → Int64)) (we : (Nat → Int32)) (pl : Int32) (cu : Int32) (tb : Int32) (be : Int32) (es : Int32) (mb : (Nat → Int32)) (mc : Int32) (mr : (Nat → Int32)) (rc : Int32) (dr : Nat → Int64) (bb pa an : Nat → Int32) (le : Int32) (z : Nat), b = (pr, (mi, ta), (rg, tm, cr, hg, la, op, em), (ev, nI z), (wo, we, dr, pl, cu), (bb, pa, an, le, rc, be, es), on) ∧ m = (th, on, tm, cr, rg, hg, la, op, em, pr, mi, ta, ev, nI z, wo, we, pl, cu, tb, be, es, mb, mc, mr, rc) ∧
  SI (8388608 + 2400 * n) (301 * n) (16384 + 200 * n) on la op em pl cu cr hg rg pr ta wo z ∧ LI be es le mc rc bb mb an mr
def Agree {ρ : Type} (n : Nat) (cd : String → Int32 → Prop) (c : Option (Except (String × S_Box) (ρ × S_Box))) (m : Option (ρ × S_Mod)) : Prop :=
  ∃ (r : ρ) (b : S_Box) (M : S_Mod), m = some (r, M) ∧ Inv n b M ∧ ((c = some (.ok (r, b)) ∧ M.1 = 0) ∨ ∃ E k, c = some (.error (E, b)) ∧ M.1 = k ∧ cd E k)
theorem Bf_mono {A A' : Int} (h : A ≤ A') : Bf A ≤ Bf A' := by unfold Bf; omega
theorem SI_mono {K K' N N' A A' : Int} {on la op em pl cu : Int32} {cr hg : UInt64} {rg pr : Nat → UInt64} {ta : Nat → Int32} {wo : Nat → Int64} {z : Nat} (h : SI K N A on la op em pl cu cr hg rg pr ta wo z) (hK : K ≤ K') (hN : N ≤ N') (hA : A ≤ A') : SI K' N' A' on la op em pl cu cr hg rg pr ta wo z := by
  obtain ⟨i1, i2, i3, i4, i5, i6, i7, i8, i9, i10, i11, i12, i13, i14, i15⟩ := h
  exact ⟨i1, i2, i3, i4, i5, i6, i7, i8, i9, RB_mono i10 hK, i11, i12, ⟨by omega, by omega⟩, WI_mono i14 hN (Bf_mono hA), i15⟩
theorem SI_n {n : Nat} {on la op em pl cu : Int32} {cr hg : UInt64} {rg pr : Nat → UInt64} {ta : Nat → Int32} {wo : Nat → Int64} {z : Nat} (h : SI (8388608 + 2400 * n) (301 * n) (16384 + 200 * n) on la op em pl cu cr hg rg pr ta wo z) :
    SI (8388608 + 2400 * (n + 1 : Nat)) (301 * (n + 1 : Nat)) (16384 + 200 * (n + 1 : Nat)) on la op em pl cu cr hg rg pr ta wo z := SI_mono h (by omega) (by omega) (by omega)
abbrev xIA : String := "java/lang/IllegalArgumentException"
abbrev xIS : String := "java/lang/IllegalStateException"
abbrev xAE : String := "java/lang/ArithmeticException"
abbrev xUO : String := "java/lang/UnsupportedOperationException"
abbrev xNE : String := "java/util/NoSuchElementException"
abbrev xIO : String := "java/lang/IndexOutOfBoundsException"
theorem in_cases (p lo hi : Int32) : (f_Box_requireWithin p lo hi () = some (.ok ()) ∧ f_Mod_in p lo hi () = some (1, ()) ∧ lo.toInt ≤ p.toInt ∧ p.toInt ≤ hi.toInt) ∨
    (f_Box_requireWithin p lo hi () = some (.error ("java/lang/IllegalArgumentException", ())) ∧ f_Mod_in p lo hi () = some (0, ())) := by
  unfold f_Box_requireWithin f_Mod_in f_Box_requireWithin_10
  by_cases c : p < lo
  · exact Or.inr ⟨by rw [if_pos c], by rw [if_pos c]⟩
  · by_cases c2 : p ≤ hi
    · have c3 : ¬ hi < p := (by simp only [Int32.lt_iff_toInt_lt, Int32.le_iff_toInt_le, ← Int32.toInt_inj, Int32.reduceToInt] at *; omega)
      exact Or.inl ⟨by rw [if_neg c, if_pos c2], by rw [if_neg c, if_neg c3], (by simp only [Int32.lt_iff_toInt_lt, Int32.le_iff_toInt_le, ← Int32.toInt_inj, Int32.reduceToInt] at *; omega), (by simp only [Int32.lt_iff_toInt_lt, Int32.le_iff_toInt_le, ← Int32.toInt_inj, Int32.reduceToInt] at *; omega)⟩
    · have c3 : hi < p := (by simp only [Int32.lt_iff_toInt_lt, Int32.le_iff_toInt_le, ← Int32.toInt_inj, Int32.reduceToInt] at *; omega)
      exact Or.inr ⟨by rw [if_neg c, if_neg c2], by rw [if_neg c, if_pos c3]⟩
theorem ut_ok {v M : UInt64} (h1 : ¬ Op.cmpValue (FP.dcmp v FP.dconst0) .l < 0) (h2 : Op.cmpValue (FP.dcmp v M) .g ≤ 0) : f_Box_requireUpTo v M () = some (.ok ()) := by
  unfold f_Box_requireUpTo
  simp only [bd_e, h1, h2, if_true, if_false]
theorem ut_n1 {v M : UInt64} (h1 : Op.cmpValue (FP.dcmp v FP.dconst0) .l < 0) : f_Box_requireUpTo v M () = some (.error ("java/lang/IllegalArgumentException", ())) := by
  unfold f_Box_requireUpTo f_Box_requireUpTo_12
  simp only [bd_e, h1, if_true]
theorem ut_n2 {v M : UInt64} (h1 : ¬ Op.cmpValue (FP.dcmp v FP.dconst0) .l < 0) (h2 : ¬ Op.cmpValue (FP.dcmp v M) .g ≤ 0) : f_Box_requireUpTo v M () = some (.error ("java/lang/IllegalArgumentException", ())) := by
  unfold f_Box_requireUpTo f_Box_requireUpTo_12
  simp only [bd_e, h1, h2, if_false]
theorem ng {x : Int32} (h : x ≤ 0) : ¬ 0 < x := (by simp only [Int32.lt_iff_toInt_lt, Int32.le_iff_toInt_le, ← Int32.toInt_inj, Int32.reduceToInt] at *; omega)
theorem gt' {x : Int32} (h : ¬ x ≤ 0) : 0 < x := (by simp only [Int32.lt_iff_toInt_lt, Int32.le_iff_toInt_le, ← Int32.toInt_inj, Int32.reduceToInt] at *; omega)
def cdU (E : String) (k : Int32) : Prop := (E = xIA ∧ k = 1) ∨ (E = xIS ∧ k = 2) ∨ (E = xAE ∧ k = 3)
theorem op_use (n : Nat) (hn : n < 512) (b : S_Box) (u : S_Mod) (h : Inv n b u) (x : Int32) (a : UInt64) (p : Int32) :
    Agree (n + 1) cdU (f_Box_use (FP.dmul (FP.i2d x) 4593671619917905920) a p b) (f_Mod_use (FP.dmul (FP.i2d x) 4593671619917905920) a p u) := by
  obtain ⟨th, on, tm, cr, rg, hg, la, op, em, pr, mi, ta, ev, wo, we, pl, cu, tb, be, es, mb, mc, mr, rc, dr, bb, pa, an, le, z, rfl, rfl, s, l⟩ := h
  have vt := fun q1 q2 => vt_up (x := x) ⟨q1, q2⟩
  generalize FP.dmul (FP.i2d x) 4593671619917905920 = v at *
  have err1 : Inv (n + 1) (pr, (mi, ta), (rg, tm, cr, hg, la, op, em), (ev, nI z), (wo, we, dr, pl, cu), (bb, pa, an, le, rc, be, es), on) (1, on, tm, cr, rg, hg, la, op, em, pr, mi, ta, ev, nI z, wo, we, pl, cu, tb, be, es, mb, mc, mr, rc) := ⟨1, on, tm, cr, rg, hg, la, op, em, pr, mi, ta, ev, wo, we, pl, cu, tb, be, es, mb, mc, mr, rc, dr, bb, pa, an, le, z, rfl, rfl, SI_n s, l⟩
  have err2 : Inv (n + 1) (pr, (mi, ta), (rg, tm, cr, hg, la, op, em), (ev, nI z), (wo, we, dr, pl, cu), (bb, pa, an, le, rc, be, es), on) (2, on, tm, cr, rg, hg, la, op, em, pr, mi, ta, ev, nI z, wo, we, pl, cu, tb, be, es, mb, mc, mr, rc) := ⟨2, on, tm, cr, rg, hg, la, op, em, pr, mi, ta, ev, wo, we, pl, cu, tb, be, es, mb, mc, mr, rc, dr, bb, pa, an, le, z, rfl, rfl, SI_n s, l⟩
  unfold f_Box_use f_Mod_use f_Mod_use_45 f_Mod_raise
  by_cases a1 : Op.cmpValue (FP.dcmp v FP.dconst0) .l < 0
  · simp only [ut_n1 a1, cxv_x, bd_e, a1, if_true, ca_e]
    exact ⟨0, _, _, rfl, err1, Or.inr ⟨_, 1, rfl, rfl, Or.inl ⟨rfl, rfl⟩⟩⟩
  by_cases a2 : Op.cmpValue (FP.dcmp v 4645744490609377280) .g ≤ 0
  · obtain ⟨hv, hv0⟩ := vt a1 a2
    simp only [ut_ok a1 a2, cxv_e, bd_e, a1, ng a2, if_false, ca_e]
    by_cases a3 : Op.cmpValue (FP.dcmp a FP.dconst0) .l < 0
    · simp only [ut_n1 a3, cxv_x, bd_e, a3, if_true, ca_e]
      exact ⟨0, _, _, rfl, err1, Or.inr ⟨_, 1, rfl, rfl, Or.inl ⟨rfl, rfl⟩⟩⟩
    by_cases a4 : Op.cmpValue (FP.dcmp a 4636737291354636288) .g ≤ 0
    · have ha := at_up ⟨a3, a4⟩
      simp only [ut_ok a3 a4, cxv_e, bd_e, a3, ng a4, if_false, ca_e]
      rcases in_cases p 1 300 with ⟨c1, c2, c3, c4⟩ | ⟨c1, c2⟩
      · simp only [c1, c2, cxv_e, ca_e, k10, if_false]
        have i1 : (1 : Int32).toInt = 1 := by decide
        have i300 : (300 : Int32).toInt = 300 := by decide
        rw [i1] at c3
        rw [i300] at c4
        unfold f_Box_requireOn
        rcases s.1 with o | o
        · simp only [o, if_true, cxv_x] at err2 ⊢
          exact ⟨0, _, _, rfl, err2, Or.inr ⟨_, 2, rfl, rfl, Or.inr (Or.inl ⟨rfl, rfl⟩)⟩⟩
        · simp only [o, k10, if_false, cxv_e] at s ⊢
          obtain ⟨M, hM, rfl⟩ : ∃ M : Nat, M ≤ 300 ∧ p = nI M := ⟨p.toInt.toNat, by omega, pos_n (by omega)⟩
          have fin : ∀ (ev : Nat → Int32) (z : Nat), SI (8388608 + 2400 * n) (301 * n) (16384 + 200 * n) 1 la op em pl cu cr hg rg pr ta wo z →
              Agree (n + 1) cdU (f_Box_use_46 400 v a (nI M) 0 0 (pr, (mi, ta), (rg, tm, cr, hg, la, op, em), (ev, nI z), (wo, we, dr, pl, cu), (bb, pa, an, le, rc, be, es), 1)) (f_Mod_use_83 400 v a (nI M) 0 0 (0, 1, tm, cr, rg, hg, la, op, em, pr, mi, ta, ev, nI z, wo, we, pl, cu, tb, be, es, mb, mc, mr, rc)) := by
            intro ev z s
            obtain ⟨on', op', pl', cu', tb', tm', cr', hg', rg', ev', wo', we', dr', z', ct', s', d⟩ := use_loop 0 la em rc be es le mc pr mi ta bb pa an mb mr v a hv ha hv0 (A := 16384 + 200 * n) (by omega) (by omega) M hM M 0 400 0 (8388608 + 2400 * n) (301 * n) 1 op pl cu tb tm cr hg rg ev wo we dr z (by omega) (by omega) (by omega) (by omega) (by omega) (by omega) rfl s
            rw [nI_0] at d
            have s2 : SI (8388608 + 2400 * (n + 1 : Nat)) (301 * (n + 1 : Nat)) (16384 + 200 * (n + 1 : Nat)) on' la op' em pl' cu' cr' hg' rg' pr ta wo' z' := SI_mono s' (by omega) (by omega) (by omega)
            rcases d with ⟨d1, d2⟩ | ⟨d1, d2⟩
            · exact ⟨ct', _, _, d2, ⟨0, on', tm', cr', rg', hg', la, op', em, pr, mi, ta, ev', wo', we', pl', cu', tb', be, es, mb, mc, mr, rc, dr', bb, pa, an, le, z', rfl, rfl, s2, l⟩, Or.inl ⟨d1, rfl⟩⟩
            · exact ⟨ct', _, _, d2, ⟨3, on', tm', cr', rg', hg', la, op', em, pr, mi, ta, ev', wo', we', pl', cu', tb', be, es, mb, mc, mr, rc, dr', bb, pa, an, le, z', rfl, rfl, s2, l⟩, Or.inr ⟨_, 3, d1, rfl, Or.inr (Or.inr ⟨rfl, rfl⟩)⟩⟩
          have hz : z ≤ 12 := s.2.2.2.2.2.2.2.2.2.2.2.2.2.2
          by_cases c5 : Op.cmpValue (FP.dcmp v 4643281584563159040) .l ≤ 0
          · simp only [c5, if_true]
            exact fin ev z s
          · simp only [c5, if_false, ev_box (hz := hz), ev_mod (hz := hz), cv_e]
            obtain ⟨i1, i2, i3, i4, i5, i6, i7, i8, i9, i10, i11, i12, i13, i14, i15⟩ := s
            exact fin _ _ ⟨i1, i2, i3, i4, i5, i6, i7, i8, i9, i10, i11, i12, i13, i14, evn_le i15⟩
      · simp only [c1, c2, cxv_x, ca_e, if_true]
        exact ⟨0, _, _, rfl, err1, Or.inr ⟨_, 1, rfl, rfl, Or.inl ⟨rfl, rfl⟩⟩⟩
    · simp only [ut_n2 a3 a4, cxv_x, bd_e, a3, gt' a4, if_true, if_false, ca_e]
      exact ⟨0, _, _, rfl, err1, Or.inr ⟨_, 1, rfl, rfl, Or.inl ⟨rfl, rfl⟩⟩⟩
  · simp only [ut_n2 a1 a2, cxv_x, bd_e, a1, gt' a2, if_true, if_false, ca_e]
    exact ⟨0, _, _, rfl, err1, Or.inr ⟨_, 1, rfl, rfl, Or.inl ⟨rfl, rfl⟩⟩⟩
