/-! power: loading -/
def z3 (f : Nat → UInt64) (a b c : UInt64) : Nat → UInt64 := vf_upd (vf_upd (vf_upd f 0 a) 1 b) 2 c
theorem z3_z3 (f : Nat → UInt64) (a b c a' b' c' : UInt64) : z3 (z3 f a b c) a' b' c' = z3 f a' b' c' := by
  funext j
  unfold z3 vf_upd
  split
  · rfl
  split
  · rfl
  split
  · rfl
  rfl
theorem n30 : ¬ (3 : Int32) ≤ 0 := by decide
theorem n31 : ¬ (3 : Int32) ≤ 1 := by decide
theorem n32 : ¬ (3 : Int32) ≤ 2 := by decide
theorem n33 : (3 : Int32) ≤ 3 := by decide
theorem a01 : (0 : Int32) + 1 = 1 := by decide
theorem a11 : (1 : Int32) + 1 = 2 := by decide
theorem a21 : (2 : Int32) + 1 = 3 := by decide
theorem bg (rg : Nat → UInt64) (tm la op em : Int32) (cr hg : UInt64) : f_State_begin (rg, tm, cr, hg, la, op, em) = some (z3 rg FP.dconst0 FP.dconst0 FP.dconst0, 0, 4617315517961601024, FP.dconst0, 0, 0, 0) := by
  unfold f_State_begin
  rw [show (64 : Nat) = 60 + 1 + 1 + 1 + 1 from rfl, f_State_begin_2, if_neg n30]
  simp only [bd_e, a01, g03, cl0]
  rw [f_State_begin_2, if_neg n31]
  simp only [bd_e, a11, g13, cl1]
  rw [f_State_begin_2, if_neg n32]
  simp only [bd_e, a21, g23, cl2]
  rw [f_State_begin_2, if_pos n33, z3]
theorem bg_mod (th : Int32) (on : Int32) (tm : Int32) (cr : UInt64) (rg : (Nat → UInt64)) (hg : UInt64) (la : Int32) (op : Int32) (em : Int32) (pr : (Nat → UInt64)) (mi : (Nat → Int32)) (ta : (Nat → Int32)) (ev : (Nat → Int32)) (ec : Int32) (wo : (Nat → Int64)) (we : (Nat → Int32)) (pl : Int32) (cu : Int32) (tb : Int32) (be : Int32) (es : Int32) (mb : (Nat → Int32)) (mc : Int32) (mr : (Nat → Int32)) (rc : Int32) : f_Mod_load (th, on, tm, cr, rg, hg, la, op, em, pr, mi, ta, ev, ec, wo, we, pl, cu, tb, be, es, mb, mc, mr, rc) = f_Mod_load_14 61 3 (th, on, 0, 4617315517961601024, z3 rg FP.dconst0 FP.dconst0 FP.dconst0, hg, la, op, em, pr, mi, ta, ev, ec, wo, we, pl, cu, tb, be, es, mb, mc, mr, rc) := by
  unfold f_Mod_load
  rw [show (64 : Nat) = 61 + 1 + 1 + 1 from rfl, f_Mod_load_14, if_neg n30]
  simp only [bd_e, a01, g03, cl0]
  rw [f_Mod_load_14, if_neg n31]
  simp only [bd_e, a11, g13, cl1]
  rw [f_Mod_load_14, if_neg n32]
  simp only [bd_e, a21, g23, cl2]
  rw [z3]
theorem ct_ok {s : Nat} (hs : s < 12) (w : Nat → Int64) (we : Nat → Int32) (dr : Nat → Int64) (pl cu : Int32) : f_Flash_copyToDraft (nI s) (w, we, dr, pl, cu) = some (w, we, va_cpy w dr (6 * s) 0 6, pl, cu) := by
  unfold f_Flash_copyToDraft gc
  simp only [bd_e, m6', cl0, cl6, cl_n (n := 6 * s) (by omega)]
  rw [if_neg]
  have h1 : ¬ nI (6 * s) < 0 := nI_pos (by omega)
  rintro (h | h | h | h | h)
  · exact h1 h
  · exact absurd h (by decide)
  · exact absurd h (by decide)
  · omega
  · omega
theorem l2dk (x : Int64) : NN (FP.ddiv (FP.l2d x) 4652007308841189376) := NN_div (FN.nn (FP.Core.l2d_fin x)) fz_1000
theorem ldiv_bd {w : Int64} {A : Int} (h : -(Bf A) ≤ w.toInt ∧ w.toInt ≤ Bf A) (hA0 : 0 ≤ A) (hA : A ≤ 1000000) :
    (w / 1000000000).toInt32.toInt64 = w / 1000000000 ∧ (-(A + 138) ≤ (w / 1000000000).toInt32.toInt ∧ (w / 1000000000).toInt32.toInt ≤ A + 138) ∧ (w - w / 1000000000 * 1000000000).toInt.natAbs ≤ 2 ^ 30 := by
  unfold Bf at h
  have e9 : (1000000000 : Int64).toInt = 1000000000 := by decide
  have e1 : (w / 1000000000).toInt = w.toInt.tdiv 1000000000 := by
    rw [Int64.toInt_div_of_ne_right _ _ (by decide), e9]
  have e2 := Int.mul_tdiv_add_tmod w.toInt 1000000000
  have e3 := Int.natAbs_tmod w.toInt 1000000000
  have e4 : w.toInt.natAbs % (1000000000 : Int).natAbs < 1000000000 := Nat.mod_lt _ (by decide)
  rw [← e3] at e4
  rw [← e1] at e2
  generalize hq : w / 1000000000 = q at *
  have b1 : -2 ^ 31 ≤ q.toInt := by omega
  have b2 : q.toInt < 2 ^ 31 := by omega
  refine ⟨lg_i2l_l2i b1 b2, ?_, ?_⟩
  · rw [FP.Core.int64_toInt32 (by omega) (by omega)]
    omega
  · have e5 : (q * 1000000000).toInt = q.toInt * 1000000000 := by
      rw [FP.Core.int64_mul, e9]
      · rw [e9]; omega
      · rw [e9]; omega
    rw [FP.Core.int64_sub, e5]
    · omega
    · rw [e5]; omega
    · rw [e5]; omega
theorem load (th : Int32) (on : Int32) (tm : Int32) (cr : UInt64) (rg : (Nat → UInt64)) (hg : UInt64) (la : Int32) (op : Int32) (em : Int32) (pr : (Nat → UInt64)) (mi : (Nat → Int32)) (ta : (Nat → Int32)) (ev : (Nat → Int32)) (ec : Int32) (wo : (Nat → Int64)) (we : (Nat → Int32)) (pl : Int32) (cu : Int32) (tb : Int32) (be : Int32) (es : Int32) (mb : (Nat → Int32)) (mc : Int32) (mr : (Nat → Int32)) (rc : Int32) (dr : Nat → Int64) (bb pa an : Nat → Int32) (le : Int32) {K N A : Int} {z : Nat} (h : SI K N A on la op em pl cu cr hg rg pr ta wo z) (hA0 : 16383 ≤ A) (hA : A ≤ 1000000) :
    ∃ (tm' la' op' em' pl' : Int32) (cr' : UInt64) (rg' : Nat → UInt64) (dr' : Nat → Int64),
      f_Box_load (pr, (mi, ta), (rg, tm, cr, hg, la, op, em), (ev, ec), (wo, we, dr, pl, cu), (bb, pa, an, le, rc, be, es), on) = some (pr, (mi, ta), (rg', tm', cr', FP.dconst0, la', op', em'), (ev, ec), (wo, we, dr', pl', cu), (bb, pa, an, le, rc, be, es), on) ∧
      f_Mod_load (th, on, tm, cr, rg, hg, la, op, em, pr, mi, ta, ev, ec, wo, we, pl, cu, tb, be, es, mb, mc, mr, rc) = some (th, on, tm', cr', rg', FP.dconst0, la', op', em', pr, mi, ta, ev, ec, wo, we, pl', cu, tb, be, es, mb, mc, mr, rc) ∧
      SI 8388608 N (A + 200) on la' op' em' pl' cu cr' FP.dconst0 rg' pr ta wo z := by
  obtain ⟨i1, i2, i3, i4, i5, i6, i7, i8, i9, i10, i11, i12, i13, i14, i15⟩ := h
  obtain ⟨r, hr, e1, e2⟩ := nw wo we dr pl cu (th, on, 0, 4617315517961601024, z3 rg FP.dconst0 FP.dconst0 FP.dconst0, FP.dconst0, 0, 0, 0, pr, mi, ta, ev, ec, wo, we, pl, cu, tb, be, es, mb, mc, mr, rc) rfl
  have n0 : NN FP.dconst0 := by decide +kernel
  have wi : WI N (Bf (A + 200)) wo := WI_mono i14 (by omega) (Bf_mono (by omega))
  rw [bg_mod]
  unfold f_Box_load
  rw [show (61 : Nat) = 60 + 1 from rfl, f_Mod_load_14, if_pos n33]
  simp only [e1, e2, ca_e]
  rcases hr with rfl | ⟨s, hs, rfl, _⟩
  · simp only [if_true, bg, cv_e, km1, if_false]
    refine ⟨0, 0, 0, 0, -1, 4617315517961601024, z3 rg FP.dconst0 FP.dconst0 FP.dconst0, dr, rfl, rfl, i1, Or.inl rfl, Or.inl rfl, Or.inl rfl, i5, by decide +kernel, n0, ?_, ?_, ?_, i11, i12, ⟨?_, ?_⟩, wi, i15⟩
    · exact n0
    · exact n0
    · have m : FP.dconst0.toNat % 2 ^ 63 < (1023 + 0) * 2 ^ 52 := by decide +kernel
      exact RB_mono (mag_RB (j := 0) m (by decide)) (by decide)
    · have : (0 : Int32).toInt = 0 := by decide
      omega
    · have : (0 : Int32).toInt = 0 := by decide
      omega
  · have d (k : Nat) (hk : k < 6) : va_cpy wo dr (6 * s) 0 6 k = wo (6 * s + k) := by
      rw [pk_cpy_in (by omega) (by omega)]
      congr 1
    have d1 := d 1 (by decide)
    have d2 := d 2 (by decide)
    have d3 := d 3 (by decide)
    have d4 := d 4 (by decide)
    have g (k : Nat) (hk : k < 6) (β : Type) (q : Option β) : gi (nI (6 * s + k)) 72 q = q := gi_n (by omega) (by decide)
    have ga := g 1 (by decide)
    have gb' := g 2 (by decide)
    have gc' := g 3 (by decide)
    have gd' := g 4 (by decide)
    have c (k : Nat) (hk : k < 6) : (nI (6 * s + k)).toNatClampNeg = 6 * s + k := cl_n (by omega)
    have c1 := c 1 (by decide)
    have c2 := c 2 (by decide)
    have c3 := c 3 (by decide)
    have c4 := c 4 (by decide)
    have gk (x : Int64) (β : Type) (q : Option β) : gn (FP.ddiv (FP.l2d x) 4652007308841189376) q = q := gn_ok (l2dk x)
    obtain ⟨w1, w2, w3⟩ := ldiv_bd (w := wo (6 * s + 4)) (i14 s hs).2 (by omega) hA
    have hrb := ld_bd w3
    simp only [nI_nm1 (j := s) (by omega), if_false, ct_ok hs, cv_e, nI_pos' (n := s) (by omega), if_true, m6, nI_1, nI_4, bd_e, ga, gd', c1, c4, gk]
    unfold f_State_unpackFrom f_State_unpackFrom_112 f_State_unpackFrom_131 f_Mod_load_146 f_Mod_load_166
    simp only [bd_e, g16, g26, g36, g46, g03, g13, g23, cl0, cl1, cl2, cl3, cl4, d1, d2, d3, d4, gk, gb_0, gb_1, m6, nI_2, nI_3, gb', gc', c2, c3, w1]
    have fin : ∀ op' em' : Int32, (op' = 0 ∨ op' = 1) → (em' = 0 ∨ em' = 1) → ∀ cr' x y, NN cr' → NN x → NN y → SI 8388608 N (A + 200) on (wo (6 * s + 4) / 1000000000).toInt32 op' em' (nI s) cu cr' FP.dconst0 (z3 rg x y (FP.ddiv (FP.l2d (wo (6 * s + 4) - wo (6 * s + 4) / 1000000000 * 1000000000)) 4652007308841189376)) pr ta wo z := by
      intro op' em' ho he cr' x y hc hx hy
      refine ⟨i1, ho, he, Or.inr ⟨s, hs, rfl⟩, i5, hc, n0, hx, hy, hrb, i11, i12, ⟨by omega, by omega⟩, wi, i15⟩
    by_cases q1 : lg_cmp ((wo (6 * s + 1) + 500000000000) / 1000000000000 &&& 1) 0 = 0 <;> by_cases q2 : lg_cmp ((wo (6 * s + 1) + 500000000000) / 1000000000000 &&& 2) 0 = 0 <;> simp only [q1, q2, if_true, if_false, cv_e] <;>
      exact ⟨_, _, _, _, _, _, z3 rg _ _ _, _, rfl, congrArg some (congrArg (fun G => (th, on, _, _, G, FP.dconst0, _, _, _, pr, mi, ta, ev, ec, wo, we, _, cu, tb, be, es, mb, mc, mr, rc)) (z3_z3 rg _ _ _ _ _ _)), fin _ _ (by decide) (by decide) _ _ _ (l2dk _) (l2dk _) (l2dk _)⟩
