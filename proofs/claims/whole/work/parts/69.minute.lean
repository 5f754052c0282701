/-! a minute passes -/
theorem tail (th : Int32) (on : Int32) (tm : Int32) (cr : UInt64) (rg : (Nat → UInt64)) (hg : UInt64) (la : Int32) (op : Int32) (em : Int32) (pr : (Nat → UInt64)) (mi : (Nat → Int32)) (ta : (Nat → Int32)) (ev : (Nat → Int32)) (wo : (Nat → Int64)) (we : (Nat → Int32)) (pl : Int32) (cu : Int32) (tb : Int32) (be : Int32) (es : Int32) (mb : (Nat → Int32)) (mc : Int32) (mr : (Nat → Int32)) (rc : Int32) (dr : Nat → Int64) (bb pa an : Nat → Int32) (le : Int32) {z : Nat} (x : Int32) {K N A : Int} (h : SI K N A on la op em pl cu cr hg rg pr ta wo z) (hK : K ≤ 16777216) (hN : 0 ≤ N) (hN2 : N < 2 ^ 30) (hA0 : 0 ≤ A) (hA : A ≤ 1000000) :
    ∃ (on' pl' cu' tb' : Int32) (ev' : Nat → Int32) (wo' : Nat → Int64) (we' : Nat → Int32) (dr' : Nat → Int64) (z' : Nat),
      f_Box_passMinute_111 x (pr, (mi, ta), (rg, tm, cr, hg, la, op, em), (ev, nI z), (wo, we, dr, pl, cu), (bb, pa, an, le, rc, be, es), on) = some (pr, (mi, ta), (rg, tm, cr, hg, la, op, em), (ev', nI z'), (wo', we', dr', pl', cu'), (bb, pa, an, le, rc, be, es), on') ∧
      f_Mod_minute_150 x (th, on, tm, cr, rg, hg, la, op, em, pr, mi, ta, ev, nI z, wo, we, pl, cu, tb, be, es, mb, mc, mr, rc) = some (th, on', tm, cr, rg, hg, la, op, em, pr, mi, ta, ev', nI z', wo', we', pl', cu', tb', be, es, mb, mc, mr, rc) ∧
      SI K (N + 1) A on' la op em pl' cu' cr hg rg pr ta wo' z' := by
  obtain ⟨i1, i2, i3, i4, i5, i6, i7, i8, i9, i10, i11, i12, i13, i14, i15⟩ := h
  unfold f_Box_passMinute_111 f_Mod_minute_150
  by_cases c : x = 0
  · obtain ⟨W, E, D, pl', cu', on', t, rc', rm, e1, e2, j1, j2, j3, j4⟩ := keep th on tm cr rg hg la op em pr mi ta ev (nI z) wo we pl cu tb be es mb mc mr rc dr bb pa an le i4 i5 i6 i8 i9 i10.1.nn hN hN2 (Bf_1 hA0) i14 (k4_bd i10 hK i13 hA)
    simp only [c, if_true, e1, e2, ca_e]
    have hon : on' = 0 ∨ on' = 1 := by
      rcases j4 with ⟨_, _, r⟩ | ⟨_, _, r⟩ | ⟨_, _, r, _⟩
      · rw [r]; exact i1
      · exact Or.inl r
      · rw [r]; exact i1
    rcases j4 with ⟨r1, r2, r3⟩ | ⟨r1, r2, r3⟩ | ⟨r1, r2, r3, r4⟩
    · subst r1 r2
      simp only [if_true, ev_box (hz := i15), ev_mod (hz := i15), cv_e]
      exact ⟨on', pl', cu', 1, _, W, E, D, _, rfl, rfl, hon, i2, i3, j1, j2, i6, i7, i8, i9, i10, i11, i12, i13, j3, evn_le i15⟩
    · subst r1 r2
      simp only [km00, k21, if_false]
      exact ⟨on', pl', cu', 2, ev, W, E, D, z, rfl, rfl, hon, i2, i3, j1, j2, i6, i7, i8, i9, i10, i11, i12, i13, j3, i15⟩
    · have q : ¬ rc' = 0 := by
        intro e
        rw [e] at r4
        exact absurd r4 (by decide)
      subst r2
      simp only [q, k01, if_false]
      exact ⟨on', pl', cu', 0, ev, W, E, D, z, rfl, rfl, hon, i2, i3, j1, j2, i6, i7, i8, i9, i10, i11, i12, i13, j3, i15⟩
  · simp only [c, if_false]
    exact ⟨on, pl, cu, tb, ev, wo, we, dr, z, rfl, rfl, i1, i2, i3, i4, i5, i6, i7, i8, i9, i10, i11, i12, i13, WI_mono i14 (by omega) (by omega), i15⟩
theorem r3 {r : Int32} (h : 0 ≤ r.toInt ∧ r.toInt ≤ 2) : ∃ j : Nat, j < 3 ∧ r = nI j := ⟨r.toInt.toNat, by omega, pos_n h.1⟩
theorem vfs {f : Nat → UInt64} {k : Nat} {x : UInt64} : vf_upd f k x k = x := by unfold vf_upd; rw [if_pos rfl]
theorem vfn {f : Nat → UInt64} {k j : Nat} {x : UInt64} (h : j ≠ k) : vf_upd f k x j = f j := by unfold vf_upd; rw [if_neg h]
theorem e_RB {p : UInt64} (h : (FP.ddiv p 4678479150791524352).toNat % 2 ^ 63 < 1026 * 2 ^ 52) : RB 8 (FP.ddiv p 4678479150791524352) := by
  have h3 := mag_RB (j := 3) h (by decide)
  have e : ((2 ^ 3 : Nat) : Int) = 8 := by decide
  rw [e] at h3
  exact h3
/-- the middle: from the power p on -/
theorem mid (th : Int32) (on : Int32) (tm : Int32) (cr : UInt64) (rg : (Nat → UInt64)) (hg : UInt64) (la : Int32) (op : Int32) (em : Int32) (pr : (Nat → UInt64)) (mi : (Nat → Int32)) (ta : (Nat → Int32)) (ev : (Nat → Int32)) (wo : (Nat → Int64)) (we : (Nat → Int32)) (pl : Int32) (cu : Int32) (tb : Int32) (be : Int32) (es : Int32) (mb : (Nat → Int32)) (mc : Int32) (mr : (Nat → Int32)) (rc : Int32) (dr : Nat → Int64) (bb pa an : Nat → Int32) (le : Int32) {z : Nat} (p : UInt64) (hp : NN p) (hp2 : (FP.ddiv p 4678479150791524352).toNat % 2 ^ 63 < 1026 * 2 ^ 52) (r : Int32) (hr : 0 ≤ r.toInt ∧ r.toInt ≤ 2)
    (ht : ∀ hg', f_Mod_tariff (th, on, tm, cr, rg, hg', la, op, em, pr, mi, ta, ev, nI z, wo, we, pl, cu, tb, be, es, mb, mc, mr, rc) = some (r, (th, on, tm, cr, rg, hg', la, op, em, pr, mi, ta, ev, nI z, wo, we, pl, cu, tb, be, es, mb, mc, mr, rc))) {K N A : Int} (h : SI K N A on la op em pl cu cr hg rg pr ta wo z)
    (hK0 : 0 ≤ K) (hK : K + 8 ≤ 16777216) (hN : 0 ≤ N) (hN2 : N < 2 ^ 30) (hA0 : 0 ≤ A) (hA : A ≤ 1000000) :
    ∃ (on' op' pl' cu' tb' : Int32) (cr' hg' : UInt64) (rg' : Nat → UInt64) (ev' : Nat → Int32) (wo' : Nat → Int64) (we' : Nat → Int32) (dr' : Nat → Int64) (z' : Nat),
      f_Box_passMinute_37 r p (pr, (mi, ta), (rg, tm, cr, hg, la, op, em), (ev, nI z), (wo, we, dr, pl, cu), (bb, pa, an, le, rc, be, es), on) = some (pr, (mi, ta), (rg', tm + 1, cr', hg', la, op', em), (ev', nI z'), (wo', we', dr', pl', cu'), (bb, pa, an, le, rc, be, es), on') ∧
      (if Op.cmpValue (FP.dcmp p hg) .l ≤ 0 then f_Mod_minute_32 p (th, on, tm, cr, rg, hg, la, op, em, pr, mi, ta, ev, nI z, wo, we, pl, cu, tb, be, es, mb, mc, mr, rc) else f_Mod_minute_32 p (th, on, tm, cr, rg, p, la, op, em, pr, mi, ta, ev, nI z, wo, we, pl, cu, tb, be, es, mb, mc, mr, rc)) = some (th, on', tm + 1, cr', rg', hg', la, op', em, pr, mi, ta, ev', nI z', wo', we', pl', cu', tb', be, es, mb, mc, mr, rc) ∧
      SI (K + 8) (N + 1) A on' la op' em pl' cu' cr' hg' rg' pr ta wo' z' := by
  obtain ⟨i1, i2, i3, i4, i5, i6, i7, i8, i9, i10, i11, i12, i13, i14, i15⟩ := h
  obtain ⟨j, hj, rfl⟩ := r3 hr
  have he := e_RB hp2
  generalize hee : FP.ddiv p 4678479150791524352 = e at *
  have g3 (β : Type) (k : Option β) : gi (nI j) 3 k = k := gi_n hj (by decide)
  have cl : (nI j).toNatClampNeg = j := cl_n (by omega)
  have hrj : NN (rg j) := by
    have : j = 0 ∨ j = 1 ∨ j = 2 := by omega
    rcases this with rfl | rfl | rfl
    · exact i8
    · exact i9
    · exact i10.1.nn
  have n1 : NN e := he.1.nn
  have n2 : NN (FP.dadd (rg j) e) := NN_add hrj he.1
  have f3 : FN (FP.dmul e (pr j)) := by
    have := FP.Core.dmul_mag (a := e) (b := pr j) hp2 (i11 j hj) (by decide) (by decide)
    exact FN_mag this (by decide)
  have n4 : NN (FP.dsub cr (FP.dmul e (pr j))) := NN_sub i6 f3
  have hrg0 : NN (vf_upd rg j (FP.dadd (rg j) e) 0) := by
    by_cases q : 0 = j
    · subst q; rw [vfs]; exact n2
    · rw [vfn q]; exact i8
  have hrg1 : NN (vf_upd rg j (FP.dadd (rg j) e) 1) := by
    by_cases q : 1 = j
    · subst q; rw [vfs]; exact n2
    · rw [vfn q]; exact i9
  have hrg2 : RB (K + 8) (vf_upd rg j (FP.dadd (rg j) e) 2) := by
    by_cases q : 2 = j
    · subst q; rw [vfs]; exact RB_add i10 he (by omega) (by omega)
    · rw [vfn q]; exact RB_mono i10 (by omega)
  -- behind the consumption
  have rest : ∀ hg', NN hg' → ∃ (on' op' pl' cu' tb' : Int32) (ev' : Nat → Int32) (wo' : Nat → Int64) (we' : Nat → Int32) (dr' : Nat → Int64) (z' : Nat),
      (if op = 0 then ca (f_State_isCreditSpent (vf_upd rg j (FP.dadd (rg j) e), tm + 1, FP.dsub cr (FP.dmul e (pr j)), hg', la, op, em)) (fun r11 w12 => (if r11 = 0 then f_Box_passMinute_111 ((tm + 1) - (tm + 1) / 1440 * 1440) (pr, (mi, ta), w12, (ev, nI z), (wo, we, dr, pl, cu), (bb, pa, an, le, rc, be, es), on) else (if (tm + 1) - (tm + 1) / 1440 * 1440 < (360 : Int32) then f_Box_passMinute_111 ((tm + 1) - (tm + 1) / 1440 * 1440) (pr, (mi, ta), w12, (ev, nI z), (wo, we, dr, pl, cu), (bb, pa, an, le, rc, be, es), on) else (if (1079 : Int32) < (tm + 1) - (tm + 1) / 1440 * 1440 then f_Box_passMinute_111 ((tm + 1) - (tm + 1) / 1440 * 1440) (pr, (mi, ta), w12, (ev, nI z), (wo, we, dr, pl, cu), (bb, pa, an, le, rc, be, es), on) else cv (f_Box_note (1 : Int32) (pr, (mi, ta), (w12.1, w12.2.1, w12.2.2.1, w12.2.2.2.1, w12.2.2.2.2.1, (1 : Int32), w12.2.2.2.2.2.2), (ev, nI z), (wo, we, dr, pl, cu), (bb, pa, an, le, rc, be, es), on)) (fun w16 => f_Box_passMinute_111 ((tm + 1) - (tm + 1) / 1440 * 1440) w16))))) else f_Box_passMinute_111 ((tm + 1) - (tm + 1) / 1440 * 1440) (pr, (mi, ta), (vf_upd rg j (FP.dadd (rg j) e), tm + 1, FP.dsub cr (FP.dmul e (pr j)), hg', la, op, em), (ev, nI z), (wo, we, dr, pl, cu), (bb, pa, an, le, rc, be, es), on)) = some (pr, (mi, ta), (vf_upd rg j (FP.dadd (rg j) e), tm + 1, FP.dsub cr (FP.dmul e (pr j)), hg', la, op', em), (ev', nI z'), (wo', we', dr', pl', cu'), (bb, pa, an, le, rc, be, es), on') ∧
      (if em = 0 then f_Mod_minute_115 ((tm + 1) - (tm + 1) / 1440 * 1440) (FP.dsub cr (FP.dmul e (pr j))) FP.dconst0 (th, on, tm + 1, FP.dsub cr (FP.dmul e (pr j)), vf_upd rg j (FP.dadd (rg j) e), hg', la, op, em, pr, mi, ta, ev, nI z, wo, we, pl, cu, tb, be, es, mb, mc, mr, rc) else f_Mod_minute_115 ((tm + 1) - (tm + 1) / 1440 * 1440) (FP.dsub cr (FP.dmul e (pr j))) 13835058055282163712 (th, on, tm + 1, FP.dsub cr (FP.dmul e (pr j)), vf_upd rg j (FP.dadd (rg j) e), hg', la, op, em, pr, mi, ta, ev, nI z, wo, we, pl, cu, tb, be, es, mb, mc, mr, rc)) = some (th, on', tm + 1, FP.dsub cr (FP.dmul e (pr j)), vf_upd rg j (FP.dadd (rg j) e), hg', la, op', em, pr, mi, ta, ev', nI z', wo', we', pl', cu', tb', be, es, mb, mc, mr, rc) ∧
      SI (K + 8) (N + 1) A on' la op' em pl' cu' (FP.dsub cr (FP.dmul e (pr j))) hg' (vf_upd rg j (FP.dadd (rg j) e)) pr ta wo' z' := by
    intro hg' hn'
    generalize FP.dsub cr (FP.dmul e (pr j)) = cr' at *
    generalize vf_upd rg j (FP.dadd (rg j) e) = rg' at *
    generalize (tm + 1) - (tm + 1) / 1440 * 1440 = x9
    generalize tm + 1 = tm'
    have hs : SI (K + 8) N A on la op em pl cu cr' hg' rg' pr ta wo z := ⟨i1, i2, i3, i4, i5, n4, hn', hrg0, hrg1, hrg2, i11, i12, i13, i14, i15⟩
    obtain ⟨o1, o2, o3, o4, o5, o6, o7, o8, o9, t1, t2, t3⟩ := tail th on tm' cr' rg' hg' la op em pr mi ta ev wo we pl cu tb be es mb mc mr rc dr bb pa an le x9 hs hK hN hN2 hA0 hA
    by_cases c0 : op = 0
    · subst c0
      have fin : ∀ lim : UInt64, ∃ (on' op' pl' cu' tb' : Int32) (ev' : Nat → Int32) (wo' : Nat → Int64) (we' : Nat → Int32) (dr' : Nat → Int64) (z' : Nat),
          ca (f_State_isCreditSpent_18 cr' lim (rg', tm', cr', hg', la, 0, em)) (fun r11 w12 => (if r11 = 0 then f_Box_passMinute_111 x9 (pr, (mi, ta), w12, (ev, nI z), (wo, we, dr, pl, cu), (bb, pa, an, le, rc, be, es), on) else (if x9 < (360 : Int32) then f_Box_passMinute_111 x9 (pr, (mi, ta), w12, (ev, nI z), (wo, we, dr, pl, cu), (bb, pa, an, le, rc, be, es), on) else (if (1079 : Int32) < x9 then f_Box_passMinute_111 x9 (pr, (mi, ta), w12, (ev, nI z), (wo, we, dr, pl, cu), (bb, pa, an, le, rc, be, es), on) else cv (f_Box_note (1 : Int32) (pr, (mi, ta), (w12.1, w12.2.1, w12.2.2.1, w12.2.2.2.1, w12.2.2.2.2.1, (1 : Int32), w12.2.2.2.2.2.2), (ev, nI z), (wo, we, dr, pl, cu), (bb, pa, an, le, rc, be, es), on)) (fun w16 => f_Box_passMinute_111 x9 w16))))) = some (pr, (mi, ta), (rg', tm', cr', hg', la, op', em), (ev', nI z'), (wo', we', dr', pl', cu'), (bb, pa, an, le, rc, be, es), on') ∧
          f_Mod_minute_115 x9 cr' lim (th, on, tm', cr', rg', hg', la, 0, em, pr, mi, ta, ev, nI z, wo, we, pl, cu, tb, be, es, mb, mc, mr, rc) = some (th, on', tm', cr', rg', hg', la, op', em, pr, mi, ta, ev', nI z', wo', we', pl', cu', tb', be, es, mb, mc, mr, rc) ∧
          SI (K + 8) (N + 1) A on' la op' em pl' cu' cr' hg' rg' pr ta wo' z' := by
        intro lim
        unfold f_State_isCreditSpent_18 f_Mod_minute_115
        simp only [bd_e, if_true]
        by_cases c1 : 0 ≤ Op.cmpValue (FP.dcmp cr' lim) .g
        · simp only [c1, if_true, ca_e]
          exact ⟨o1, 0, o2, o3, o4, o5, o6, o7, o8, o9, t1, t2, t3⟩
        · simp only [c1, if_false, ca_e, k10]
          unfold f_Mod_in
          by_cases c2 : x9 < 360
          · simp only [c2, if_true, ca_e]
            exact ⟨o1, 0, o2, o3, o4, o5, o6, o7, o8, o9, t1, t2, t3⟩
          · by_cases c3 : (1079 : Int32) < x9
            · simp only [c2, c3, if_true, if_false, ca_e]
              exact ⟨o1, 0, o2, o3, o4, o5, o6, o7, o8, o9, t1, t2, t3⟩
            · simp only [c2, c3, if_false, ca_e, k10, ev_box (hz := i15), ev_mod (hz := i15), cv_e]
              have hs2 : SI (K + 8) N A on la 1 em pl cu cr' hg' rg' pr ta wo (evn z) := ⟨i1, Or.inr rfl, i3, i4, i5, n4, hn', hrg0, hrg1, hrg2, i11, i12, i13, i14, evn_le i15⟩
              obtain ⟨o1, o2, o3, o4, o5, o6, o7, o8, o9, t1, t2, t3⟩ := tail th on tm' cr' rg' hg' la 1 em pr mi ta (evz 1 tm' ev z) wo we pl cu tb be es mb mc mr rc dr bb pa an le x9 hs2 hK hN hN2 hA0 hA
              exact ⟨o1, 1, o2, o3, o4, o5, o6, o7, o8, o9, t1, t2, t3⟩
      unfold f_State_isCreditSpent
      simp only [if_true]
      by_cases c4 : em = 0
      · simp only [c4, if_true] at fin ⊢
        exact fin FP.dconst0
      · simp only [c4, if_false]
        exact fin 13835058055282163712
    · unfold f_Mod_minute_115
      simp only [c0, if_false, bd_e, ite_self]
      exact ⟨o1, op, o2, o3, o4, o5, o6, o7, o8, o9, t1, t2, t3⟩
  have gA (β : Type) (k : Option β) : gn e k = k := gn_ok n1
  have gB (β : Type) (k : Option β) : gn (FP.dadd (rg j) e) k = k := gn_ok n2
  have gC (β : Type) (k : Option β) : gn (FP.dmul e (pr j)) k = k := gn_ok f3.nn
  have gD (β : Type) (k : Option β) : gn (FP.dsub cr (FP.dmul e (pr j))) k = k := gn_ok n4
  unfold f_Box_passMinute_37 f_State_consume f_State_consume_14 f_Mod_minute_32
  by_cases c : Op.cmpValue (FP.dcmp p hg) .l ≤ 0
  · obtain ⟨o1, oo, o2, o3, o4, o5, o6, o7, o8, o9, t1, t2, t3⟩ := rest hg i7
    refine ⟨o1, oo, o2, o3, o4, _, hg, _, o5, o6, o7, o8, o9, ?_, ?_, t3⟩
    · simp only [bd_e, c, if_true, hee, gA, gB, gC, gD, g3, cl, cv_e]
      exact t1
    · simp only [bd_e, c, if_true, hee, gA, gB, gC, gD, g3, cl, cv_e, ht hg, ca_e]
      exact t2
  · obtain ⟨o1, oo, o2, o3, o4, o5, o6, o7, o8, o9, t1, t2, t3⟩ := rest p hp
    refine ⟨o1, oo, o2, o3, o4, _, p, _, o5, o6, o7, o8, o9, ?_, ?_, t3⟩
    · simp only [bd_e, c, if_false, hee, gA, gB, gC, gD, g3, cl, cv_e]
      exact t1
    · simp only [bd_e, c, if_false, hee, gA, gB, gC, gD, g3, cl, cv_e, ht p, ca_e]
      exact t2
