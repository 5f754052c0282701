/-! use -/
theorem minute (th : Int32) (on : Int32) (tm : Int32) (cr : UInt64) (rg : (Nat → UInt64)) (hg : UInt64) (la : Int32) (op : Int32) (em : Int32) (pr : (Nat → UInt64)) (mi : (Nat → Int32)) (ta : (Nat → Int32)) (ev : (Nat → Int32)) (wo : (Nat → Int64)) (we : (Nat → Int32)) (pl : Int32) (cu : Int32) (tb : Int32) (be : Int32) (es : Int32) (mb : (Nat → Int32)) (mc : Int32) (mr : (Nat → Int32)) (rc : Int32) (dr : Nat → Int64) (bb pa an : Nat → Int32) (le : Int32) {z : Nat} (v a : UInt64) (hv : v.toNat % 2 ^ 63 < 1032 * 2 ^ 52) (ha : a.toNat % 2 ^ 63 < 1030 * 2 ^ 52) (hv0 : FP.dmul v FP.dconst0 = FP.dconst0)
    {K N A : Int} (h : SI K N A on la op em pl cu cr hg rg pr ta wo z) (hK0 : 0 ≤ K) (hK : K + 8 ≤ 16777216) (hN : 0 ≤ N) (hN2 : N < 2 ^ 30) (hA0 : 0 ≤ A) (hA : A ≤ 1000000) :
    ∃ (on' op' pl' cu' tb' tm' : Int32) (cr' hg' : UInt64) (rg' : Nat → UInt64) (ev' : Nat → Int32) (wo' : Nat → Int64) (we' : Nat → Int32) (dr' : Nat → Int64) (z' : Nat),
      f_Box_passMinute v a (pr, (mi, ta), (rg, tm, cr, hg, la, op, em), (ev, nI z), (wo, we, dr, pl, cu), (bb, pa, an, le, rc, be, es), on) = some (pr, (mi, ta), (rg', tm', cr', hg', la, op', em), (ev', nI z'), (wo', we', dr', pl', cu'), (bb, pa, an, le, rc, be, es), on') ∧
      f_Mod_minute v a (th, on, tm, cr, rg, hg, la, op, em, pr, mi, ta, ev, nI z, wo, we, pl, cu, tb, be, es, mb, mc, mr, rc) = some (th, on', tm', cr', rg', hg', la, op', em, pr, mi, ta, ev', nI z', wo', we', pl', cu', tb', be, es, mb, mc, mr, rc) ∧
      SI (K + 8) (N + 1) A on' la op' em pl' cu' cr' hg' rg' pr ta wo' z' := by
  have hta := h.2.2.2.2.2.2.2.2.2.2.2.1
  obtain ⟨r, hr, e1, _⟩ := tf (th, on, tm, cr, rg, hg, la, op, em, pr, mi, ta, ev, nI z, wo, we, pl, cu, tb, be, es, mb, mc, mr, rc) tm mi ta rfl rfl rfl hta
  have ht : ∀ hg', f_Mod_tariff (th, on, tm, cr, rg, hg', la, op, em, pr, mi, ta, ev, nI z, wo, we, pl, cu, tb, be, es, mb, mc, mr, rc) = some (r, (th, on, tm, cr, rg, hg', la, op, em, pr, mi, ta, ev, nI z, wo, we, pl, cu, tb, be, es, mb, mc, mr, rc)) := by
    intro hg'
    obtain ⟨r', _, e2, e3⟩ := tf (th, on, tm, cr, rg, hg', la, op, em, pr, mi, ta, ev, nI z, wo, we, pl, cu, tb, be, es, mb, mc, mr, rc) tm mi ta rfl rfl rfl hta
    rw [e1] at e2
    obtain rfl : r = r' := congrArg Prod.fst (Option.some.inj e2)
    exact e3
  have main : ∀ p : UInt64, NN p → (FP.ddiv p 4678479150791524352).toNat % 2 ^ 63 < 1026 * 2 ^ 52 → _ := fun p h1 h2 => mid th on tm cr rg hg la op em pr mi ta ev wo we pl cu tb be es mb mc mr rc dr bb pa an le p h1 h2 r hr ht h hK0 hK hN hN2 hA0 hA
  unfold f_Box_passMinute f_Mod_minute f_Mod_minute_13
  obtain ⟨f1, f2⟩ := fp_e hv ha
  by_cases c : op = 0
  · obtain ⟨o1, o2, o3, o4, o5, o6, o7, o8, o9, oa, ob, oc, od, q1, q2, q3⟩ := main (FP.dmul v a) f1.nn f2
    refine ⟨o1, o2, o3, o4, o5, tm + 1, o6, o7, o8, o9, oa, ob, oc, od, ?_, ?_, q3⟩
    · simp only [e1, ca_e, c, if_true, gn_ok f1.nn, bd_e] at q1 ⊢
      exact q1
    · simp only [c, if_true, gn_ok f1.nn, bd_e] at q2 ⊢
      exact q2
  · have n0 : NN FP.dconst0 := by decide +kernel
    obtain ⟨o1, o2, o3, o4, o5, o6, o7, o8, o9, oa, ob, oc, od, q1, q2, q3⟩ := main FP.dconst0 n0 (by decide +kernel)
    refine ⟨o1, o2, o3, o4, o5, tm + 1, o6, o7, o8, o9, oa, ob, oc, od, ?_, ?_, q3⟩
    · simp only [e1, ca_e, c, if_false]
      exact q1
    · simp only [c, if_false, hv0, gn_ok n0, bd_e]
      exact q2
theorem use_loop (th la em rc be es le mc : Int32) (pr : Nat → UInt64) (mi ta bb pa an mb mr : Nat → Int32) (v a : UInt64) (hv : v.toNat % 2 ^ 63 < 1032 * 2 ^ 52) (ha : a.toNat % 2 ^ 63 < 1030 * 2 ^ 52) (hv0 : FP.dmul v FP.dconst0 = FP.dconst0)
    {A : Int} (hA0 : 0 ≤ A) (hA : A ≤ 1000000) (M : Nat) (hM : M ≤ 300) :
    ∀ (d i n : Nat) (ct : Int32) (K N : Int) (on op pl cu tb tm : Int32) (cr hg : UInt64) (rg : Nat → UInt64) (ev : Nat → Int32) (wo : Nat → Int64) (we : Nat → Int32) (dr : Nat → Int64) (z : Nat),
      d + i = M → d < n → 0 ≤ K → K + 8 * d ≤ 16777216 → 0 ≤ N → N + d < 2 ^ 30 → on = 1 → SI K N A on la op em pl cu cr hg rg pr ta wo z →
      ∃ (on' op' pl' cu' tb' tm' : Int32) (cr' hg' : UInt64) (rg' : Nat → UInt64) (ev' : Nat → Int32) (wo' : Nat → Int64) (we' : Nat → Int32) (dr' : Nat → Int64) (z' : Nat) (ct' : Int32),
        SI (K + 8 * d) (N + d) A on' la op' em pl' cu' cr' hg' rg' pr ta wo' z' ∧
        ((f_Box_use_46 n v a (nI M) ct (nI i) (pr, (mi, ta), (rg, tm, cr, hg, la, op, em), (ev, nI z), (wo, we, dr, pl, cu), (bb, pa, an, le, rc, be, es), on) = some (.ok (ct', (pr, (mi, ta), (rg', tm', cr', hg', la, op', em), (ev', nI z'), (wo', we', dr', pl', cu'), (bb, pa, an, le, rc, be, es), on'))) ∧
          f_Mod_use_83 n v a (nI M) ct (nI i) (th, on, tm, cr, rg, hg, la, op, em, pr, mi, ta, ev, nI z, wo, we, pl, cu, tb, be, es, mb, mc, mr, rc) = some (ct', (th, on', tm', cr', rg', hg', la, op', em, pr, mi, ta, ev', nI z', wo', we', pl', cu', tb', be, es, mb, mc, mr, rc))) ∨
         (f_Box_use_46 n v a (nI M) ct (nI i) (pr, (mi, ta), (rg, tm, cr, hg, la, op, em), (ev, nI z), (wo, we, dr, pl, cu), (bb, pa, an, le, rc, be, es), on) = some (.error ("java/lang/ArithmeticException", (pr, (mi, ta), (rg', tm', cr', hg', la, op', em), (ev', nI z'), (wo', we', dr', pl', cu'), (bb, pa, an, le, rc, be, es), on'))) ∧
          f_Mod_use_83 n v a (nI M) ct (nI i) (th, on, tm, cr, rg, hg, la, op, em, pr, mi, ta, ev, nI z, wo, we, pl, cu, tb, be, es, mb, mc, mr, rc) = some (ct', (3, on', tm', cr', rg', hg', la, op', em, pr, mi, ta, ev', nI z', wo', we', pl', cu', tb', be, es, mb, mc, mr, rc)))) := by
  intro d
  induction d with
  | zero =>
    intro i n ct K N on op pl cu tb tm cr hg rg ev wo we dr z hi hn hK0 hK hN hN2 hon h
    obtain ⟨n, rfl⟩ : ∃ k, n = k + 1 := ⟨n - 1, by omega⟩
    obtain rfl : i = M := by omega
    have hle : nI i ≤ nI i := nI_le (by omega) (by omega)
    refine ⟨on, op, pl, cu, tb, tm, cr, hg, rg, ev, wo, we, dr, z, ct, ?_, Or.inl ⟨?_, ?_⟩⟩
    · simpa using h
    · rw [f_Box_use_46, if_pos hle]
    · rw [f_Mod_use_83, if_pos hle]
  | succ d ih =>
    intro i n ct K N on op pl cu tb tm cr hg rg ev wo we dr z hi hn hK0 hK hN hN2 hon h
    obtain ⟨n, rfl⟩ : ∃ k, n = k + 1 := ⟨n - 1, by omega⟩
    have hle : ¬ nI M ≤ nI i := nI_ge (by omega) (by omega)
    obtain ⟨on', op', pl', cu', tb', tm', cr', hg', rg', ev', wo', we', dr', z', e1, e2, s⟩ := minute th on tm cr rg hg la op em pr mi ta ev wo we pl cu tb be es mb mc mr rc dr bb pa an le v a hv ha hv0 h hK0 (by omega) hN (by omega) hA0 hA
    have key : ∀ ct2 : Int32, ∃ (on'' op'' pl'' cu'' tb'' tm'' : Int32) (cr'' hg'' : UInt64) (rg'' : Nat → UInt64) (ev'' : Nat → Int32) (wo'' : Nat → Int64) (we'' : Nat → Int32) (dr'' : Nat → Int64) (z'' : Nat) (ct' : Int32),
        SI (K + 8 * (d + 1)) (N + (d + 1)) A on'' la op'' em pl'' cu'' cr'' hg'' rg'' pr ta wo'' z'' ∧
        ((f_Box_use_66 (f_Box_use_46 n) v a (nI M) ct2 (nI i) (pr, (mi, ta), (rg, tm, cr, hg, la, op, em), (ev, nI z), (wo, we, dr, pl, cu), (bb, pa, an, le, rc, be, es), on) = some (.ok (ct', (pr, (mi, ta), (rg'', tm'', cr'', hg'', la, op'', em), (ev'', nI z''), (wo'', we'', dr'', pl'', cu''), (bb, pa, an, le, rc, be, es), on''))) ∧
          f_Mod_use_100 (f_Mod_use_83 n) v a (nI M) ct2 (nI i) (th, on, tm, cr, rg, hg, la, op, em, pr, mi, ta, ev, nI z, wo, we, pl, cu, tb, be, es, mb, mc, mr, rc) = some (ct', (th, on'', tm'', cr'', rg'', hg'', la, op'', em, pr, mi, ta, ev'', nI z'', wo'', we'', pl'', cu'', tb'', be, es, mb, mc, mr, rc))) ∨
         (f_Box_use_66 (f_Box_use_46 n) v a (nI M) ct2 (nI i) (pr, (mi, ta), (rg, tm, cr, hg, la, op, em), (ev, nI z), (wo, we, dr, pl, cu), (bb, pa, an, le, rc, be, es), on) = some (.error ("java/lang/ArithmeticException", (pr, (mi, ta), (rg'', tm'', cr'', hg'', la, op'', em), (ev'', nI z''), (wo'', we'', dr'', pl'', cu''), (bb, pa, an, le, rc, be, es), on''))) ∧
          f_Mod_use_100 (f_Mod_use_83 n) v a (nI M) ct2 (nI i) (th, on, tm, cr, rg, hg, la, op, em, pr, mi, ta, ev, nI z, wo, we, pl, cu, tb, be, es, mb, mc, mr, rc) = some (ct', (3, on'', tm'', cr'', rg'', hg'', la, op'', em, pr, mi, ta, ev'', nI z'', wo'', we'', pl'', cu'', tb'', be, es, mb, mc, mr, rc)))) := by
      intro ct2
      unfold f_Box_use_66 f_Mod_use_100
      simp only [e1, e2, cv_e, bd_e, nI_1]
      rcases s.1 with c | c
      · simp only [c, if_true]
        refine ⟨0, op', pl', cu', tb', tm', cr', hg', rg', ev', wo', we', dr', z', 0, ?_, Or.inr ⟨rfl, ?_⟩⟩
        · rw [c] at s
          obtain ⟨i1, i2, i3, i4, i5, i6, i7, i8, i9, i10, i11, i12, i13, i14, i15⟩ := s
          exact ⟨i1, i2, i3, i4, i5, i6, i7, i8, i9, RB_mono i10 (by omega), i11, i12, i13, WI_mono i14 (by omega) (by omega), i15⟩
        · unfold f_Mod_raise
          simp only [ca_e]
      · simp only [c, k10, if_false]
        have c' : (on' = 1) := c
        rw [c'] at s
        obtain ⟨p1, p2, p3, p4, p5, p6, p7, p8, p9, pa', pb', pc', pd', pe', pf', t1, t2⟩ := ih (i + 1) n ct2 (K + 8) (N + 1) 1 op' pl' cu' tb' tm' cr' hg' rg' ev' wo' we' dr' z' (by omega) (by omega) (by omega) (by omega) (by omega) (by omega) rfl s
        refine ⟨p1, p2, p3, p4, p5, p6, p7, p8, p9, pa', pb', pc', pd', pe', pf', ?_, t2⟩
        have q1 : K + 8 * ((d : Int) + 1) = K + 8 + 8 * d := by omega
        have q2 : N + ((d : Int) + 1) = N + 1 + d := by omega
        rw [q1, q2]
        exact t1
    have hc : ((d + 1 : Nat) : Int) = (d : Int) + 1 := by omega
    rw [hc, f_Box_use_46, f_Mod_use_83, if_neg hle, if_neg hle]
    simp only [bd_e]
    by_cases c : op = 0
    · simp only [c, if_true] at key ⊢
      exact key (ct + 1)
    · simp only [c, if_false]
      exact key ct
