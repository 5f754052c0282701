/-! token -/
def cdT (E : String) (k : Int32) : Prop := (E = xIA ∧ k = 1) ∨ (E = xIS ∧ k = 2) ∨ (E = xUO ∧ k = 3) ∨ (E = xNE ∧ k = 4) ∨ (E = xAE ∧ k = 5)
theorem tk_tail (n : Nat) (hn : n < 512) (on : Int32) (tm : Int32) (cr : UInt64) (rg : (Nat → UInt64)) (hg : UInt64) (la : Int32) (op : Int32) (em : Int32) (pr : (Nat → UInt64)) (mi : (Nat → Int32)) (ta : (Nat → Int32)) (ev : (Nat → Int32)) (wo : (Nat → Int64)) (we : (Nat → Int32)) (pl : Int32) (cu : Int32) (tb : Int32) (be : Int32) (es : Int32) (mb : (Nat → Int32)) (mc : Int32) (mr : (Nat → Int32)) (rc : Int32) (dr : Nat → Int64) (bb pa an : Nat → Int32) (le : Int32) (z : Nat) (kd : Int32) (s : SI (8388608 + 2400 * n) (301 * n) (16384 + 200 * n) on la op em pl cu cr hg rg pr ta wo z) (l : LI be es le mc rc bb mb an mr) :
    Agree (n + 1) cdT (cx (f_Box_keepOrThrow (pr, (mi, ta), (rg, tm, cr, hg, la, op, em), (ev, nI z), (wo, we, dr, pl, cu), (bb, pa, an, le, rc, be, es), on)) (fun E27 w26 => some (.error (E27, w26))) (fun r25 w26 => bd (Op.cmpValue (FP.dcmp w26.2.2.1.2.2.1 FP.dconst0) .l) (fun x28 : Int32 => (if x28 < 0 then some (.ok (kd, w26)) else cv (f_Box_closeRelay w26) (fun w30 => some (.ok (kd, w30)))))))
      (ca (f_Mod_saved (0, on, tm, cr, rg, hg, la, op, em, pr, mi, ta, ev, nI z, wo, we, pl, cu, tb, be, es, mb, mc, mr, rc)) (fun r23 w24 => (if w24.2.2.2.2.2.2.2.2.2.2.2.2.2.2.2.2.2.2.1 = 0 then (if w24.2.2.2.2.2.2.2.1 = 0 then some (kd, w24) else bd (Op.cmpValue (FP.dcmp w24.2.2.2.1 FP.dconst0) .l) (fun x27 : Int32 => (if x27 < 0 then some (kd, w24) else cv (f_Mod_close w24) (fun w29 => some (kd, w29))))) else (if w24.2.2.2.2.2.2.2.2.2.2.2.2.2.2.2.2.2.2.1 = (1 : Int32) then f_Mod_token_162 (3 : Int32) w24 else f_Mod_token_162 (5 : Int32) w24)))) := by
  obtain ⟨i1, i2, i3, i4, i5, i6, i7, i8, i9, i10, i11, i12, i13, i14, i15⟩ := s
  obtain ⟨W, E, D, pl', cu', on', t, rc', rm, e1, e2, j1, j2, j3, j4⟩ := keep 0 on tm cr rg hg la op em pr mi ta ev (nI z) wo we pl cu tb be es mb mc mr rc dr bb pa an le i4 i5 i6 i8 i9 i10.1.nn (by omega) (by omega) (Bf_1 (by omega)) i14 (k4_bd i10 (by omega) i13 (by omega))
  have hon : on' = 0 ∨ on' = 1 := by
    rcases j4 with ⟨_, _, r⟩ | ⟨_, _, r⟩ | ⟨_, _, r, _⟩
    · rw [r]; exact i1
    · exact Or.inl r
    · rw [r]; exact i1
  have s2 : SI (8388608 + 2400 * (n + 1 : Nat)) (301 * (n + 1 : Nat)) (16384 + 200 * (n + 1 : Nat)) on' la op em pl' cu' cr hg rg pr ta W z :=
    SI_mono (K := 8388608 + 2400 * n) (N := 301 * n + 1) (A := 16384 + 200 * n) ⟨hon, i2, i3, j1, j2, i6, i7, i8, i9, i10, i11, i12, i13, j3, i15⟩ (by omega) (by omega) (by omega)
  unfold f_Box_keepOrThrow f_Mod_token_162 f_Mod_raise
  simp only [e1, e2, ca_e, bd_e]
  rcases j4 with ⟨r1, r2, r3⟩ | ⟨r1, r2, r3⟩ | ⟨r1, r2, r3, r4⟩
  · subst r1 r2
    simp only [if_true, k10, if_false, cx_x]
    exact ⟨_, _, _, rfl, ⟨3, on', tm, cr, rg, hg, la, op, em, pr, mi, ta, ev, W, E, pl', cu', 1, be, es, mb, mc, mr, rc, D, bb, pa, an, le, z, rfl, rfl, s2, l⟩, Or.inr ⟨_, 3, rfl, rfl, Or.inr (Or.inr (Or.inl ⟨rfl, rfl⟩))⟩⟩
  · subst r1 r2
    simp only [if_true, k20, k21, km00, if_false, cx_x]
    exact ⟨_, _, _, rfl, ⟨5, on', tm, cr, rg, hg, la, op, em, pr, mi, ta, ev, W, E, pl', cu', 2, be, es, mb, mc, mr, rc, D, bb, pa, an, le, z, rfl, rfl, s2, l⟩, Or.inr ⟨_, 5, rfl, rfl, Or.inr (Or.inr (Or.inr (Or.inr ⟨rfl, rfl⟩)))⟩⟩
  · have q1 : ¬ rc' = 0 := by
      intro e
      rw [e] at r4
      exact absurd r4 (by decide)
    have q2 : ¬ rc' = -1 := by
      intro e
      rw [e] at r4
      exact absurd r4 (by decide)
    subst r2
    have same : Inv (n + 1) (pr, (mi, ta), (rg, tm, cr, hg, la, op, em), (ev, nI z), (W, E, D, pl', cu'), (bb, pa, an, le, rc, be, es), on') (0, on', tm, cr, rg, hg, la, op, em, pr, mi, ta, ev, nI z, W, E, pl', cu', 0, be, es, mb, mc, mr, rc) := ⟨0, on', tm, cr, rg, hg, la, op, em, pr, mi, ta, ev, W, E, pl', cu', 0, be, es, mb, mc, mr, rc, D, bb, pa, an, le, z, rfl, rfl, s2, l⟩
    simp only [q1, q2, if_true, if_false, cx_e]
    unfold f_Box_closeRelay f_Mod_close
    by_cases c : op = 0
    · subst c
      simp only [if_true, cv_e, ite_self]
      exact ⟨_, _, _, rfl, same, Or.inl ⟨rfl, rfl⟩⟩
    · simp only [c, if_false]
      by_cases c2 : Op.cmpValue (FP.dcmp cr FP.dconst0) .l < 0
      · simp only [c2, if_true]
        exact ⟨_, _, _, rfl, same, Or.inl ⟨rfl, rfl⟩⟩
      · simp only [c2, if_false, ev_box (hz := i15), ev_mod (hz := i15), cv_e]
        obtain ⟨i1, i2, i3, i4, i5, i6, i7, i8, i9, i10, i11, i12, i13, i14, i15⟩ := s2
        exact ⟨_, _, _, rfl, ⟨0, on', tm, cr, rg, hg, la, 0, em, pr, mi, ta, evz 5 tm ev z, W, E, pl', cu', 0, be, es, mb, mc, mr, rc, D, bb, pa, an, le, evn z, rfl, rfl, ⟨i1, Or.inl rfl, i3, i4, i5, i6, i7, i8, i9, i10, i11, i12, i13, i14, evn_le i15⟩, l⟩, Or.inl ⟨rfl, rfl⟩⟩
theorem k02 : ((0 : Int32) = 2) = False := eq_false (by decide)
theorem k12 : ((1 : Int32) = 2) = False := eq_false (by decide)
theorem op_token (n : Nat) (hn : n < 512) (b : S_Box) (u : S_Mod) (h : Inv n b u) (t : Int64) : Agree (n + 1) cdT (f_Box_token t b) (f_Mod_token t u) := by
  obtain ⟨th, on, tm, cr, rg, hg, la, op, em, pr, mi, ta, ev, wo, we, pl, cu, tb, be, es, mb, mc, mr, rc, dr, bb, pa, an, le, z, rfl, rfl, s, l⟩ := h
  have err1 : Inv (n + 1) (pr, (mi, ta), (rg, tm, cr, hg, la, op, em), (ev, nI z), (wo, we, dr, pl, cu), (bb, pa, an, le, rc, be, es), on) (1, on, tm, cr, rg, hg, la, op, em, pr, mi, ta, ev, nI z, wo, we, pl, cu, tb, be, es, mb, mc, mr, rc) := ⟨1, on, tm, cr, rg, hg, la, op, em, pr, mi, ta, ev, wo, we, pl, cu, tb, be, es, mb, mc, mr, rc, dr, bb, pa, an, le, z, rfl, rfl, SI_n s, l⟩
  have err2 : Inv (n + 1) (pr, (mi, ta), (rg, tm, cr, hg, la, op, em), (ev, nI z), (wo, we, dr, pl, cu), (bb, pa, an, le, rc, be, es), on) (2, on, tm, cr, rg, hg, la, op, em, pr, mi, ta, ev, nI z, wo, we, pl, cu, tb, be, es, mb, mc, mr, rc) := ⟨2, on, tm, cr, rg, hg, la, op, em, pr, mi, ta, ev, wo, we, pl, cu, tb, be, es, mb, mc, mr, rc, dr, bb, pa, an, le, z, rfl, rfl, SI_n s, l⟩
  have err4 : Inv (n + 1) (pr, (mi, ta), (rg, tm, cr, hg, la, op, em), (ev, nI z), (wo, we, dr, pl, cu), (bb, pa, an, le, rc, be, es), on) (4, on, tm, cr, rg, hg, la, op, em, pr, mi, ta, ev, nI z, wo, we, pl, cu, tb, be, es, mb, mc, mr, rc) := ⟨4, on, tm, cr, rg, hg, la, op, em, pr, mi, ta, ev, wo, we, pl, cu, tb, be, es, mb, mc, mr, rc, dr, bb, pa, an, le, z, rfl, rfl, SI_n s, l⟩
  have hz : z ≤ 12 := s.2.2.2.2.2.2.2.2.2.2.2.2.2.2
  have ref : Agree (n + 1) cdT (f_Box_token_82 (pr, (mi, ta), (rg, tm, cr, hg, la, op, em), (ev, nI z), (wo, we, dr, pl, cu), (bb, pa, an, le, rc, be, es), on)) (f_Mod_token_79 (0, on, tm, cr, rg, hg, la, op, em, pr, mi, ta, ev, nI z, wo, we, pl, cu, tb, be, es, mb, mc, mr, rc)) := by
    unfold f_Box_token_82 f_Mod_token_79 f_Mod_raise
    simp only [ev_box (hz := hz), ev_mod (hz := hz), cv_e, ca_e]
    obtain ⟨i1, i2, i3, i4, i5, i6, i7, i8, i9, i10, i11, i12, i13, i14, i15⟩ := SI_n s
    exact ⟨_, _, _, rfl, ⟨3, on, tm, cr, rg, hg, la, op, em, pr, mi, ta, evz 4 tm ev z, wo, we, pl, cu, tb, be, es, mb, mc, mr, rc, dr, bb, pa, an, le, evn z, rfl, rfl, ⟨i1, i2, i3, i4, i5, i6, i7, i8, i9, i10, i11, i12, i13, i14, evn_le i15⟩, l⟩, Or.inr ⟨_, 3, rfl, rfl, Or.inr (Or.inr (Or.inl ⟨rfl, rfl⟩))⟩⟩
  unfold f_Box_token f_Mod_token f_Box_token_14 f_Mod_token_19 f_Mod_raise f_Box_requireOn
  simp only [bd_e]
  by_cases a1 : lg_cmp t 0 < 0
  · simp only [a1, if_true, ca_e]
    exact ⟨_, _, _, rfl, err1, Or.inr ⟨_, 1, rfl, rfl, Or.inl ⟨rfl, rfl⟩⟩⟩
  by_cases a2 : lg_cmp t 1099511627775 ≤ 0
  · simp only [a1, a2, if_true, if_false]
    have t1 := lg_nlt a1
    have t2 := lg_le' a2
    have z0 : (0 : Int64).toInt = 0 := by decide
    have zM : (1099511627775 : Int64).toInt = 1099511627775 := by decide
    rw [z0] at t1
    rw [zM] at t2
    have kb := kind_bd t1 t2
    by_cases o : on = 0
    · simp only [o, if_true, cxv_x, ca_e] at err2 ⊢
      exact ⟨_, _, _, rfl, err2, Or.inr ⟨_, 2, rfl, rfl, Or.inr (Or.inl ⟨rfl, rfl⟩)⟩⟩
    · simp only [o, if_false, cxv_e, ck_cls, ck_mod, ca_e, rem256, num_eq, x_eq, lg0]
      generalize hkd : (((t ^^^ (733007751850 : Int64)) / 256) >>> ((30 : Int32).toInt64 &&& 63)).toInt32 = kd at *
      generalize hbody : (t ^^^ (733007751850 : Int64)) / 256 = body at *
      generalize (t ^^^ (733007751850 : Int64)) - body * 256 = lo
      by_cases c1 : lo = ck body - ck body / 256 * 256
      · have c1' : ck body - ck body / 256 * 256 = lo := c1.symm
        simp only [c1', if_true]
        by_cases c2 : kd = 3
        · have c3 : ¬ kd ≤ 2 := (by simp only [Int32.lt_iff_toInt_lt, Int32.le_iff_toInt_le, ← Int32.toInt_inj, Int32.reduceToInt] at *; omega)
          simp only [c2, if_true]
          rw [if_neg (by decide)]
          exact ref
        · have c3 : kd ≤ 2 := (by simp only [Int32.lt_iff_toInt_lt, Int32.le_iff_toInt_le, ← Int32.toInt_inj, Int32.reduceToInt] at *; omega)
          simp only [c2, c3, if_true, if_false]
          obtain ⟨nu, hnu, enu⟩ := pk_andE (body >>> ((16 : Int32).toInt64 &&& 63)).toInt32 (m := 16383) 14 (by decide)
          obtain ⟨x, hx, ex⟩ := pk_andE body.toInt32 (m := 65535) 16 (by decide)
          rw [enu, ex]
          by_cases c4 : la < nI nu
          · simp only [c4, if_true]
            obtain ⟨i1, i2, i3, i4, i5, i6, i7, i8, i9, i10, i11, i12, i13, i14, i15⟩ := s
            have hla : -(16384 + 200 * (n : Int)) ≤ (nI nu).toInt ∧ (nI nu).toInt ≤ 16384 + 200 * (n : Int) := by
              rw [nI_toInt (by omega)]
              omega
            unfold f_Box_putToWork f_Mod_work f_Mod_work_24 f_Mod_work_45 f_Events_clear
            have kc : kd = 0 ∨ kd = 1 ∨ kd = 2 := (by simp only [Int32.lt_iff_toInt_lt, Int32.le_iff_toInt_le, ← Int32.toInt_inj, Int32.reduceToInt] at *; omega)
            rcases kc with e | e | e
            · have f1 : FN (FP.ddiv (FP.i2d (nI x)) 4636737291354636288) := by
                have := FP.Core.ddiv_mag (a := FP.i2d (nI x)) (b := 4636737291354636288) (K := 1056) (L := 1029) (FP.Core.i2d_mag _) (by decide +kernel) (by decide +kernel) (by decide) (by decide)
                exact FN_mag this (by decide)
              have f2 : NN (FP.dadd cr (FP.ddiv (FP.i2d (nI x)) 4636737291354636288)) := NN_add i6 f1
              simp only [e, k01, k02, if_true, if_false, bd_e, gn_ok f1.nn, gn_ok f2, cv_e]
              exact tk_tail n hn on tm _ rg hg (nI nu) op 0 pr mi ta ev wo we pl cu tb be es mb mc mr rc dr bb pa an le z 0 ⟨i1, i2, Or.inl rfl, i4, i5, f2, i7, i8, i9, i10, i11, i12, hla, i14, i15⟩ l
            · have m1 : (FP.ddiv (FP.i2d (nI (x / 3))) 4652007308841189376).toNat % 2 ^ 63 < 1048 * 2 ^ 52 := by
                have := FP.Core.ddiv_mag (a := FP.i2d (nI (x / 3))) (b := 4652007308841189376) (K := 1056) (L := 1032) (FP.Core.i2d_mag _) (by decide +kernel) (by decide +kernel) (by decide) (by decide)
                exact this
              have f1 : NN (FP.ddiv (FP.i2d (nI (x / 3))) 4652007308841189376) := FN.nn (FN_mag m1 (by decide))
              have g (β : Type) (k : Option β) : gi (nI (x % 3)) 3 k = k := gi_n (by omega) (by decide)
              have cl : (nI (x % 3)).toNatClampNeg = x % 3 := cl_n (by omega)
              simp only [e, k10, k12, if_true, if_false, bd_e, div3 hx, rem3 hx, gn_ok f1, g, cl, cv_e]
              have hpr : ∀ j, j < 3 → (vf_upd pr (x % 3) (FP.ddiv (FP.i2d (nI (x / 3))) 4652007308841189376) j).toNat % 2 ^ 63 < 1048 * 2 ^ 52 := by
                intro j hj
                by_cases q : j = x % 3
                · subst q; rw [vfs]; exact m1
                · rw [vfn q]; exact i11 j hj
              exact tk_tail n hn on tm cr rg hg (nI nu) op em _ mi ta ev wo we pl cu tb be es mb mc mr rc dr bb pa an le z 1 ⟨i1, i2, i3, i4, i5, i6, i7, i8, i9, i10, hpr, i12, hla, i14, i15⟩ l
            · simp only [e, k20, k21, if_true, if_false, cv_e]
              exact tk_tail n hn on tm cr rg FP.dconst0 (nI nu) op em pr mi ta ev wo we pl cu tb be es mb mc mr rc dr bb pa an le 0 2 ⟨i1, i2, i3, i4, i5, i6, by decide +kernel, i8, i9, i10, i11, i12, hla, i14, by omega⟩ l
          · simp only [c4, if_false, ca_e]
            exact ⟨_, _, _, rfl, err4, Or.inr ⟨_, 4, rfl, rfl, Or.inr (Or.inr (Or.inr (Or.inl ⟨rfl, rfl⟩)))⟩⟩
      · have c1' : ¬ ck body - ck body / 256 * 256 = lo := fun e => c1 e.symm
        simp only [c1, c1', if_false]
        exact ref
  · simp only [a1, a2, if_false, ca_e]
    exact ⟨_, _, _, rfl, err1, Or.inr ⟨_, 1, rfl, rfl, Or.inl ⟨rfl, rfl⟩⟩⟩
