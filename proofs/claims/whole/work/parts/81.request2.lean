theorem kb (bb pa an : Nat → Int32) (rc be es v : Int32) (c : Nat) (hc : c ≤ 13) :
    f_Line_keepByte v (bb, pa, an, nI c, rc, be, es) = some (if c < 12 then upd bb c v else bb, pa, an, nI (if c ≤ 12 then c + 1 else c), rc, be, es) := by
  unfold f_Line_keepByte f_Line_keepByte_19
  by_cases q : c < 12
  · have h1 : ¬ (12 : Int32) ≤ nI c := nI_ge (b := 12) q (by decide)
    have h2 : ¬ (12 : Int32) < nI c := nI_nlt (a := 12) (by omega) (by decide)
    have h3 : c ≤ 12 := by omega
    have g (β : Type) (k : Option β) : gi (nI c) 12 k = k := gi_n q (by decide)
    have cl : (nI c).toNatClampNeg = c := cl_n (by omega)
    simp only [q, h1, h2, h3, if_true, if_false, g, cl, bd_e, nI_1]
  · have h1 : (12 : Int32) ≤ nI c := nI_le (a := 12) (by omega) (by omega)
    by_cases q2 : c ≤ 12
    · have h2 : ¬ (12 : Int32) < nI c := nI_nlt (a := 12) (by omega) (by decide)
      simp only [q, q2, h1, h2, if_true, if_false, bd_e, nI_1]
    · have h2 : (12 : Int32) < nI c := nI_lt (a := 12) (by omega) (by omega)
      simp only [q, q2, h1, h2, if_true, if_false]
/-- one byte more -/
theorem store (n : Nat) (on : Int32) (tm : Int32) (cr : UInt64) (rg : (Nat → UInt64)) (hg : UInt64) (la : Int32) (op : Int32) (em : Int32) (pr : (Nat → UInt64)) (mi : (Nat → Int32)) (ta : (Nat → Int32)) (ev : (Nat → Int32)) (wo : (Nat → Int64)) (we : (Nat → Int32)) (pl : Int32) (cu : Int32) (tb : Int32) (es : Int32) (mb : (Nat → Int32)) (mr : (Nat → Int32)) (rc : Int32) (dr : Nat → Int64) (bb pa an : Nat → Int32) (z : Nat) (s : SI (8388608 + 2400 * n) (301 * n) (16384 + 200 * n) on la op em pl cu cr hg rg pr ta wo z)
    (c : Nat) (hc : c ≤ 13) (hb : ∀ j, j < c → j < 12 → bb j = mb j ∧ 0 ≤ (mb j).toInt ∧ (mb j).toInt ≤ 255) (lr : ∃ q : Nat, q ≤ 24 ∧ rc = nI q ∧ ∀ j, j < q → an j = mr j) (p v : Int32) (hv : v = if es = 0 then p else p ^^^ 32) (hv2 : 0 ≤ v.toInt ∧ v.toInt ≤ 255) :
    Agree (n + 1) cdQ (some (.ok (0, (pr, (mi, ta), (rg, tm, cr, hg, la, op, em), (ev, nI z), (wo, we, dr, pl, cu), (if c < 12 then upd bb c v else bb, pa, an, nI (if c ≤ 12 then c + 1 else c), rc, 1, 0), on)))) (f_Mod_request_108 p (0, on, tm, cr, rg, hg, la, op, em, pr, mi, ta, ev, nI z, wo, we, pl, cu, tb, 1, es, mb, nI c, mr, rc)) := by
  unfold f_Mod_request_108 f_Mod_request_140
  by_cases q : c ≤ 12
  · have h1 : ¬ (13 : Int32) ≤ nI c := nI_ge (b := 13) (by omega) (by decide)
    have g (β : Type) (k : Option β) : gi (nI c) 14 k = k := gi_n (by omega) (by decide)
    have cl : (nI c).toNatClampNeg = c := cl_n (by omega)
    have fin : Agree (n + 1) cdQ (some (.ok (0, (pr, (mi, ta), (rg, tm, cr, hg, la, op, em), (ev, nI z), (wo, we, dr, pl, cu), (if c < 12 then upd bb c v else bb, pa, an, nI (c + 1), rc, 1, 0), on)))) (some ((0 : Int32), (0, on, tm, cr, rg, hg, la, op, em, pr, mi, ta, ev, nI z, wo, we, pl, cu, tb, 1, 0, upd mb c v, nI (c + 1), mr, rc))) := by
      refine ⟨0, _, _, rfl, ⟨0, on, tm, cr, rg, hg, la, op, em, pr, mi, ta, ev, wo, we, pl, cu, tb, 1, 0, upd mb c v, nI (c + 1), mr, rc, dr, if c < 12 then upd bb c v else bb, pa, an, nI (c + 1), z, rfl, rfl, SI_n s, Or.inr rfl, Or.inl rfl, fun e => absurd e (by decide), fun _ => ⟨c + 1, by omega, rfl, rfl, ?_⟩, lr⟩, Or.inl ⟨rfl, rfl⟩⟩
      intro j hj hj2
      by_cases jc : j = c
      · subst jc
        rw [if_pos hj2, pk_us, pk_us]
        exact ⟨rfl, hv2⟩
      · rw [pk_un jc]
        have := hb j (by omega) hj2
        by_cases c12 : c < 12
        · rw [if_pos c12, pk_un jc]; exact this
        · rw [if_neg c12]; exact this
    simp only [h1, if_false, q, if_true]
    by_cases k : es = 0
    · simp only [k, if_true, g, cl, bd_e, nI_1] at hv ⊢
      rw [hv] at fin ⊢
      exact fin
    · simp only [k, if_false, g, cl, bd_e, nI_1] at hv ⊢
      rw [hv] at fin ⊢
      exact fin
  · have h1 : (13 : Int32) ≤ nI c := nI_le (a := 13) (by omega) (by omega)
    have q2 : ¬ c < 12 := by omega
    simp only [h1, if_true, q, q2, if_false]
    exact ⟨0, _, _, rfl, ⟨0, on, tm, cr, rg, hg, la, op, em, pr, mi, ta, ev, wo, we, pl, cu, tb, 1, 0, mb, nI c, mr, rc, dr, bb, pa, an, nI c, z, rfl, rfl, SI_n s, Or.inr rfl, Or.inl rfl, fun e => absurd e (by decide), fun _ => ⟨c, hc, rfl, rfl, hb⟩, lr⟩, Or.inl ⟨rfl, rfl⟩⟩
theorem op_request (n : Nat) (b : S_Box) (u : S_Mod) (h : Inv n b u) (p : Int32) : Agree (n + 1) cdQ (f_Box_request p b) (f_Mod_request p u) := by
  obtain ⟨th, on, tm, cr, rg, hg, la, op, em, pr, mi, ta, ev, wo, we, pl, cu, tb, be, es, mb, mc, mr, rc, dr, bb, pa, an, le, z, rfl, rfl, s, l⟩ := h
  have err1 : Inv (n + 1) (pr, (mi, ta), (rg, tm, cr, hg, la, op, em), (ev, nI z), (wo, we, dr, pl, cu), (bb, pa, an, le, rc, be, es), on) (1, on, tm, cr, rg, hg, la, op, em, pr, mi, ta, ev, nI z, wo, we, pl, cu, tb, be, es, mb, mc, mr, rc) := ⟨1, on, tm, cr, rg, hg, la, op, em, pr, mi, ta, ev, wo, we, pl, cu, tb, be, es, mb, mc, mr, rc, dr, bb, pa, an, le, z, rfl, rfl, SI_n s, l⟩
  have err2 : Inv (n + 1) (pr, (mi, ta), (rg, tm, cr, hg, la, op, em), (ev, nI z), (wo, we, dr, pl, cu), (bb, pa, an, le, rc, be, es), on) (2, on, tm, cr, rg, hg, la, op, em, pr, mi, ta, ev, nI z, wo, we, pl, cu, tb, be, es, mb, mc, mr, rc) := ⟨2, on, tm, cr, rg, hg, la, op, em, pr, mi, ta, ev, wo, we, pl, cu, tb, be, es, mb, mc, mr, rc, dr, bb, pa, an, le, z, rfl, rfl, SI_n s, l⟩
  unfold f_Box_request f_Mod_request f_Mod_raise f_Box_requireOn f_Line_endsWith
  rcases in_cases p 0 255 with ⟨a1, a2, a3, a4⟩ | ⟨a1, a2⟩
  · simp only [a1, a2, cxv_e, ca_e, k10, if_false]
    simp only [Int32.reduceToInt] at a3 a4
    by_cases o : on = 0
    · simp only [o, if_true, cxv_x] at err2 ⊢
      exact ⟨_, _, _, rfl, err2, Or.inr ⟨_, 2, rfl, rfl, Or.inr (Or.inl ⟨rfl, rfl⟩)⟩⟩
    simp only [o, if_false, cxv_e]
    obtain ⟨l1, l2, l3, l4, l5⟩ := l
    rcases l1 with rfl | rfl
    · obtain ⟨rfl, rfl⟩ := l3 rfl
      simp only [if_true]
      by_cases c : p = 126
      · simp only [c, if_true, ca_e]
        exact ⟨_, _, _, rfl, ⟨0, on, tm, cr, rg, hg, la, op, em, pr, mi, ta, ev, wo, we, pl, cu, tb, 1, 0, mb, 0, mr, rc, dr, bb, pa, an, 0, z, rfl, rfl, SI_n s, Or.inr rfl, Or.inl rfl, fun e => absurd e (by decide), fun _ => ⟨0, by decide, rfl, rfl, fun j hj => absurd hj (by omega)⟩, l5⟩, Or.inl ⟨rfl, rfl⟩⟩
      · simp only [c, if_true, if_false, ca_e]
        exact ⟨_, _, _, rfl, ⟨0, on, tm, cr, rg, hg, la, op, em, pr, mi, ta, ev, wo, we, pl, cu, tb, 0, 0, mb, 0, mr, rc, dr, bb, pa, an, 0, z, rfl, rfl, SI_n s, Or.inl rfl, Or.inl rfl, fun _ => ⟨rfl, rfl⟩, fun e => absurd e (by decide), l5⟩, Or.inl ⟨rfl, rfl⟩⟩
    · obtain ⟨c, hc, rfl, rfl, hb⟩ := l4 rfl
      simp only [k10, if_false]
      obtain ⟨k, hk, rfl⟩ := int_of (p := p) (k := 256) (by omega) (by omega)
      by_cases ce : es = 0
      · subst ce
        simp only [if_true]
        by_cases c125 : nI k = 125
        · have c126 : ¬ nI k = 126 := by rw [c125]; decide
          unfold f_Mod_request_88
          simp only [c125, c126, if_true, if_false, ca_e]
          rw [if_neg (by decide)]
          exact ⟨_, _, _, rfl, ⟨0, on, tm, cr, rg, hg, la, op, em, pr, mi, ta, ev, wo, we, pl, cu, tb, 1, 1, mb, nI c, mr, rc, dr, bb, pa, an, nI c, z, rfl, rfl, SI_n s, Or.inr rfl, Or.inr rfl, fun e => absurd e (by decide), fun _ => ⟨c, hc, rfl, rfl, hb⟩, l5⟩, Or.inl ⟨rfl, rfl⟩⟩
        · by_cases c126 : nI k = 126
          · simp only [c125, c126, if_true, if_false]
            rw [if_neg (by decide)]
            unfold f_Line_endsWith_90
            by_cases c0 : c = 0
            · subst c0
              simp only [nI_0, if_true, gb_1, k10, if_false, ca_e]
              exact ⟨_, _, _, rfl, ⟨0, on, tm, cr, rg, hg, la, op, em, pr, mi, ta, ev, wo, we, pl, cu, tb, 1, 0, mb, 0, mr, rc, dr, bb, pa, an, 0, z, rfl, rfl, SI_n s, Or.inr rfl, Or.inl rfl, fun e => absurd e (by decide), fun _ => ⟨0, by decide, rfl, rfl, fun j hj => absurd hj (by omega)⟩, l5⟩, Or.inl ⟨rfl, rfl⟩⟩
            · have c0' : ¬ nI c = 0 := nI_ne0 (by omega) (by omega)
              have lend : ∀ (mb' : Nat → Int32) (le' : Int32) , LI 0 0 le' 0 rc bb mb' an mr := fun mb' le' => ⟨Or.inl rfl, Or.inl rfl, fun _ => ⟨rfl, rfl⟩, fun e => absurd e (by decide), l5⟩
              unfold f_Line_isLengthRight f_Mod_end f_Mod_end_26 f_Mod_end_71 f_Mod_raise
              simp only [c0', if_false, if_true, gb_0, ca_e, k10]
              by_cases c4 : c < 4
              · have h4 : nI c < (4 : Int32) := nI_lt (b := 4) c4 (by decide)
                simp only [h4, if_true, ca_e]
                exact ⟨_, _, _, rfl, ⟨2, on, tm, cr, rg, hg, la, op, em, pr, mi, ta, ev, wo, we, pl, cu, tb, 0, 0, mb, 0, mr, rc, dr, bb, pa, an, nI c, z, rfl, rfl, SI_n s, lend _ _⟩, Or.inr ⟨_, 2, rfl, rfl, Or.inr (Or.inl ⟨rfl, rfl⟩)⟩⟩
              · have h4 : ¬ nI c < (4 : Int32) := nI_nlt (b := 4) (by omega) (by omega)
                by_cases c12 : c ≤ 12
                · have h12 : ¬ (12 : Int32) < nI c := nI_nlt (a := 12) c12 (by decide)
                  have h12' : nI c ≤ (12 : Int32) := nI_le (b := 12) c12 (by decide)
                  simp only [h4, h12, h12', if_true, if_false, ca_e, k10]
                  have e2 : nI c - 2 = nI (c - 2) := pk_sub (b := 2) (by omega)
                  have e1 : nI c - 1 = nI (c - 1) := pk_sub (b := 1) (by omega)
                  have hbm : By mb (c - 2) := fun j hj => (hb j (by omega) (by omega)).2
                  have hbb : By bb (c - 2) := fun j hj => by rw [(hb j (by omega) (by omega)).1]; exact hbm j hj
                  have hfe : fv mb (c - 2) = fv bb (c - 2) := fv_congr (fun j hj => (hb j (by omega) (by omega)).1.symm)
                  have f1 := fv_cls 12 (by decide) bb hbb (by omega)
                  have f2 := fv_mod (0, on, tm, cr, rg, hg, la, op, em, pr, mi, ta, ev, nI z, wo, we, pl, cu, tb, 0, 0, mb, 0, mr, rc) mb rfl hbm (by omega)
                  have hle := fv_le bb (c - 2)
                  rw [hfe] at f2
                  generalize fv bb (c - 2) = f at *
                  have g1 (β : Type) (q : Option β) : gi (nI (c - 2)) 12 q = q := gi_n (by omega) (by decide)
                  have g2 (β : Type) (q : Option β) : gi (nI (c - 1)) 12 q = q := gi_n (by omega) (by decide)
                  have g3 (β : Type) (q : Option β) : gi (nI (c - 2)) 14 q = q := gi_n (by omega) (by decide)
                  have g4 (β : Type) (q : Option β) : gi (nI (c - 1)) 14 q = q := gi_n (by omega) (by decide)
                  have g5 (β : Type) (q : Option β) : gi 0 12 q = q := gi_n (i := 0) (by decide) (by decide)
                  have g6 (β : Type) (q : Option β) : gi 1 12 q = q := gi_n (i := 1) (by decide) (by decide)
                  have g7 (β : Type) (q : Option β) : gi 0 14 q = q := gi_n (i := 0) (by decide) (by decide)
                  have g8 (β : Type) (q : Option β) : gi 1 14 q = q := gi_n (i := 1) (by decide) (by decide)
                  have k1 : (nI (c - 2)).toNatClampNeg = c - 2 := cl_n (by omega)
                  have k2 : (nI (c - 1)).toNatClampNeg = c - 1 := cl_n (by omega)
                  have b1 := (hb (c - 2) (by omega) (by omega)).1
                  have b2 := (hb (c - 1) (by omega) (by omega)).1
                  have b3 := hb 0 (by omega) (by omega)
                  have b4 := hb 1 (by omega) (by omega)
                  unfold f_Line_isFcsRight f_Line_command f_Line_argument
                  simp only [bd_e, e1, e2, f1, f2, ca_e, g1, g2, g3, g4, g5, g6, g7, g8, k1, k2, cl0, cl1, d256 (show f < 2 ^ 31 by omega), r256, and255 hle, shr8 hle, b1, b2, b3.1, b4.1]
                  by_cases v1 : mb (c - 2) = nI (f % 256)
                  · by_cases v2 : mb (c - 1) = nI (f / 256)
                    · simp only [v1, v2, if_true, ca_e, k10, if_false, bd_e, g5, g6, cl0, cl1, b3.1, b4.1]
                      obtain ⟨kc, hkc, ekc⟩ := int_of (p := mb 0) (k := 256) (by omega) (by omega)
                      obtain ⟨ka, hka, eka⟩ := int_of (p := mb 1) (k := 256) (by omega) (by omega)
                      rw [ekc, eka]
                      have hz : z ≤ 12 := s.2.2.2.2.2.2.2.2.2.2.2.2.2.2
                      rcases known 0 on tm cr rg hg la op em pr mi ta ev wo we pl cu tb 0 0 mb 0 mr rc dr bb pa an (nI c) hz kc ka hkc hka with ⟨w1, w2⟩ | ⟨w1, w2, w3⟩
                      · simp only [w1, w2, ca_e, if_true]
                        exact ⟨_, _, _, rfl, ⟨4, on, tm, cr, rg, hg, la, op, em, pr, mi, ta, ev, wo, we, pl, cu, tb, 0, 0, mb, 0, mr, rc, dr, bb, pa, an, nI c, z, rfl, rfl, SI_n s, lend _ _⟩, Or.inr ⟨_, 4, rfl, rfl, Or.inr (Or.inr (Or.inr ⟨rfl, rfl⟩))⟩⟩
                      · have s' := s
                        obtain ⟨i1, i2, i3, i4, i5, i6, i7, i8, i9, i10, i11, i12, i13, i14, i15⟩ := s'
                        obtain ⟨v, x1, x2⟩ := number 0 on tm cr rg hg la op em pr mi ta ev wo we pl cu tb 0 0 mb 0 mr rc dr bb pa an (nI c) hz kc ka w3 i6 i7 i8 i9 i10.1.nn
                        obtain ⟨q', pa', mb', a', c', t1, t2, t3, t4⟩ := answer 0 on tm cr rg hg la op em pr mi ta ev (nI z) wo we pl cu tb 0 0 mb 0 mr rc bb pa an (nI c) rc 0 0 kc (by omega) v
                        simp only [w1, w2, x1, x2, t3, t4, ca_e, cv_e, k10, if_false]
                        exact ⟨_, _, _, rfl, ⟨0, on, tm, cr, rg, hg, la, op, em, pr, mi, ta, ev, wo, we, pl, cu, tb, 0, 0, mb', 0, c', nI q', dr, bb, pa', a', nI c, z, rfl, rfl, SI_n s, Or.inl rfl, Or.inl rfl, fun _ => ⟨rfl, rfl⟩, fun e => absurd e (by decide), ⟨q', t1, rfl, t2⟩⟩, Or.inl ⟨rfl, rfl⟩⟩
                    · simp only [v1, v2, if_true, if_false, ca_e]
                      exact ⟨_, _, _, rfl, ⟨3, on, tm, cr, rg, hg, la, op, em, pr, mi, ta, ev, wo, we, pl, cu, tb, 0, 0, mb, 0, mr, rc, dr, bb, pa, an, nI c, z, rfl, rfl, SI_n s, lend _ _⟩, Or.inr ⟨_, 3, rfl, rfl, Or.inr (Or.inr (Or.inl ⟨rfl, rfl⟩))⟩⟩
                  · simp only [v1, if_true, if_false, ca_e]
                    exact ⟨_, _, _, rfl, ⟨3, on, tm, cr, rg, hg, la, op, em, pr, mi, ta, ev, wo, we, pl, cu, tb, 0, 0, mb, 0, mr, rc, dr, bb, pa, an, nI c, z, rfl, rfl, SI_n s, lend _ _⟩, Or.inr ⟨_, 3, rfl, rfl, Or.inr (Or.inr (Or.inl ⟨rfl, rfl⟩))⟩⟩
                · have h12 : (12 : Int32) < nI c := nI_lt (a := 12) (by omega) (by omega)
                  have h12' : ¬ nI c ≤ (12 : Int32) := nI_ge (a := 12) (by omega) (by omega)
                  simp only [h4, h12, h12', if_true, if_false, ca_e]
                  exact ⟨_, _, _, rfl, ⟨2, on, tm, cr, rg, hg, la, op, em, pr, mi, ta, ev, wo, we, pl, cu, tb, 0, 0, mb, 0, mr, rc, dr, bb, pa, an, nI c, z, rfl, rfl, SI_n s, lend _ _⟩, Or.inr ⟨_, 2, rfl, rfl, Or.inr (Or.inl ⟨rfl, rfl⟩)⟩⟩
          · unfold f_Mod_request_88
            simp only [c125, c126, if_false, if_true, kb bb pa an rc 1 0 (nI k) c hc, cv_e, ca_e]
            exact store n on tm cr rg hg la op em pr mi ta ev wo we pl cu tb 0 mb mr rc dr bb pa an z s c hc hb l5 (nI k) (nI k) (by rw [if_pos rfl]) ⟨a3, a4⟩
      · unfold f_Mod_request_88
        simp only [ce, if_false, bd_e, kb bb pa an rc 1 0 (nI k ^^^ 32) c hc, cv_e, ca_e]
        exact store n on tm cr rg hg la op em pr mi ta ev wo we pl cu tb es mb mr rc dr bb pa an z s c hc hb l5 (nI k) (nI k ^^^ 32) (by rw [if_neg ce]) (by
          have : k ^^^ 32 < 256 := Nat.xor_lt_two_pow (n := 8) hk (by decide)
          rw [x32, nI_toInt (by omega)]
          omega)
  · simp only [a1, a2, cxv_x, ca_e, if_true]
    exact ⟨_, _, _, rfl, err1, Or.inr ⟨_, 1, rfl, rfl, Or.inl ⟨rfl, rfl⟩⟩⟩
