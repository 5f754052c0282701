/-! small rows on numbers and guards -/
theorem bd_e {α β : Type} (e : α) (k : α → Option β) : bd e k = k e := Eq.trans (Eq.refl _) (Eq.refl _)
theorem ca_e {ρ σ β : Type} (r : ρ) (u : σ) (k : ρ → σ → Option β) : ca (some (r, u)) k = k r u := Eq.trans (Eq.refl _) (Eq.refl _)
theorem cv_e {σ β : Type} (u : σ) (k : σ → Option β) : cv (some u) k = k u := Eq.trans (Eq.refl _) (Eq.refl _)
theorem cx_e {ρ σ β : Type} (r : ρ) (u : σ) (kx : String → σ → Option β) (k : ρ → σ → Option β) : cx (some (.ok (r, u))) kx k = k r u := Eq.trans (Eq.refl _) (Eq.refl _)
theorem cx_x {ρ σ β : Type} (E : String) (u : σ) (kx : String → σ → Option β) (k : ρ → σ → Option β) : cx (some (.error (E, u))) kx k = kx E u := Eq.trans (Eq.refl _) (Eq.refl _)
theorem cxv_e {σ β : Type} (u : σ) (kx : String → σ → Option β) (k : σ → Option β) : cxv (some (.ok u)) kx k = k u := Eq.trans (Eq.refl _) (Eq.refl _)
theorem cxv_x {σ β : Type} (E : String) (u : σ) (kx : String → σ → Option β) (k : σ → Option β) : cxv (some (.error (E, u))) kx k = kx E u := Eq.trans (Eq.refl _) (Eq.refl _)
theorem gi_ok {β : Type} {i : Int32} {n : Nat} {k : Option β} (h : vp_in i n) : gi i n k = k := by
  unfold gi
  rw [if_neg h]
theorem gi_n {β : Type} {i n : Nat} {k : Option β} (h : i < n) (hn : n < 2 ^ 31) : gi (nI i) n k = k := gi_ok (vp_in_nI h hn)
theorem gb_0 {β : Type} {k : Option β} : gb 0 k = k := Eq.trans (Eq.refl _) (Eq.refl _)
theorem gb_1 {β : Type} {k : Option β} : gb 1 k = k := Eq.trans (Eq.refl _) (Eq.refl _)
theorem gb_ok {β : Type} {v : Int32} {k : Option β} (h : v = 0 ∨ v = 1) : gb v k = k := by
  unfold gb
  rw [if_pos h]
theorem nI_e0 : (0 : Int32) = nI 0 := rfl
theorem nI_e1 : (1 : Int32) = nI 1 := rfl
theorem cl_n {n : Nat} (h : n < 2 ^ 31) : (nI n).toNatClampNeg = n := nI_clamp h
theorem pos_n {x : Int32} (h : 0 ≤ x.toInt) : x = nI x.toInt.toNat := by
  apply Int32.toInt_inj.mp
  have h1 := Int32.toInt_lt x
  rw [nI_toInt (by omega)]
  omega
theorem k10 : ((1 : Int32) = 0) = False := eq_false (by decide)
theorem km0 : ((-1 : Int32) < 0) = True := eq_true (by decide)
theorem km1 : ((0 : Int32) ≤ -1) = False := eq_false (by decide)
theorem k0m : ((0 : Int32) = -1) = False := eq_false (by decide)
theorem k1m : ((1 : Int32) = -1) = False := eq_false (by decide)
theorem km00 : ((-1 : Int32) = 0) = False := eq_false (by decide)
theorem k20 : ((2 : Int32) = 0) = False := eq_false (by decide)
theorem k21 : ((2 : Int32) = 1) = False := eq_false (by decide)
theorem k01 : ((0 : Int32) = 1) = False := eq_false (by decide)
/-- the events' row behind one more -/
def evz (kind tm : Int32) (ev : Nat → Int32) (z : Nat) : Nat → Int32 :=
  if z = 12 then upd (va_cpy ev ev 1 0 11) 11 (10000 * kind + (tm - tm / 10000 * 10000)) else upd ev z (10000 * kind + (tm - tm / 10000 * 10000))
def evn (z : Nat) : Nat := if z = 12 then 12 else z + 1
theorem evn_le {z : Nat} (h : z ≤ 12) : evn z ≤ 12 := by unfold evn; split <;> omega
theorem gc_ev {β : Type} {k : Option β} : gc 1 0 11 12 12 k = k := by unfold gc; rw [if_neg (by decide)]
theorem ev_cls (k t : Int32) (ev : Nat → Int32) {z : Nat} (hz : z ≤ 12) : f_Events_add k t (ev, nI z) = some (evz k t ev z, nI (evn z)) := by
  unfold f_Events_add f_Events_add_34 evz evn
  by_cases h : z = 12
  · subst h
    show (if (nI 12 : Int32) = 12 then gc 1 0 11 12 12 _ else _) = _
    rw [if_pos (by decide), if_pos rfl, if_pos rfl, gc_ev]
    simp only [bd_e]
    rw [show (nI 12 - 1 : Int32) = nI 11 from by decide, gi_n (by decide) (by decide), cl_n (by decide)]
    rfl
  · have h1 : ¬ nI z = 12 := by
      intro e
      have := (nI_eq (a := z) (b := 12) (by omega) (by decide)).mp e
      exact h this
    rw [if_neg h1, if_neg h, if_neg h]
    simp only [bd_e]
    rw [gi_n (by omega) (by decide), cl_n (by omega), nI_1]
theorem ev_mod47 (th : Int32) (on : Int32) (tm : Int32) (cr : UInt64) (rg : (Nat → UInt64)) (hg : UInt64) (la : Int32) (op : Int32) (em : Int32) (pr : (Nat → UInt64)) (mi : (Nat → Int32)) (ta : (Nat → Int32)) (ev : (Nat → Int32)) (wo : (Nat → Int64)) (we : (Nat → Int32)) (pl : Int32) (cu : Int32) (tb : Int32) (be : Int32) (es : Int32) (mb : (Nat → Int32)) (mc : Int32) (mr : (Nat → Int32)) (rc : Int32) (k : Int32) {z : Nat} (hz : z < 12) : f_Mod_note_47 k (th, on, tm, cr, rg, hg, la, op, em, pr, mi, ta, ev, nI z, wo, we, pl, cu, tb, be, es, mb, mc, mr, rc) = some (th, on, tm, cr, rg, hg, la, op, em, pr, mi, ta, upd ev z (10000 * k + (tm - tm / 10000 * 10000)), nI (z + 1), wo, we, pl, cu, tb, be, es, mb, mc, mr, rc) := by
  unfold f_Mod_note_47
  simp only [bd_e]
  rw [gi_n hz (by decide), cl_n (by omega), nI_1]
theorem ev_step (th : Int32) (on : Int32) (tm : Int32) (cr : UInt64) (rg : (Nat → UInt64)) (hg : UInt64) (la : Int32) (op : Int32) (em : Int32) (pr : (Nat → UInt64)) (mi : (Nat → Int32)) (ta : (Nat → Int32)) (ev : (Nat → Int32)) (wo : (Nat → Int64)) (we : (Nat → Int32)) (pl : Int32) (cu : Int32) (tb : Int32) (be : Int32) (es : Int32) (mb : (Nat → Int32)) (mc : Int32) (mr : (Nat → Int32)) (rc : Int32) (k : Int32) (n i : Nat) (h : i < 11) : f_Mod_note_11 (n + 1) k (nI i) (th, on, tm, cr, rg, hg, la, op, em, pr, mi, ta, ev, nI 12, wo, we, pl, cu, tb, be, es, mb, mc, mr, rc) = f_Mod_note_11 n k (nI (i + 1)) (th, on, tm, cr, rg, hg, la, op, em, pr, mi, ta, upd ev i (ev (i + 1)), nI 12, wo, we, pl, cu, tb, be, es, mb, mc, mr, rc) := by
  have h1 : ¬ (11 : Int32) ≤ nI i := nI_ge (b := 11) (by omega) (by decide)
  rw [f_Mod_note_11, if_neg h1]
  simp only [bd_e]
  rw [nI_1, gi_n (by omega) (by decide), gi_n (by omega) (by decide), cl_n (by omega), cl_n (by omega)]
theorem x1 : (nI 12 - 1 : Int32) = nI 11 := by decide
theorem x2 : (11 : Int32) ≤ nI 11 := by decide
theorem ev_last (th : Int32) (on : Int32) (tm : Int32) (cr : UInt64) (rg : (Nat → UInt64)) (hg : UInt64) (la : Int32) (op : Int32) (em : Int32) (pr : (Nat → UInt64)) (mi : (Nat → Int32)) (ta : (Nat → Int32)) (ev : (Nat → Int32)) (wo : (Nat → Int64)) (we : (Nat → Int32)) (pl : Int32) (cu : Int32) (tb : Int32) (be : Int32) (es : Int32) (mb : (Nat → Int32)) (mc : Int32) (mr : (Nat → Int32)) (rc : Int32) (k : Int32) (n : Nat) : f_Mod_note_11 (n + 1) k (nI 11) (th, on, tm, cr, rg, hg, la, op, em, pr, mi, ta, ev, nI 12, wo, we, pl, cu, tb, be, es, mb, mc, mr, rc) = f_Mod_note_47 k (th, on, tm, cr, rg, hg, la, op, em, pr, mi, ta, ev, nI 11, wo, we, pl, cu, tb, be, es, mb, mc, mr, rc) := by
  rw [f_Mod_note_11, if_pos x2]
  simp only [bd_e, x1]
theorem ev_loop (th : Int32) (on : Int32) (tm : Int32) (cr : UInt64) (rg : (Nat → UInt64)) (hg : UInt64) (la : Int32) (op : Int32) (em : Int32) (pr : (Nat → UInt64)) (mi : (Nat → Int32)) (ta : (Nat → Int32)) (ev : (Nat → Int32)) (wo : (Nat → Int64)) (we : (Nat → Int32)) (pl : Int32) (cu : Int32) (tb : Int32) (be : Int32) (es : Int32) (mb : (Nat → Int32)) (mc : Int32) (mr : (Nat → Int32)) (rc : Int32) (k : Int32) : ∀ (d i n : Nat) (F : Nat → Int32), d + i = 11 → d < n → (∀ j, F j = if j < i then ev (j + 1) else ev j) →
    f_Mod_note_11 n k (nI i) (th, on, tm, cr, rg, hg, la, op, em, pr, mi, ta, F, nI 12, wo, we, pl, cu, tb, be, es, mb, mc, mr, rc) = f_Mod_note_47 k (th, on, tm, cr, rg, hg, la, op, em, pr, mi, ta, va_cpy ev ev 1 0 11, nI 11, wo, we, pl, cu, tb, be, es, mb, mc, mr, rc) := by
  intro d
  induction d with
  | zero =>
    intro i n F hi hn hF
    obtain ⟨n, rfl⟩ : ∃ m, n = m + 1 := ⟨n - 1, by omega⟩
    obtain rfl : i = 11 := by omega
    have hFe : F = va_cpy ev ev 1 0 11 := by
      funext j
      rw [hF j]
      by_cases h : j < 11
      · rw [if_pos h, pk_cpy_in (by omega) (by omega)]
        congr 1; omega
      · rw [if_neg h, pk_cpy_out (by omega)]
    rw [ev_last, hFe]
  | succ d ih =>
    intro i n F hi hn hF
    obtain ⟨n, rfl⟩ : ∃ m, n = m + 1 := ⟨n - 1, by omega⟩
    rw [ev_step (h := by omega)]
    refine ih (i + 1) n _ (by omega) (by omega) (fun j => ?_)
    by_cases hj : j = i
    · subst hj
      rw [pk_us, if_pos (by omega), hF (j + 1), if_neg (by omega)]
    · rw [pk_un hj, hF j]
      by_cases h2 : j < i
      · rw [if_pos h2, if_pos (by omega)]
      · rw [if_neg h2, if_neg (by omega)]
theorem ev_mod (th : Int32) (on : Int32) (tm : Int32) (cr : UInt64) (rg : (Nat → UInt64)) (hg : UInt64) (la : Int32) (op : Int32) (em : Int32) (pr : (Nat → UInt64)) (mi : (Nat → Int32)) (ta : (Nat → Int32)) (ev : (Nat → Int32)) (wo : (Nat → Int64)) (we : (Nat → Int32)) (pl : Int32) (cu : Int32) (tb : Int32) (be : Int32) (es : Int32) (mb : (Nat → Int32)) (mc : Int32) (mr : (Nat → Int32)) (rc : Int32) (k : Int32) {z : Nat} (hz : z ≤ 12) : f_Mod_note k (th, on, tm, cr, rg, hg, la, op, em, pr, mi, ta, ev, nI z, wo, we, pl, cu, tb, be, es, mb, mc, mr, rc) = some (th, on, tm, cr, rg, hg, la, op, em, pr, mi, ta, evz k tm ev z, nI (evn z), wo, we, pl, cu, tb, be, es, mb, mc, mr, rc) := by
  unfold f_Mod_note evz evn
  by_cases h : z = 12
  · subst h
    have h1 : (nI 12 : Int32) = 12 := by decide
    simp only [h1, if_true]
    rw [← h1, nI_e0, ev_loop th on tm cr rg hg la op em pr mi ta ev wo we pl cu tb be es mb mc mr rc k 11 0 64 ev (by decide) (by decide) (fun j => by rw [if_neg (by omega)]), ev_mod47 (hz := by decide)]
  · have h1 : ¬ nI z = 12 := by
      intro e
      have := (nI_eq (a := z) (b := 12) (by omega) (by decide)).mp e
      exact h this
    simp only [h1, h, if_false]
    rw [ev_mod47 (hz := by omega)]
theorem ev_box (on : Int32) (tm : Int32) (cr : UInt64) (rg : (Nat → UInt64)) (hg : UInt64) (la : Int32) (op : Int32) (em : Int32) (pr : (Nat → UInt64)) (mi : (Nat → Int32)) (ta : (Nat → Int32)) (ev : (Nat → Int32)) (wo : (Nat → Int64)) (we : (Nat → Int32)) (pl : Int32) (cu : Int32) (be : Int32) (es : Int32) (rc : Int32) (dr : Nat → Int64) (bb pa an : Nat → Int32) (le : Int32) (k : Int32) {z : Nat} (hz : z ≤ 12) : f_Box_note k (pr, (mi, ta), (rg, tm, cr, hg, la, op, em), (ev, nI z), (wo, we, dr, pl, cu), (bb, pa, an, le, rc, be, es), on) = some (pr, (mi, ta), (rg, tm, cr, hg, la, op, em), (evz k tm ev z, nI (evn z)), (wo, we, dr, pl, cu), (bb, pa, an, le, rc, be, es), on) := by
  unfold f_Box_note
  simp only [ev_cls k tm ev hz, cv_e]
