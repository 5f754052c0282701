/-! keep and saved -/
def WI (N B : Int) (w : Nat → Int64) : Prop := ∀ s : Nat, s < 12 → (w (6 * s)).toInt ≤ N ∧ -B ≤ (w (6 * s + 4)).toInt ∧ (w (6 * s + 4)).toInt ≤ B
theorem WI_sub {N B : Int} {w W : Nat → Int64} (hN : 0 ≤ N) (hB : 1 ≤ B) (h : WI N B w) (hW : ∀ j, W j = w j ∨ W j = -1) : WI N B W := by
  intro s hs
  obtain ⟨a, b, c⟩ := h s hs
  have m : (-1 : Int64).toInt = -1 := by decide
  refine ⟨?_, ?_, ?_⟩
  · rcases hW (6 * s) with q | q <;> rw [q]
    · exact a
    · rw [m]; omega
  · rcases hW (6 * s + 4) with q | q <;> rw [q]
    · exact b
    · rw [m]; omega
  · rcases hW (6 * s + 4) with q | q <;> rw [q]
    · exact c
    · rw [m]; omega
theorem WI_cpy {N B : Int} {W D : Nat → Int64} (h : WI N B W) (s c : Nat) (hc : c ≤ 6) (h0 : (D 0).toInt ≤ N) (h4 : -B ≤ (D 4).toInt ∧ (D 4).toInt ≤ B) : WI N B (va_cpy D W 0 (6 * s) c) := by
  intro t ht
  obtain ⟨a, b, d⟩ := h t ht
  by_cases q : t = s
  · subst q
    refine ⟨?_, ?_⟩
    · by_cases z : 0 < c
      · rw [pk_cpy_in (by omega) (by omega), show 0 + (6 * t - 6 * t) = 0 from by omega]; exact h0
      · rw [pk_cpy_out (by omega)]; exact a
    · by_cases z : 4 < c
      · rw [pk_cpy_in (by omega) (by omega), show 0 + (6 * t + 4 - 6 * t) = 4 from by omega]; exact h4
      · rw [pk_cpy_out (by omega)]; exact ⟨b, d⟩
  · rw [pk_cpy_out (by omega), pk_cpy_out (by omega)]
    exact ⟨a, b, d⟩
theorem WI_mono {N N' B B' : Int} {w : Nat → Int64} (h : WI N B w) (hN : N ≤ N') (hB : B ≤ B') : WI N' B' w := by
  intro s hs
  obtain ⟨a, b, c⟩ := h s hs
  exact ⟨by omega, by omega, by omega⟩
theorem gd_pos {w : Nat → Int64} {s : Nat} (h : gd w s) : 0 < (w (6 * s)).toInt := by
  have h1 := h.1
  unfold lg_cmp at h1
  by_cases c : w (6 * s) > 0
  · exact Int64.lt_iff_toInt_lt.mp c
  · rw [if_neg c] at h1
    exfalso
    apply h1
    split <;> decide
theorem cpy_e (D W : Nat → Int64) (s c : Nat) (hs : s < 12) (hc : c ≤ 6) (v : Int32) (hv : v = 0 ∨ v = 1) (pl cu : Int32) (we : Nat → Int32) :
    f_Flash_write_63 (nI s) v 0 (nI (6 * s)) (nI c) (W, we, D, pl, cu) = some (v, (va_cpy D W 0 (6 * s) c, we, D, nI s, -1)) := by
  unfold f_Flash_write_63 gc
  simp only [cl0, cl_n (n := 6 * s) (by omega), cl_n (n := c) (by omega)]
  rw [if_neg, bd_e, gb_ok hv]
  have h1 : ¬ nI (6 * s) < 0 := nI_pos (by omega)
  have h2 : ¬ nI c < 0 := nI_pos (by omega)
  rintro (h | h | h | h | h)
  · exact absurd h (by decide)
  · exact h1 h
  · exact h2 h
  · omega
  · omega
theorem keep (th : Int32) (on : Int32) (tm : Int32) (cr : UInt64) (rg : (Nat → UInt64)) (hg : UInt64) (la : Int32) (op : Int32) (em : Int32) (pr : (Nat → UInt64)) (mi : (Nat → Int32)) (ta : (Nat → Int32)) (ev : (Nat → Int32)) (ec : Int32) (wo : (Nat → Int64)) (we : (Nat → Int32)) (pl : Int32) (cu : Int32) (tb : Int32) (be : Int32) (es : Int32) (mb : (Nat → Int32)) (mc : Int32) (mr : (Nat → Int32)) (rc : Int32) (dr : Nat → Int64) (bb pa an : Nat → Int32) (le : Int32) (hpl : pl = -1 ∨ ∃ p : Nat, p < 12 ∧ pl = nI p) (hcu : cu = -1 ∨ ∃ p : Nat, p < 6 ∧ cu = nI p)
    (h0 : NN cr) (h1 : NN (rg 0)) (h2 : NN (rg 1)) (h3 : NN (rg 2)) {N B : Int} (hN : 0 ≤ N) (hN2 : N < 2 ^ 30) (hB : 1 ≤ B) (hW : WI N B wo)
    (h4 : -B ≤ (kw cr tm op em la rg 0 4).toInt ∧ (kw cr tm op em la rg 0 4).toInt ≤ B) :
    ∃ (W : Nat → Int64) (E : Nat → Int32) (D : Nat → Int64) (pl' cu' on' t rc' : Int32) (rm : Int64),
      f_Box_keep (pr, (mi, ta), (rg, tm, cr, hg, la, op, em), (ev, ec), (wo, we, dr, pl, cu), (bb, pa, an, le, rc, be, es), on) = some (rc', (pr, (mi, ta), (rg, tm, cr, hg, la, op, em), (ev, ec), (W, E, D, pl', cu'), (bb, pa, an, le, rc, be, es), on')) ∧
      f_Mod_saved (th, on, tm, cr, rg, hg, la, op, em, pr, mi, ta, ev, ec, wo, we, pl, cu, tb, be, es, mb, mc, mr, rc) = some (rm, (th, on', tm, cr, rg, hg, la, op, em, pr, mi, ta, ev, ec, W, E, pl', cu', t, be, es, mb, mc, mr, rc)) ∧
      (pl' = -1 ∨ ∃ p : Nat, p < 12 ∧ pl' = nI p) ∧ (cu' = -1 ∨ ∃ p : Nat, p < 6 ∧ cu' = nI p) ∧ WI (N + 1) B W ∧
      ((rc' = 0 ∧ t = 1 ∧ on' = on) ∨ (rc' = -1 ∧ t = 2 ∧ on' = 0) ∨ (rc' = rm.toInt32 ∧ t = 0 ∧ on' = on ∧ 0 < rc'.toInt)) := by
  obtain ⟨b, hb, e1, e2⟩ := nw wo we dr pl cu (th, on, tm, cr, rg, hg, la, op, em, pr, mi, ta, ev, ec, wo, we, pl, cu, 0, be, es, mb, mc, mr, rc) rfl
  obtain ⟨r, W, E, hr, hWW, e3, e4⟩ := np th on tm cr rg hg la op em pr mi ta ev ec wo we pl cu 0 be es mb mc mr rc dr hpl
  have hf : ∃ f : Int64, (0 < f.toInt ∧ f.toInt ≤ N + 1) ∧ f_Flash_nextNumber (wo, we, dr, pl, cu) = some (f, (wo, we, dr, pl, cu)) ∧ f_Mod_saved (th, on, tm, cr, rg, hg, la, op, em, pr, mi, ta, ev, ec, wo, we, pl, cu, tb, be, es, mb, mc, mr, rc) = f_Mod_saved_29 f (th, on, tm, cr, rg, hg, la, op, em, pr, mi, ta, ev, ec, wo, we, pl, cu, 0, be, es, mb, mc, mr, rc) := by
    unfold f_Flash_nextNumber f_Mod_saved
    rw [e1]
    simp only [e2, ca_e, bd_e]
    rcases hb with rfl | ⟨j, hj, rfl, gj⟩
    · refine ⟨1, ⟨by decide, ?_⟩, ?_, ?_⟩
      · have : (1 : Int64).toInt = 1 := by decide
        omega
      · rw [if_pos rfl]
      · rw [if_neg (by decide)]
    · have q1 := gd_pos gj
      have q2 := (hW j hj).1
      refine ⟨wo (6 * j) + 1, ?_, ?_, ?_⟩
      · have one : (1 : Int64).toInt = 1 := by decide
        have e : (wo (6 * j) + 1).toInt = (wo (6 * j)).toInt + (1 : Int64).toInt := FP.Core.int64_add (by omega) (by omega)
        omega
      · rw [if_neg (nI_nm1 (by omega)), wa_cls0 hj, ca_e]
      · rw [if_pos (nI_pos' (by omega)), m6, gi_n (by omega) (by decide), cl_n (by omega)]
  obtain ⟨f, hf1, hf2, hf3⟩ := hf
  have hWI : WI (N + 1) B W := WI_mono (WI_sub hN hB hW hWW) (by omega) (by omega)
  rw [hf3]
  unfold f_Box_keep f_Mod_saved_29
  simp only [hf2, e3, e4, ca_e, bd_e]
  rcases hr with rfl | ⟨s, hs, rfl⟩
  · refine ⟨W, E, dr, pl, cu, on, 1, 0, 0, ?_, ?_, hpl, hcu, hWI, Or.inl ⟨rfl, rfl, rfl⟩⟩
    · rw [if_pos rfl]
    · rw [if_neg (by decide)]
  · have hg0 : 0 ≤ nI s := nI_pos' (by omega)
    simp only [nI_nm1 (j := s) (by omega), hg0, if_false, if_true, m6]
    have pk := pk_box rg tm cr hg la op em dr f h0 h1 h2 h3
    have sl := fun d k n a b => sv_loop th on tm cr rg hg la op em pr mi ta ev ec E (nI s) cu 0 be es mb mc mr rc W dr f h0 h1 h2 h3 s hs d k n a b
    have sl6 := sl 6 0 64 (by omega) (by omega)
    rw [cpy_0, nI_0] at sl6
    have hdf : ∀ v, f_Flash_write (nI s) f (W, E, v, pl, cu) = (if cu = -1 then f_Flash_write_34 (nI s) 1 (W, E, vp_updL (vp_updL v 0 f) 5 (sm (vp_updL v 0 f) 0), pl, cu) else f_Flash_write_34 (nI s) 0 (W, E, vp_updL (vp_updL v 0 f) 5 (sm (vp_updL v 0 f) 0), pl, cu)) := by
      intro v
      unfold f_Flash_write
      have := sm_cls (n0 := 6) (a := 0) (vp_updL v 0 f) (by decide) (by decide)
      rw [nI_0] at this
      simp only [bd_e, g06, g56, cl0, cl5, this, ca_e]
    simp only [pk, cv_e, hdf]
    have hd0 : dft cr tm op em la rg f dr 0 = f := dft_k cr tm op em la rg f dr 0 (by decide)
    have hd4 : dft cr tm op em la rg f dr 4 = kw cr tm op em la rg 0 4 := dft_k cr tm op em la rg f dr 4 (by decide)
    have hWc : ∀ c, c ≤ 6 → WI (N + 1) B (va_cpy (dft cr tm op em la rg f dr) W 0 (6 * s) c) := fun c hc => WI_cpy hWI s c hc (by rw [hd0]; exact hf1.2) (by rw [hd4]; exact h4)
    rcases hcu with rfl | ⟨c, hc, rfl⟩
    · refine ⟨va_cpy (dft cr tm op em la rg f dr) W 0 (6 * s) 6, E, dft cr tm op em la rg f dr, nI s, -1, on, 0, f.toInt32, f, ?_, sl6.1 rfl, Or.inr ⟨s, hs, rfl⟩, Or.inl rfl, hWc 6 (by omega), Or.inr (Or.inr ⟨rfl, rfl, rfl, ?_⟩)⟩
      · unfold f_Flash_write_34
        simp only [if_true, bd_e, m6', k10, if_false]
        have := cpy_e (dft cr tm op em la rg f dr) W s 6 hs (by omega) 1 (Or.inr rfl) pl (-1) E
        rw [show nI 6 = 6 from by decide] at this
        unfold dft at this ⊢
        simp only [this, ca_e, k10, if_false]
      · rw [FP.Core.int64_toInt32 (by omega) (by omega)]
        omega
    · have q := nI_nm1 (j := c) (by omega)
      refine ⟨va_cpy (dft cr tm op em la rg f dr) W 0 (6 * s) c, E, dft cr tm op em la rg f dr, nI s, -1, 0, 2, -1, 0, ?_, sl6.2 c (by omega) hc rfl, Or.inr ⟨s, hs, rfl⟩, Or.inl rfl, hWc c (by omega), Or.inr (Or.inl ⟨rfl, rfl, rfl⟩)⟩
      unfold f_Flash_write_34
      simp only [q, if_false, bd_e, m6', if_true]
      have := cpy_e (dft cr tm op em la rg f dr) W s c hs (by omega) 0 (Or.inl rfl) pl (nI c) E
      unfold dft at this ⊢
      simp only [this, ca_e, if_true]
