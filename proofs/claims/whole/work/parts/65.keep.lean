/-! saving -/
abbrev kM : UInt64 := 4652007308841189376
/-- the words of a saving -/
def kw (cr : UInt64) (tm op em la : Int32) (rg : Nat → UInt64) (f : Int64) : Nat → Int64
  | 0 => f
  | 1 => FP.d2l (FP.dmul cr 4652007308841189376) + 1000000000000 * (tm.toInt64 * 4 + (if op = 0 then (0 : Int32) else 1).toInt64 + (if em = 0 then (0 : Int32) else 2).toInt64)
  | 2 => FP.d2l (FP.dmul (rg 0) 4652007308841189376)
  | 3 => FP.d2l (FP.dmul (rg 1) 4652007308841189376)
  | _ => FP.d2l (FP.dmul (rg 2) 4652007308841189376) + 1000000000 * la.toInt64
theorem NNk {a : UInt64} (h : NN a) : NN (FP.dmul a 4652007308841189376) := NN_mul h fz_1000
theorem th_ok {a : UInt64} (h : NN a) : f_Box_thousandths a () = some (FP.d2l (FP.dmul a 4652007308841189376), ()) := by
  unfold f_Box_thousandths
  simp only [bd_e]
  rw [gn_ok (NNk h)]
theorem cl0 : (0 : Int32).toNatClampNeg = 0 := by decide
theorem cl1 : (1 : Int32).toNatClampNeg = 1 := by decide
theorem cl2 : (2 : Int32).toNatClampNeg = 2 := by decide
theorem cl3 : (3 : Int32).toNatClampNeg = 3 := by decide
theorem cl4 : (4 : Int32).toNatClampNeg = 4 := by decide
theorem cl5 : (5 : Int32).toNatClampNeg = 5 := by decide
theorem cl6 : (6 : Int32).toNatClampNeg = 6 := by decide
theorem g06 {β : Type} {k : Option β} : gi 0 6 k = k := by unfold gi; rw [if_neg (by decide)]
theorem g16 {β : Type} {k : Option β} : gi 1 6 k = k := by unfold gi; rw [if_neg (by decide)]
theorem g26 {β : Type} {k : Option β} : gi 2 6 k = k := by unfold gi; rw [if_neg (by decide)]
theorem g36 {β : Type} {k : Option β} : gi 3 6 k = k := by unfold gi; rw [if_neg (by decide)]
theorem g46 {β : Type} {k : Option β} : gi 4 6 k = k := by unfold gi; rw [if_neg (by decide)]
theorem g56 {β : Type} {k : Option β} : gi 5 6 k = k := by unfold gi; rw [if_neg (by decide)]
theorem g03 {β : Type} {k : Option β} : gi 0 3 k = k := by unfold gi; rw [if_neg (by decide)]
theorem g13 {β : Type} {k : Option β} : gi 1 3 k = k := by unfold gi; rw [if_neg (by decide)]
theorem g23 {β : Type} {k : Option β} : gi 2 3 k = k := by unfold gi; rw [if_neg (by decide)]
theorem pk_box (rg : Nat → UInt64) (tm : Int32) (cr hg : UInt64) (la op em : Int32) (dr : Nat → Int64) (f : Int64) (h0 : NN cr) (h1 : NN (rg 0)) (h2 : NN (rg 1)) (h3 : NN (rg 2)) :
    f_State_packInto 6 ((rg, tm, cr, hg, la, op, em), dr) = some ((rg, tm, cr, hg, la, op, em), vp_updL (vp_updL (vp_updL (vp_updL dr 1 (kw cr tm op em la rg f 1)) 2 (kw cr tm op em la rg f 2)) 3 (kw cr tm op em la rg f 3)) 4 (kw cr tm op em la rg f 4)) := by
  unfold f_State_packInto f_State_packInto_21 f_State_packInto_35
  simp only [bd_e, th_ok h0, ca_e, cl0, cl1, cl2, cl3, cl4, g16, g26, g36, g46, g03, g13, g23, th_ok h1, th_ok h2, th_ok h3, kw]
  by_cases c1 : op = 0 <;> by_cases c2 : em = 0 <;> simp only [c1, c2, if_true, if_false]
/-- the draft -/
def dft (cr : UInt64) (tm op em la : Int32) (rg : Nat → UInt64) (f : Int64) (dr : Nat → Int64) : Nat → Int64 :=
  vp_updL (vp_updL (vp_updL (vp_updL (vp_updL (vp_updL dr 1 (kw cr tm op em la rg f 1)) 2 (kw cr tm op em la rg f 2)) 3 (kw cr tm op em la rg f 3)) 4 (kw cr tm op em la rg f 4)) 0 f) 5
    (sm (vp_updL (vp_updL (vp_updL (vp_updL (vp_updL dr 1 (kw cr tm op em la rg f 1)) 2 (kw cr tm op em la rg f 2)) 3 (kw cr tm op em la rg f 3)) 4 (kw cr tm op em la rg f 4)) 0 f) 0)
theorem dft_k (cr : UInt64) (tm op em la : Int32) (rg : Nat → UInt64) (f : Int64) (dr : Nat → Int64) : ∀ k, k < 5 → dft cr tm op em la rg f dr k = kw cr tm op em la rg f k := by
  intro k hk
  have : k = 0 ∨ k = 1 ∨ k = 2 ∨ k = 3 ∨ k = 4 := by omega
  rcases this with rfl | rfl | rfl | rfl | rfl
  · rfl
  · rfl
  · rfl
  · rfl
  · rfl
theorem dft_5 (cr : UInt64) (tm op em la : Int32) (rg : Nat → UInt64) (f : Int64) (dr : Nat → Int64) : dft cr tm op em la rg f dr 5 = sm (dft cr tm op em la rg f dr) 0 := by
  unfold dft
  rw [pk_uLs, sm, sm]
  rfl
theorem sm_cpy (D W : Nat → Int64) (a : Nat) : sm (va_cpy D W 0 a 5) a = sm D 0 := by
  unfold sm
  rw [pk_cpy_in (by omega) (by omega), pk_cpy_in (by omega) (by omega), pk_cpy_in (by omega) (by omega), pk_cpy_in (by omega) (by omega), pk_cpy_in (by omega) (by omega)]
  rw [show 0 + (a - a) = 0 from by omega, show 0 + (a + 1 - a) = 0 + 1 from by omega, show 0 + (a + 2 - a) = 0 + 2 from by omega, show 0 + (a + 3 - a) = 0 + 3 from by omega, show 0 + (a + 4 - a) = 0 + 4 from by omega]
theorem cpy_step (D W : Nat → Int64) (a k : Nat) : vp_updL (va_cpy D W 0 a k) (a + k) (D k) = va_cpy D W 0 a (k + 1) := by
  funext j
  by_cases h : j = a + k
  · subst h
    rw [pk_uLs, pk_cpy_in (by omega) (by omega)]
    congr 1; omega
  · rw [pk_uLn h]
    by_cases h2 : a ≤ j ∧ j < a + k
    · rw [pk_cpy_in h2.1 h2.2, pk_cpy_in h2.1 (by omega)]
    · rw [pk_cpy_out (by omega), pk_cpy_out (by omega)]
theorem cpy_0 (D W : Nat → Int64) (a : Nat) : va_cpy D W 0 a 0 = W := by
  funext j
  rw [pk_cpy_out (by omega)]
theorem wd_mod (th : Int32) (on : Int32) (tm : Int32) (cr : UInt64) (rg : (Nat → UInt64)) (hg : UInt64) (la : Int32) (op : Int32) (em : Int32) (pr : (Nat → UInt64)) (mi : (Nat → Int32)) (ta : (Nat → Int32)) (ev : (Nat → Int32)) (ec : Int32) (wo : (Nat → Int64)) (we : (Nat → Int32)) (pl : Int32) (cu : Int32) (tb : Int32) (be : Int32) (es : Int32) (mb : (Nat → Int32)) (mc : Int32) (mr : (Nat → Int32)) (rc : Int32) (f : Int64) (h0 : NN cr) (h1 : NN (rg 0)) (h2 : NN (rg 1)) (h3 : NN (rg 2)) (k : Nat) (hk : k < 5) : f_Mod_word (nI k) f (th, on, tm, cr, rg, hg, la, op, em, pr, mi, ta, ev, ec, wo, we, pl, cu, tb, be, es, mb, mc, mr, rc) = some (kw cr tm op em la rg f k, (th, on, tm, cr, rg, hg, la, op, em, pr, mi, ta, ev, ec, wo, we, pl, cu, tb, be, es, mb, mc, mr, rc)) := by
  have : k = 0 ∨ k = 1 ∨ k = 2 ∨ k = 3 ∨ k = 4 := by omega
  unfold f_Mod_word f_Mod_word_67
  rcases this with rfl | rfl | rfl | rfl | rfl
  · rw [if_pos (by decide), kw]
  · rw [if_neg (by decide), if_pos (by decide)]
    simp only [bd_e, gn_ok (NNk h0), kw]
    by_cases c1 : op = 0 <;> by_cases c2 : em = 0 <;> simp only [c1, c2, if_true, if_false]
  · rw [if_neg (by decide), if_neg (by decide), if_pos (by decide)]
    simp only [bd_e, show nI 2 - 2 = 0 from by decide, g03, cl0, gn_ok (NNk h1), kw]
  · rw [if_neg (by decide), if_neg (by decide), if_neg (by decide), if_pos (by decide)]
    simp only [bd_e, show nI 3 - 2 = 1 from by decide, g13, cl1, gn_ok (NNk h2), kw]
  · rw [if_neg (by decide), if_neg (by decide), if_neg (by decide), if_neg (by decide)]
    simp only [bd_e, g23, cl2, gn_ok (NNk h3), kw]
theorem sv_loop (th : Int32) (on : Int32) (tm : Int32) (cr : UInt64) (rg : (Nat → UInt64)) (hg : UInt64) (la : Int32) (op : Int32) (em : Int32) (pr : (Nat → UInt64)) (mi : (Nat → Int32)) (ta : (Nat → Int32)) (ev : (Nat → Int32)) (ec : Int32) (we : (Nat → Int32)) (pl : Int32) (cu : Int32) (tb : Int32) (be : Int32) (es : Int32) (mb : (Nat → Int32)) (mc : Int32) (mr : (Nat → Int32)) (rc : Int32) (W dr : Nat → Int64) (f : Int64) (h0 : NN cr) (h1 : NN (rg 0)) (h2 : NN (rg 1)) (h3 : NN (rg 2)) (s : Nat) (hs : s < 12) :
    ∀ (d k n : Nat), d + k = 6 → d < n →
    (cu = -1 → f_Mod_saved_64 n f (nI (6 * s)) (nI k) (th, on, tm, cr, rg, hg, la, op, em, pr, mi, ta, ev, ec, va_cpy (dft cr tm op em la rg f dr) W 0 (6 * s) k, we, pl, cu, tb, be, es, mb, mc, mr, rc) = some (f, (th, on, tm, cr, rg, hg, la, op, em, pr, mi, ta, ev, ec, va_cpy (dft cr tm op em la rg f dr) W 0 (6 * s) 6, we, pl, cu, tb, be, es, mb, mc, mr, rc))) ∧
    (∀ c : Nat, k ≤ c → c < 6 → cu = nI c → f_Mod_saved_64 n f (nI (6 * s)) (nI k) (th, on, tm, cr, rg, hg, la, op, em, pr, mi, ta, ev, ec, va_cpy (dft cr tm op em la rg f dr) W 0 (6 * s) k, we, pl, cu, tb, be, es, mb, mc, mr, rc) = some (0, (th, 0, tm, cr, rg, hg, la, op, em, pr, mi, ta, ev, ec, va_cpy (dft cr tm op em la rg f dr) W 0 (6 * s) c, we, pl, -1, 2, be, es, mb, mc, mr, rc))) := by
  intro d
  generalize hD : dft cr tm op em la rg f dr = D
  have hk : ∀ k, k < 5 → D k = kw cr tm op em la rg f k := by subst hD; exact dft_k cr tm op em la rg f dr
  have h5 : D 5 = sm D 0 := by subst hD; exact dft_5 cr tm op em la rg f dr
  induction d with
  | zero =>
    intro k n hk hn
    obtain ⟨n, rfl⟩ : ∃ k, n = k + 1 := ⟨n - 1, by omega⟩
    obtain rfl : k = 6 := by omega
    constructor
    · intro _
      rw [f_Mod_saved_64, if_pos (by decide)]
    · intro c h1 h2
      omega
  | succ d ih =>
    intro k n hk6 hn
    obtain ⟨n, rfl⟩ : ∃ k, n = k + 1 := ⟨n - 1, by omega⟩
    have hle : ¬ (6 : Int32) ≤ nI k := nI_ge (b := 6) (by omega) (by decide)
    have g (β : Type) (q : Option β) : gi (nI (6 * s + k)) 72 q = q := gi_n (by omega) (by decide)
    have cl : (nI (6 * s + k)).toNatClampNeg = 6 * s + k := cl_n (by omega)
    have step : cu ≠ nI k → f_Mod_saved_64 (n + 1) f (nI (6 * s)) (nI k) (th, on, tm, cr, rg, hg, la, op, em, pr, mi, ta, ev, ec, va_cpy D W 0 (6 * s) k, we, pl, cu, tb, be, es, mb, mc, mr, rc) = f_Mod_saved_64 n f (nI (6 * s)) (nI (k + 1)) (th, on, tm, cr, rg, hg, la, op, em, pr, mi, ta, ev, ec, va_cpy D W 0 (6 * s) (k + 1), we, pl, cu, tb, be, es, mb, mc, mr, rc) := by
      intro hc
      rw [f_Mod_saved_64, if_neg hle]
      simp only [hc, if_false, bd_e, nI_add, nI_1]
      by_cases c5 : k = 5
      · subst c5
        rw [if_pos (by decide), sm_mod (a := 6 * s) _ (va_cpy D W 0 (6 * s) 5) rfl (by omega)]
        simp only [ca_e, g, cl]
        rw [sm_cpy, ← h5, cpy_step]
      · have hle5 : ¬ (5 : Int32) ≤ nI k := nI_ge (b := 5) (by omega) (by decide)
        rw [if_neg hle5, wd_mod (h0 := h0) (h1 := h1) (h2 := h2) (h3 := h3) (hk := by omega)]
        simp only [ca_e, g, cl]
        rw [← hk k (by omega), cpy_step]
    constructor
    · intro hc
      rw [step (by rw [hc]; exact fun e => nI_nm1 (j := k) (by omega) e.symm)]
      exact (ih (k + 1) n (by omega) (by omega)).1 hc
    · intro c hc1 hc2 hc
      by_cases q : c = k
      · subst q
        rw [f_Mod_saved_64, if_neg hle]
        simp only [hc, if_true]
      · rw [step (by rw [hc]; exact fun e => q ((nI_eq (by omega) (by omega)).mp e))]
        exact (ih (k + 1) n (by omega) (by omega)).2 c (by omega) hc2 hc
