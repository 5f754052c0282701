/-! the place of the next saving -/
theorem pl_dec : ∀ p : Fin 12, ((nI (p.val + 1) - nI (p.val + 1) / 3 * 3 = 0) ↔ p.val % 3 = 2) ∧ ((2 ≤ nI p.val - nI (p.val / 3) * 3) ↔ p.val % 3 = 2) ∧ nI p.val / 3 = nI (p.val / 3) := by decide
theorem se_dec : ∀ x : Fin 8, nI x.val - nI x.val / 4 * 4 = nI (x.val % 4) := by decide
theorem se_loop (we : Nat → Int32) (w dr : Nat → Int64) (pl cu : Int32) (u : S_Mod) (hwe : u.2.2.2.2.2.2.2.2.2.2.2.2.2.2.2.1 = we) (s : Nat) (hs : s < 4) :
    ∀ (d k n m : Nat), d + k = 5 → d < n → d < m →
    ∃ r : Int32, f_Flash_sectorBehind_2 n (nI s) (nI k) (w, we, dr, pl, cu) = some (r, (w, we, dr, pl, cu)) ∧
      ((r = -1 ∧ f_Mod_nextPlace_44 m (nI s) (nI k) u = some (-1, u)) ∨ ∃ t : Nat, t < 4 ∧ r = nI t ∧ f_Mod_nextPlace_44 m (nI s) (nI k) u = f_Mod_nextPlace_74 64 (nI t) (nI (18 * t)) u) := by
  intro d
  induction d with
  | zero =>
    intro k n m hk hn hm
    obtain ⟨n, rfl⟩ : ∃ k, n = k + 1 := ⟨n - 1, by omega⟩
    obtain ⟨m, rfl⟩ : ∃ k, m = k + 1 := ⟨m - 1, by omega⟩
    obtain rfl : k = 5 := by omega
    refine ⟨-1, ?_, Or.inl ⟨rfl, ?_⟩⟩
    · rw [f_Flash_sectorBehind_2, if_pos (by decide)]
    · rw [f_Mod_nextPlace_44, if_pos (by decide)]
  | succ d ih =>
    intro k n m hk hn hm
    obtain ⟨n, rfl⟩ : ∃ k, n = k + 1 := ⟨n - 1, by omega⟩
    obtain ⟨m, rfl⟩ : ∃ k, m = k + 1 := ⟨m - 1, by omega⟩
    have h1 : ¬ (4 : Int32) < nI k := nI_nlt (a := 4) (by omega) (by decide)
    have h2 : ¬ (5 : Int32) ≤ nI k := nI_ge (b := 5) (by omega) (by decide)
    have e : nI (s + k) - nI (s + k) / 4 * 4 = nI ((s + k) % 4) := by
      by_cases q : s + k < 8
      · exact se_dec ⟨s + k, q⟩
      · omega
    have ht : (s + k) % 4 < 4 := by omega
    have g (β : Type) (q : Option β) : gi (nI ((s + k) % 4)) 4 q = q := gi_n ht (by decide)
    rw [f_Flash_sectorBehind_2, f_Mod_nextPlace_44, if_neg h1, if_neg h2]
    simp only [bd_e, nI_add, e, g, cl_n (n := (s + k) % 4) (by omega), hwe, nI_1, m18]
    by_cases c : (4 : Int32) ≤ we ((s + k) % 4)
    · have c2 : ¬ we ((s + k) % 4) ≤ 3 := (by simp only [Int32.lt_iff_toInt_lt, Int32.le_iff_toInt_le, ← Int32.toInt_inj, Int32.reduceToInt] at *; omega)
      rw [if_pos c, if_neg c2]
      exact ih (k + 1) n m (by omega) (by omega) (by omega)
    · have c2 : we ((s + k) % 4) ≤ 3 := (by simp only [Int32.lt_iff_toInt_lt, Int32.le_iff_toInt_le, ← Int32.toInt_inj, Int32.reduceToInt] at *; omega)
      rw [if_neg c, if_pos c2]
      exact ⟨nI ((s + k) % 4), rfl, Or.inr ⟨(s + k) % 4, ht, rfl, rfl⟩⟩
theorem er_loop (th : Int32) (on : Int32) (tm : Int32) (cr : UInt64) (rg : (Nat → UInt64)) (hg : UInt64) (la : Int32) (op : Int32) (em : Int32) (pr : (Nat → UInt64)) (mi : (Nat → Int32)) (ta : (Nat → Int32)) (ev : (Nat → Int32)) (ec : Int32) (we : (Nat → Int32)) (pl : Int32) (cu : Int32) (tb : Int32) (be : Int32) (es : Int32) (mb : (Nat → Int32)) (mc : Int32) (mr : (Nat → Int32)) (rc : Int32) (dr : Nat → Int64) (t : Nat) (ht : t < 4) :
    ∀ (d i n m : Nat) (F : Nat → Int64), d + i = 18 * t + 18 → d < n → d < m →
    ∃ W : Nat → Int64, (∀ j, W j = F j ∨ W j = -1) ∧ f_Flash_erase_9 n (nI t) (nI (18 * t)) (nI i) (F, we, dr, pl, cu) = some (W, upd we t (we t + 1), dr, pl, cu) ∧
      f_Mod_nextPlace_74 m (nI t) (nI i) (th, on, tm, cr, rg, hg, la, op, em, pr, mi, ta, ev, ec, F, we, pl, cu, tb, be, es, mb, mc, mr, rc) = some (nI (3 * t), (th, on, tm, cr, rg, hg, la, op, em, pr, mi, ta, ev, ec, W, upd we t (we t + 1), pl, cu, tb, be, es, mb, mc, mr, rc)) := by
  intro d
  have g (β : Type) (q : Option β) : gi (nI t) 4 q = q := gi_n ht (by decide)
  have cl : (nI t).toNatClampNeg = t := cl_n (by omega)
  induction d with
  | zero =>
    intro i n m F hi hn hm
    obtain ⟨n, rfl⟩ : ∃ k, n = k + 1 := ⟨n - 1, by omega⟩
    obtain ⟨m, rfl⟩ : ∃ k, m = k + 1 := ⟨m - 1, by omega⟩
    obtain rfl : i = 18 * t + 18 := by omega
    have hle : nI (18 * t + 18) ≤ nI (18 * t + 18) := nI_le (by omega) (by omega)
    refine ⟨F, fun j => Or.inl rfl, ?_, ?_⟩
    · rw [f_Flash_erase_9]
      simp only [bd_e, nI_18, hle, if_true, g, cl]
    · rw [f_Mod_nextPlace_74]
      simp only [bd_e, m18, nI_18, hle, if_true, g, cl, m3]
  | succ d ih =>
    intro i n m F hi hn hm
    obtain ⟨n, rfl⟩ : ∃ k, n = k + 1 := ⟨n - 1, by omega⟩
    obtain ⟨m, rfl⟩ : ∃ k, m = k + 1 := ⟨m - 1, by omega⟩
    have hle : ¬ nI (18 * t + 18) ≤ nI i := nI_ge (by omega) (by omega)
    have hi72 : i < 72 := by omega
    have g2 (β : Type) (q : Option β) : gi (nI i) 72 q = q := gi_n hi72 (by decide)
    have cl2 : (nI i).toNatClampNeg = i := cl_n (by omega)
    obtain ⟨W, h1, h2, h3⟩ := ih (i + 1) n m (vp_updL F i (-1)) (by omega) (by omega) (by omega)
    refine ⟨W, fun j => ?_, ?_, ?_⟩
    · rcases h1 j with q | q
      · rw [q]
        unfold vp_updL
        split
        · exact Or.inr rfl
        · exact Or.inl rfl
      · exact Or.inr q
    · rw [f_Flash_erase_9]
      simp only [bd_e, nI_18, hle, if_false, g2, cl2, nI_1]
      exact h2
    · rw [f_Mod_nextPlace_74]
      simp only [bd_e, m18, nI_18, hle, if_false, g2, cl2, nI_1]
      exact h3
theorem np (th : Int32) (on : Int32) (tm : Int32) (cr : UInt64) (rg : (Nat → UInt64)) (hg : UInt64) (la : Int32) (op : Int32) (em : Int32) (pr : (Nat → UInt64)) (mi : (Nat → Int32)) (ta : (Nat → Int32)) (ev : (Nat → Int32)) (ec : Int32) (wo : (Nat → Int64)) (we : (Nat → Int32)) (pl : Int32) (cu : Int32) (tb : Int32) (be : Int32) (es : Int32) (mb : (Nat → Int32)) (mc : Int32) (mr : (Nat → Int32)) (rc : Int32) (dr : Nat → Int64) (hpl : pl = -1 ∨ ∃ p : Nat, p < 12 ∧ pl = nI p) :
    ∃ (r : Int32) (W : Nat → Int64) (E : Nat → Int32), (r = -1 ∨ ∃ s : Nat, s < 12 ∧ r = nI s) ∧ (∀ j, W j = wo j ∨ W j = -1) ∧ f_Flash_makePlace (wo, we, dr, pl, cu) = some (r, (W, E, dr, pl, cu)) ∧
      f_Mod_nextPlace (th, on, tm, cr, rg, hg, la, op, em, pr, mi, ta, ev, ec, wo, we, pl, cu, tb, be, es, mb, mc, mr, rc) = some (r, (th, on, tm, cr, rg, hg, la, op, em, pr, mi, ta, ev, ec, W, E, pl, cu, tb, be, es, mb, mc, mr, rc)) := by
  have key : ∀ s : Nat, s < 4 → ∃ (r : Int32) (W : Nat → Int64) (E : Nat → Int32), (r = -1 ∨ ∃ s : Nat, s < 12 ∧ r = nI s) ∧ (∀ j, W j = wo j ∨ W j = -1) ∧ f_Flash_makePlace_45 (nI s) (wo, we, dr, pl, cu) = some (r, (W, E, dr, pl, cu)) ∧
      f_Mod_nextPlace_44 64 (nI s) 1 (th, on, tm, cr, rg, hg, la, op, em, pr, mi, ta, ev, ec, wo, we, pl, cu, tb, be, es, mb, mc, mr, rc) = some (r, (th, on, tm, cr, rg, hg, la, op, em, pr, mi, ta, ev, ec, W, E, pl, cu, tb, be, es, mb, mc, mr, rc)) := by
    intro s hs
    obtain ⟨r, h1, h2⟩ := se_loop we wo dr pl cu (th, on, tm, cr, rg, hg, la, op, em, pr, mi, ta, ev, ec, wo, we, pl, cu, tb, be, es, mb, mc, mr, rc) rfl s hs 4 1 64 64 (by omega) (by omega) (by omega)
    rw [← nI_e1] at h1 h2
    unfold f_Flash_makePlace_45 f_Flash_sectorBehind
    rw [h1]
    rcases h2 with ⟨rfl, h2⟩ | ⟨t, ht, rfl, h2⟩
    · refine ⟨-1, wo, we, Or.inl rfl, fun j => Or.inl rfl, ?_, h2⟩
      rw [ca_e, if_pos rfl]
    · obtain ⟨W, q1, q2, q3⟩ := er_loop th on tm cr rg hg la op em pr mi ta ev ec we pl cu tb be es mb mc mr rc dr t ht 18 (18 * t) 64 64 wo (by omega) (by omega) (by omega)
      refine ⟨nI (3 * t), W, upd we t (we t + 1), Or.inr ⟨3 * t, by omega, rfl⟩, q1, ?_, h2.trans q3⟩
      rw [ca_e, if_neg (nI_nm1 (by omega))]
      unfold f_Flash_erase
      simp only [bd_e, m3', m6']
      rw [show 6 * (3 * t) = 18 * t from by omega, q2, cv_e]
  unfold f_Flash_makePlace f_Mod_nextPlace f_Flash_makePlace_26 f_Mod_nextPlace_24
  rcases hpl with rfl | ⟨p, hp, rfl⟩
  · simp only [if_true, km0, km1, if_false, ↓reduceIte]
    exact key 3 (by decide)
  · have d := pl_dec ⟨p, hp⟩
    simp only at d
    have q1 := nI_nm1 (j := p) (by omega)
    have q2 : ¬ nI p < 0 := nI_pos (by omega)
    have q3 : 0 ≤ nI p := nI_pos' (by omega)
    simp only [q1, q2, q3, if_false, if_true, bd_e, nI_1, d.1, d.2.1, d.2.2]
    by_cases c : p % 3 = 2
    · simp only [c, if_true]
      exact key (p / 3) (by omega)
    · simp only [c, if_false]
      exact ⟨nI (p + 1), wo, we, Or.inr ⟨p + 1, by omega, rfl⟩, fun j => Or.inl rfl, rfl, rfl⟩
