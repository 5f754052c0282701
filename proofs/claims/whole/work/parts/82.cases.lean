/-! the law's cases -/
theorem xne {a b : String} (h : (a == b) = false) : ¬ a = b := fun e => by rw [e, beq_self_eq_true] at h; cases h
theorem law_int {n : Nat} {cd : String → Int32 → Prop} {c : Option (Except (String × S_Box) (Int32 × S_Box))} {m : Option (Int32 × S_Mod)} {kx : String → S_Box → Option (Int32 × (S_Box × (Nat → Int64)))} {o : Nat → Int64} (h : Agree n cd c m)
    (hk : ∀ E k w, cd E k → kx E w = some (k, (w, o)) ∧ ¬ k = 0) :
    ∃ (r k : Int32) (b : S_Box) (M : S_Mod) (o' : Nat → Int64), cx c kx (fun r1 w2 => bd (r1.toInt64) (fun x3 : Int64 => gi (0 : Int32) 1 (bd (vp_updL o (0 : Int32).toNatClampNeg x3) (fun F5 : Nat → Int64 => some ((0 : Int32), (w2, F5)))))) = some (k, (b, o')) ∧
      m = some (r, M) ∧ Inv n b M ∧ M.1 = k ∧ (k = 0 → o' 0 = r.toInt64) := by
  obtain ⟨r, b, M, h1, h2, h3⟩ := h
  rcases h3 with ⟨h3, h4⟩ | ⟨E, k, h3, h4, h5⟩
  · refine ⟨r, 0, b, M, vp_updL o 0 r.toInt64, ?_, h1, h2, h4, fun _ => pk_uLs⟩
    have g (β : Type) (k : Option β) : gi 0 1 k = k := gi_n (i := 0) (by decide) (by decide)
    rw [h3, cx_e, bd_e, g, bd_e, cl0]
  · obtain ⟨q1, q2⟩ := hk E k b h5
    refine ⟨r, k, b, M, o, ?_, h1, h2, h4, fun e => absurd e q2⟩
    rw [h3, cx_x, q1]
theorem law_lng {n : Nat} {cd : String → Int32 → Prop} {c : Option (Except (String × S_Box) (Int64 × S_Box))} {m : Option (Int64 × S_Mod)} {kx : String → S_Box → Option (Int32 × (S_Box × (Nat → Int64)))} {o : Nat → Int64} (h : Agree n cd c m)
    (hk : ∀ E k w, cd E k → kx E w = some (k, (w, o)) ∧ ¬ k = 0) :
    ∃ (r : Int64) (k : Int32) (b : S_Box) (M : S_Mod) (o' : Nat → Int64), cx c kx (fun r1 w2 => gi (0 : Int32) 1 (bd (vp_updL o (0 : Int32).toNatClampNeg r1) (fun F5 : Nat → Int64 => some ((0 : Int32), (w2, F5))))) = some (k, (b, o')) ∧
      m = some (r, M) ∧ Inv n b M ∧ M.1 = k ∧ (k = 0 → o' 0 = r) := by
  obtain ⟨r, b, M, h1, h2, h3⟩ := h
  rcases h3 with ⟨h3, h4⟩ | ⟨E, k, h3, h4, h5⟩
  · refine ⟨r, 0, b, M, vp_updL o 0 r, ?_, h1, h2, h4, fun _ => pk_uLs⟩
    have g (β : Type) (k : Option β) : gi 0 1 k = k := gi_n (i := 0) (by decide) (by decide)
    rw [h3, cx_e, g, bd_e, cl0]
  · obtain ⟨q1, q2⟩ := hk E k b h5
    refine ⟨r, k, b, M, o, ?_, h1, h2, h4, fun e => absurd e q2⟩
    rw [h3, cx_x, q1]
theorem law_dbl {n : Nat} {cd : String → Int32 → Prop} {c : Option (Except (String × S_Box) (UInt64 × S_Box))} {m : Option (UInt64 × S_Mod)} {kx : String → S_Box → Option (Int32 × (S_Box × (Nat → UInt64)))} {o : Nat → UInt64} (h : Agree n cd c m)
    (hk : ∀ E k w, cd E k → kx E w = some (k, (w, o)) ∧ ¬ k = 0) :
    ∃ (r : UInt64) (k : Int32) (b : S_Box) (M : S_Mod) (o' : Nat → UInt64), cx c kx (fun r1 w2 => gi (0 : Int32) 1 (bd (vf_upd o (0 : Int32).toNatClampNeg r1) (fun F5 : Nat → UInt64 => some ((0 : Int32), (w2, F5))))) = some (k, (b, o')) ∧
      m = some (r, M) ∧ Inv n b M ∧ M.1 = k ∧ (k = 0 → o' 0 = r) := by
  obtain ⟨r, b, M, h1, h2, h3⟩ := h
  rcases h3 with ⟨h3, h4⟩ | ⟨E, k, h3, h4, h5⟩
  · refine ⟨r, 0, b, M, vf_upd o 0 r, ?_, h1, h2, h4, fun _ => vfs⟩
    have g (β : Type) (k : Option β) : gi 0 1 k = k := gi_n (i := 0) (by decide) (by decide)
    rw [h3, cx_e, g, bd_e, cl0]
  · obtain ⟨q1, q2⟩ := hk E k b h5
    refine ⟨r, k, b, M, o, ?_, h1, h2, h4, fun e => absurd e q2⟩
    rw [h3, cx_x, q1]
theorem nn8 (x : Int32) : NN (FP.dmul (FP.i2d x) 4593671619917905920) := by
  have := FP.Core.dmul_mag (a := FP.i2d x) (b := 4593671619917905920) (Ka := 1056) (Kb := 1021) (FP.Core.i2d_mag x) (by decide +kernel) (by decide) (by decide)
  exact FN.nn (FN_mag this (by decide))
theorem ca_plan (xs : Nat → Int32) (L : Nat) (hL : L ≤ 2560) (R : Int32 → (S_Box × S_Mod × (Nat → Int64) × (Nat → UInt64)) → Option Int32) (n i : Nat) (hi : i + 4 < L) (hn : n < 512) (b : S_Box) (u : S_Mod) (o : Nat → Int64) (d : Nat → UInt64) (h : Inv n b u) :
    ∃ b' u' o' d', Inv (n + 1) b' u' ∧ f_law_112 xs L R (nI i) (b, u, o, d) = R (nI i) (b', u', o', d') := by
  have key : ∃ (r : Int32) (k : Int32) (b' : S_Box) (M : S_Mod) (o' : Nat → Int64), f_Law_plan (xs (i + 1)) (xs (i + 2)) (xs (i + 3)) (xs (i + 4)) (b, o) = some (k, (b', o')) ∧ f_Mod_plan (xs (i + 1)) (xs (i + 2)) (xs (i + 3)) (xs (i + 4)) u = some (r, M) ∧ Inv (n + 1) b' M ∧ M.1 = k ∧ (k = 0 → o' 0 = r.toInt64) := by
    unfold f_Law_plan
    exact law_int (op_plan n b u h (xs (i + 1)) (xs (i + 2)) (xs (i + 3)) (xs (i + 4))) (fun E k w h => by
      obtain ⟨rfl, rfl⟩ := h
      exact ⟨by rw [if_pos rfl], by decide⟩)
  obtain ⟨r, k, b', M, o', e1, e2, e3, e4, e5⟩ := key
  have g0 (β : Type) (k : Option β) : gi 0 1 k = k := gi_n (i := 0) (by decide) (by decide)
  have g1 (β : Type) (q : Option β) : gi (nI (i + 1)) L q = q := gi_n (by omega) (by omega)
  have c1 : (nI (i + 1)).toNatClampNeg = i + 1 := cl_n (by omega)
  have g2 (β : Type) (q : Option β) : gi (nI (i + 2)) L q = q := gi_n (by omega) (by omega)
  have c2 : (nI (i + 2)).toNatClampNeg = i + 2 := cl_n (by omega)
  have g3 (β : Type) (q : Option β) : gi (nI (i + 3)) L q = q := gi_n (by omega) (by omega)
  have c3 : (nI (i + 3)).toNatClampNeg = i + 3 := cl_n (by omega)
  have g4 (β : Type) (q : Option β) : gi (nI (i + 4)) L q = q := gi_n (by omega) (by omega)
  have c4 : (nI (i + 4)).toNatClampNeg = i + 4 := cl_n (by omega)
  refine ⟨b', M, o', d, e3, ?_⟩
  unfold f_law_112 f_Mod_thrown
  simp only [bd_e, nI_1, nI_2, nI_3, nI_4, g1, c1, g2, c2, g3, c3, g4, c4, e1, e2, ca_e, e4, if_true]
  by_cases k0 : k = 0
  · simp only [k0, if_true, g0, cl0, (lg0 _ _).mpr (e5 k0)]
  · simp only [k0, if_false]
theorem ca_use (xs : Nat → Int32) (L : Nat) (hL : L ≤ 2560) (R : Int32 → (S_Box × S_Mod × (Nat → Int64) × (Nat → UInt64)) → Option Int32) (n i : Nat) (hi : i + 4 < L) (hn : n < 512) (b : S_Box) (u : S_Mod) (o : Nat → Int64) (d : Nat → UInt64) (h : Inv n b u) :
    ∃ b' u' o' d', Inv (n + 1) b' u' ∧ f_law_204 xs L R (nI i) (b, u, o, d) = R (nI i) (b', u', o', d') := by
  have key : ∃ (r : Int32) (k : Int32) (b' : S_Box) (M : S_Mod) (o' : Nat → Int64), f_Law_use (FP.dmul (FP.i2d (xs (i + 1))) 4593671619917905920) (FP.dmul (FP.i2d (xs (i + 2))) 4593671619917905920) (xs (i + 3)) (b, o) = some (k, (b', o')) ∧ f_Mod_use (FP.dmul (FP.i2d (xs (i + 1))) 4593671619917905920) (FP.dmul (FP.i2d (xs (i + 2))) 4593671619917905920) (xs (i + 3)) u = some (r, M) ∧ Inv (n + 1) b' M ∧ M.1 = k ∧ (k = 0 → o' 0 = r.toInt64) := by
    unfold f_Law_use
    exact law_int (op_use n hn b u h (xs (i + 1)) (FP.dmul (FP.i2d (xs (i + 2))) 4593671619917905920) (xs (i + 3))) (fun E k w h => by
      rcases h with ⟨rfl, rfl⟩ | ⟨rfl, rfl⟩ | ⟨rfl, rfl⟩
      · exact ⟨by rw [if_pos rfl], by decide⟩
      · exact ⟨by rw [if_neg (by decide), if_pos rfl], by decide⟩
      · exact ⟨by rw [if_neg (by decide), if_neg (by decide), if_pos rfl], by decide⟩)
  obtain ⟨r, k, b', M, o', e1, e2, e3, e4, e5⟩ := key
  have g0 (β : Type) (k : Option β) : gi 0 1 k = k := gi_n (i := 0) (by decide) (by decide)
  have g1 (β : Type) (q : Option β) : gi (nI (i + 1)) L q = q := gi_n (by omega) (by omega)
  have c1 : (nI (i + 1)).toNatClampNeg = i + 1 := cl_n (by omega)
  have g2 (β : Type) (q : Option β) : gi (nI (i + 2)) L q = q := gi_n (by omega) (by omega)
  have c2 : (nI (i + 2)).toNatClampNeg = i + 2 := cl_n (by omega)
  have g3 (β : Type) (q : Option β) : gi (nI (i + 3)) L q = q := gi_n (by omega) (by omega)
  have c3 : (nI (i + 3)).toNatClampNeg = i + 3 := cl_n (by omega)
  have m1 (x : Int32) (β : Type) (q : Option β) : gn (FP.dmul (FP.i2d x) 4593671619917905920) q = q := gn_ok (nn8 x)
  refine ⟨b', M, o', d, e3, ?_⟩
  unfold f_law_204 f_Mod_thrown
  simp only [bd_e, nI_1, nI_2, nI_3, nI_4, g1, c1, g2, c2, g3, c3, m1, e1, e2, ca_e, e4, if_true]
  by_cases k0 : k = 0
  · simp only [k0, if_true, g0, cl0, (lg0 _ _).mpr (e5 k0)]
  · simp only [k0, if_false]
theorem ca_token (xs : Nat → Int32) (L : Nat) (hL : L ≤ 2560) (R : Int32 → (S_Box × S_Mod × (Nat → Int64) × (Nat → UInt64)) → Option Int32) (n i : Nat) (hi : i + 4 < L) (hn : n < 512) (b : S_Box) (u : S_Mod) (o : Nat → Int64) (d : Nat → UInt64) (h : Inv n b u) :
    ∃ b' u' o' d', Inv (n + 1) b' u' ∧ f_law_304 xs L R (nI i) (b, u, o, d) = R (nI i) (b', u', o', d') := by
  have key : ∃ (r : Int32) (k : Int32) (b' : S_Box) (M : S_Mod) (o' : Nat → Int64), f_Law_token ((xs (i + 1)).toInt64 <<< ((32 : Int32).toInt64 &&& 63) ||| (xs (i + 2)).toInt64 &&& 4294967295) (b, o) = some (k, (b', o')) ∧ f_Mod_token ((xs (i + 1)).toInt64 <<< ((32 : Int32).toInt64 &&& 63) ||| (xs (i + 2)).toInt64 &&& 4294967295) u = some (r, M) ∧ Inv (n + 1) b' M ∧ M.1 = k ∧ (k = 0 → o' 0 = r.toInt64) := by
    unfold f_Law_token
    exact law_int (op_token n hn b u h ((xs (i + 1)).toInt64 <<< ((32 : Int32).toInt64 &&& 63) ||| (xs (i + 2)).toInt64 &&& 4294967295)) (fun E k w h => by
      rcases h with ⟨rfl, rfl⟩ | ⟨rfl, rfl⟩ | ⟨rfl, rfl⟩ | ⟨rfl, rfl⟩ | ⟨rfl, rfl⟩
      · exact ⟨by rw [if_pos rfl], by decide⟩
      · exact ⟨by rw [if_neg (by decide), if_pos rfl], by decide⟩
      · exact ⟨by rw [if_neg (by decide), if_neg (by decide), if_pos rfl], by decide⟩
      · exact ⟨by rw [if_neg (by decide), if_neg (by decide), if_neg (by decide), if_pos rfl], by decide⟩
      · exact ⟨by rw [if_neg (by decide), if_neg (by decide), if_neg (by decide), if_neg (by decide), if_pos rfl], by decide⟩)
  obtain ⟨r, k, b', M, o', e1, e2, e3, e4, e5⟩ := key
  have g0 (β : Type) (k : Option β) : gi 0 1 k = k := gi_n (i := 0) (by decide) (by decide)
  have g1 (β : Type) (q : Option β) : gi (nI (i + 1)) L q = q := gi_n (by omega) (by omega)
  have c1 : (nI (i + 1)).toNatClampNeg = i + 1 := cl_n (by omega)
  have g2 (β : Type) (q : Option β) : gi (nI (i + 2)) L q = q := gi_n (by omega) (by omega)
  have c2 : (nI (i + 2)).toNatClampNeg = i + 2 := cl_n (by omega)
  refine ⟨b', M, o', d, e3, ?_⟩
  unfold f_law_304 f_Mod_thrown
  simp only [bd_e, nI_1, nI_2, nI_3, nI_4, g1, c1, g2, c2, e1, e2, ca_e, e4, if_true]
  by_cases k0 : k = 0
  · simp only [k0, if_true, g0, cl0, (lg0 _ _).mpr (e5 k0)]
  · simp only [k0, if_false]
theorem ca_emergency (xs : Nat → Int32) (L : Nat) (hL : L ≤ 2560) (R : Int32 → (S_Box × S_Mod × (Nat → Int64) × (Nat → UInt64)) → Option Int32) (n i : Nat) (hi : i + 4 < L) (hn : n < 512) (b : S_Box) (u : S_Mod) (o : Nat → Int64) (d : Nat → UInt64) (h : Inv n b u) :
    ∃ b' u' o' d', Inv (n + 1) b' u' ∧ f_law_392 xs L R (nI i) (b, u, o, d) = R (nI i) (b', u', o', d') := by
  have key : ∃ (r : Int32) (k : Int32) (b' : S_Box) (M : S_Mod) (o' : Nat → Int64), f_Law_emergency  (b, o) = some (k, (b', o')) ∧ f_Mod_emergency  u = some (r, M) ∧ Inv (n + 1) b' M ∧ M.1 = k ∧ (k = 0 → o' 0 = r.toInt64) := by
    unfold f_Law_emergency
    exact law_int (op_emergency n b u h ) (fun E k w h => by
      rcases h with ⟨rfl, rfl⟩ | ⟨rfl, rfl⟩
      · exact ⟨by rw [if_pos rfl], by decide⟩
      · exact ⟨by rw [if_neg (by decide), if_pos rfl], by decide⟩)
  obtain ⟨r, k, b', M, o', e1, e2, e3, e4, e5⟩ := key
  have g0 (β : Type) (k : Option β) : gi 0 1 k = k := gi_n (i := 0) (by decide) (by decide)
  refine ⟨b', M, o', d, e3, ?_⟩
  unfold f_law_392 f_Mod_thrown
  simp only [bd_e, e1, e2, ca_e, e4, if_true]
  by_cases k0 : k = 0
  · simp only [k0, if_true, g0, cl0, (lg0 _ _).mpr (e5 k0)]
  · simp only [k0, if_false]
theorem ca_save (xs : Nat → Int32) (L : Nat) (hL : L ≤ 2560) (R : Int32 → (S_Box × S_Mod × (Nat → Int64) × (Nat → UInt64)) → Option Int32) (n i : Nat) (hi : i + 4 < L) (hn : n < 512) (b : S_Box) (u : S_Mod) (o : Nat → Int64) (d : Nat → UInt64) (h : Inv n b u) :
    ∃ b' u' o' d', Inv (n + 1) b' u' ∧ f_law_436 xs L R (nI i) (b, u, o, d) = R (nI i) (b', u', o', d') := by
  have key : ∃ (r : Int32) (k : Int32) (b' : S_Box) (M : S_Mod) (o' : Nat → Int64), f_Law_save  (b, o) = some (k, (b', o')) ∧ f_Mod_save  u = some (r, M) ∧ Inv (n + 1) b' M ∧ M.1 = k ∧ (k = 0 → o' 0 = r.toInt64) := by
    unfold f_Law_save
    exact law_int (op_save n hn b u h ) (fun E k w h => by
      rcases h with ⟨rfl, rfl⟩ | ⟨rfl, rfl⟩ | ⟨rfl, rfl⟩
      · exact ⟨by rw [if_pos rfl], by decide⟩
      · exact ⟨by rw [if_neg (by decide), if_pos rfl], by decide⟩
      · exact ⟨by rw [if_neg (by decide), if_neg (by decide), if_pos rfl], by decide⟩)
  obtain ⟨r, k, b', M, o', e1, e2, e3, e4, e5⟩ := key
  have g0 (β : Type) (k : Option β) : gi 0 1 k = k := gi_n (i := 0) (by decide) (by decide)
  refine ⟨b', M, o', d, e3, ?_⟩
  unfold f_law_436 f_Mod_thrown
  simp only [bd_e, e1, e2, ca_e, e4, if_true]
  by_cases k0 : k = 0
  · simp only [k0, if_true, g0, cl0, (lg0 _ _).mpr (e5 k0)]
  · simp only [k0, if_false]
theorem ca_cut (xs : Nat → Int32) (L : Nat) (hL : L ≤ 2560) (R : Int32 → (S_Box × S_Mod × (Nat → Int64) × (Nat → UInt64)) → Option Int32) (n i : Nat) (hi : i + 4 < L) (hn : n < 512) (b : S_Box) (u : S_Mod) (o : Nat → Int64) (d : Nat → UInt64) (h : Inv n b u) :
    ∃ b' u' o' d', Inv (n + 1) b' u' ∧ f_law_480 xs L R (nI i) (b, u, o, d) = R (nI i) (b', u', o', d') := by
  have key : ∃ (r : Int32) (k : Int32) (b' : S_Box) (M : S_Mod) (o' : Nat → Int64), f_Law_cut (xs (i + 1)) (b, o) = some (k, (b', o')) ∧ f_Mod_cut (xs (i + 1)) u = some (r, M) ∧ Inv (n + 1) b' M ∧ M.1 = k ∧ (k = 0 → o' 0 = r.toInt64) := by
    unfold f_Law_cut
    exact law_int (op_cut n b u h (xs (i + 1))) (fun E k w h => by
      obtain ⟨rfl, rfl⟩ := h
      exact ⟨by rw [if_pos rfl], by decide⟩)
  obtain ⟨r, k, b', M, o', e1, e2, e3, e4, e5⟩ := key
  have g0 (β : Type) (k : Option β) : gi 0 1 k = k := gi_n (i := 0) (by decide) (by decide)
  have g1 (β : Type) (q : Option β) : gi (nI (i + 1)) L q = q := gi_n (by omega) (by omega)
  have c1 : (nI (i + 1)).toNatClampNeg = i + 1 := cl_n (by omega)
  refine ⟨b', M, o', d, e3, ?_⟩
  unfold f_law_480 f_Mod_thrown
  simp only [bd_e, nI_1, nI_2, nI_3, nI_4, g1, c1, e1, e2, ca_e, e4, if_true]
  by_cases k0 : k = 0
  · simp only [k0, if_true, g0, cl0, (lg0 _ _).mpr (e5 k0)]
  · simp only [k0, if_false]
theorem ca_power (xs : Nat → Int32) (L : Nat) (hL : L ≤ 2560) (R : Int32 → (S_Box × S_Mod × (Nat → Int64) × (Nat → UInt64)) → Option Int32) (n i : Nat) (hi : i + 4 < L) (hn : n < 512) (b : S_Box) (u : S_Mod) (o : Nat → Int64) (d : Nat → UInt64) (h : Inv n b u) :
    ∃ b' u' o' d', Inv (n + 1) b' u' ∧ f_law_536 xs L R (nI i) (b, u, o, d) = R (nI i) (b', u', o', d') := by
  have key : ∀ p : Int32, (p = 0 ∨ p = 1) → ∃ (r k : Int32) (b' : S_Box) (M : S_Mod) (o' : Nat → Int64), f_Law_power p (b, o) = some (k, (b', o')) ∧ f_Mod_power p u = some (r, M) ∧ Inv (n + 1) b' M ∧ M.1 = k ∧ (k = 0 → o' 0 = r.toInt64) := by
    intro p hp
    unfold f_Law_power
    exact law_int (op_power n hn b u h p hp) (fun E k w h => by
      obtain ⟨rfl, rfl⟩ := h
      exact ⟨by rw [if_pos rfl], by decide⟩)
  have g0 (β : Type) (k : Option β) : gi 0 1 k = k := gi_n (i := 0) (by decide) (by decide)
  have g1 (β : Type) (q : Option β) : gi (nI (i + 1)) L q = q := gi_n (by omega) (by omega)
  have c1 : (nI (i + 1)).toNatClampNeg = i + 1 := cl_n (by omega)
  unfold f_law_536 f_law_551 f_law_572 f_Mod_thrown
  simp only [bd_e, nI_1, g1, c1]
  by_cases c : xs (i + 1) = 0
  · obtain ⟨r, k, b', M, o', e1, e2, e3, e4, e5⟩ := key 0 (Or.inl rfl)
    refine ⟨b', M, o', d, e3, ?_⟩
    simp only [c, if_true, e1, e2, ca_e, e4]
    by_cases k0 : k = 0
    · simp only [k0, if_true, g0, cl0, (lg0 _ _).mpr (e5 k0)]
    · simp only [k0, if_false]
  · obtain ⟨r, k, b', M, o', e1, e2, e3, e4, e5⟩ := key 1 (Or.inr rfl)
    refine ⟨b', M, o', d, e3, ?_⟩
    simp only [c, if_false, if_true, e1, e2, ca_e, e4]
    by_cases k0 : k = 0
    · simp only [k0, if_true, g0, cl0, (lg0 _ _).mpr (e5 k0)]
    · simp only [k0, if_false]
theorem ca_request (xs : Nat → Int32) (L : Nat) (hL : L ≤ 2560) (R : Int32 → (S_Box × S_Mod × (Nat → Int64) × (Nat → UInt64)) → Option Int32) (n i : Nat) (hi : i + 4 < L) (hn : n < 512) (b : S_Box) (u : S_Mod) (o : Nat → Int64) (d : Nat → UInt64) (h : Inv n b u) :
    ∃ b' u' o' d', Inv (n + 1) b' u' ∧ f_law_608 xs L R (nI i) (b, u, o, d) = R (nI i) (b', u', o', d') := by
  have key : ∃ (r : Int32) (k : Int32) (b' : S_Box) (M : S_Mod) (o' : Nat → Int64), f_Law_request (xs (i + 1)) (b, o) = some (k, (b', o')) ∧ f_Mod_request (xs (i + 1)) u = some (r, M) ∧ Inv (n + 1) b' M ∧ M.1 = k ∧ (k = 0 → o' 0 = r.toInt64) := by
    unfold f_Law_request
    exact law_int (op_request n b u h (xs (i + 1))) (fun E k w h => by
      rcases h with ⟨rfl, rfl⟩ | ⟨rfl, rfl⟩ | ⟨rfl, rfl⟩ | ⟨rfl, rfl⟩
      · exact ⟨by rw [if_pos rfl], by decide⟩
      · exact ⟨by rw [if_neg (by decide), if_pos rfl], by decide⟩
      · exact ⟨by rw [if_neg (by decide), if_neg (by decide), if_pos rfl], by decide⟩
      · exact ⟨by rw [if_neg (by decide), if_neg (by decide), if_neg (by decide), if_pos rfl], by decide⟩)
  obtain ⟨r, k, b', M, o', e1, e2, e3, e4, e5⟩ := key
  have g0 (β : Type) (k : Option β) : gi 0 1 k = k := gi_n (i := 0) (by decide) (by decide)
  have g1 (β : Type) (q : Option β) : gi (nI (i + 1)) L q = q := gi_n (by omega) (by omega)
  have c1 : (nI (i + 1)).toNatClampNeg = i + 1 := cl_n (by omega)
  refine ⟨b', M, o', d, e3, ?_⟩
  unfold f_law_608 f_Mod_thrown
  simp only [bd_e, nI_1, nI_2, nI_3, nI_4, g1, c1, e1, e2, ca_e, e4, if_true]
  by_cases k0 : k = 0
  · simp only [k0, if_true, g0, cl0, (lg0 _ _).mpr (e5 k0)]
  · simp only [k0, if_false]
theorem ca_reply (xs : Nat → Int32) (L : Nat) (hL : L ≤ 2560) (R : Int32 → (S_Box × S_Mod × (Nat → Int64) × (Nat → UInt64)) → Option Int32) (n i : Nat) (hi : i + 4 < L) (hn : n < 512) (b : S_Box) (u : S_Mod) (o : Nat → Int64) (d : Nat → UInt64) (h : Inv n b u) :
    ∃ b' u' o' d', Inv (n + 1) b' u' ∧ f_law_664 xs L R (nI i) (b, u, o, d) = R (nI i) (b', u', o', d') := by
  have key : ∃ (r : Int32) (k : Int32) (b' : S_Box) (M : S_Mod) (o' : Nat → Int64), f_Law_reply (xs (i + 1)) (b, o) = some (k, (b', o')) ∧ f_Mod_reply (xs (i + 1)) u = some (r, M) ∧ Inv (n + 1) b' M ∧ M.1 = k ∧ (k = 0 → o' 0 = r.toInt64) := by
    unfold f_Law_reply
    exact law_int (op_reply n b u h (xs (i + 1))) (fun E k w h => by
      obtain ⟨rfl, rfl⟩ := h
      exact ⟨by rw [if_pos rfl], by decide⟩)
  obtain ⟨r, k, b', M, o', e1, e2, e3, e4, e5⟩ := key
  have g0 (β : Type) (k : Option β) : gi 0 1 k = k := gi_n (i := 0) (by decide) (by decide)
  have g1 (β : Type) (q : Option β) : gi (nI (i + 1)) L q = q := gi_n (by omega) (by omega)
  have c1 : (nI (i + 1)).toNatClampNeg = i + 1 := cl_n (by omega)
  refine ⟨b', M, o', d, e3, ?_⟩
  unfold f_law_664 f_Mod_thrown
  simp only [bd_e, nI_1, nI_2, nI_3, nI_4, g1, c1, e1, e2, ca_e, e4, if_true]
  by_cases k0 : k = 0
  · simp only [k0, if_true, g0, cl0, (lg0 _ _).mpr (e5 k0)]
  · simp only [k0, if_false]
theorem ca_flash (xs : Nat → Int32) (L : Nat) (hL : L ≤ 2560) (R : Int32 → (S_Box × S_Mod × (Nat → Int64) × (Nat → UInt64)) → Option Int32) (n i : Nat) (hi : i + 4 < L) (hn : n < 512) (b : S_Box) (u : S_Mod) (o : Nat → Int64) (d : Nat → UInt64) (h : Inv n b u) :
    ∃ b' u' o' d', Inv (n + 1) b' u' ∧ f_law_720 xs L R (nI i) (b, u, o, d) = R (nI i) (b', u', o', d') := by
  have key : ∃ (r : Int64) (k : Int32) (b' : S_Box) (M : S_Mod) (o' : Nat → Int64), f_Law_flash (xs (i + 1)) (xs (i + 2)) (b, o) = some (k, (b', o')) ∧ f_Mod_flash (xs (i + 1)) (xs (i + 2)) u = some (r, M) ∧ Inv (n + 1) b' M ∧ M.1 = k ∧ (k = 0 → o' 0 = r) := by
    unfold f_Law_flash
    exact law_lng (op_flash n b u h (xs (i + 1)) (xs (i + 2))) (fun E k w h => by
      obtain ⟨rfl, rfl⟩ := h
      exact ⟨by rw [if_pos rfl], by decide⟩)
  obtain ⟨r, k, b', M, o', e1, e2, e3, e4, e5⟩ := key
  have g0 (β : Type) (k : Option β) : gi 0 1 k = k := gi_n (i := 0) (by decide) (by decide)
  have g1 (β : Type) (q : Option β) : gi (nI (i + 1)) L q = q := gi_n (by omega) (by omega)
  have c1 : (nI (i + 1)).toNatClampNeg = i + 1 := cl_n (by omega)
  have g2 (β : Type) (q : Option β) : gi (nI (i + 2)) L q = q := gi_n (by omega) (by omega)
  have c2 : (nI (i + 2)).toNatClampNeg = i + 2 := cl_n (by omega)
  refine ⟨b', M, o', d, e3, ?_⟩
  unfold f_law_720 f_Mod_thrown
  simp only [bd_e, nI_1, nI_2, nI_3, nI_4, g1, c1, g2, c2, e1, e2, ca_e, e4, if_true]
  by_cases k0 : k = 0
  · simp only [k0, if_true, g0, cl0, (lg0 _ _).mpr (e5 k0)]
  · simp only [k0, if_false]
theorem ca_read (xs : Nat → Int32) (L : Nat) (hL : L ≤ 2560) (R : Int32 → (S_Box × S_Mod × (Nat → Int64) × (Nat → UInt64)) → Option Int32) (n i : Nat) (hi : i + 4 < L) (hn : n < 512) (b : S_Box) (u : S_Mod) (o : Nat → Int64) (d : Nat → UInt64) (h : Inv n b u) :
    ∃ b' u' o' d', Inv (n + 1) b' u' ∧ f_law_787 xs L R (nI i) (b, u, o, d) = R (nI i) (b', u', o', d') := by
  have key : ∃ (r : UInt64) (k : Int32) (b' : S_Box) (M : S_Mod) (d' : Nat → UInt64), f_Law_read (xs (i + 1)) (b, d) = some (k, (b', d')) ∧ f_Mod_read (xs (i + 1)) u = some (r, M) ∧ Inv (n + 1) b' M ∧ M.1 = k ∧ (k = 0 → d' 0 = r) := by
    unfold f_Law_read
    exact law_dbl (op_read n b u h (xs (i + 1))) (fun E k w h => by
      rcases h with ⟨rfl, rfl⟩ | ⟨rfl, rfl⟩
      · exact ⟨by rw [if_pos rfl], by decide⟩
      · exact ⟨by rw [if_neg (by decide), if_pos rfl], by decide⟩)
  obtain ⟨r, k, b', M, d', e1, e2, e3, e4, e5⟩ := key
  have g0 (β : Type) (k : Option β) : gi 0 1 k = k := gi_n (i := 0) (by decide) (by decide)
  have g1 (β : Type) (q : Option β) : gi (nI (i + 1)) L q = q := gi_n (by omega) (by omega)
  have c1 : (nI (i + 1)).toNatClampNeg = i + 1 := cl_n (by omega)
  refine ⟨b', M, o, d', e3, ?_⟩
  unfold f_law_787 f_Mod_thrown
  simp only [bd_e, nI_1, nI_2, nI_3, nI_4, g1, c1, e1, e2, ca_e, e4, if_true]
  by_cases k0 : k = 0
  · simp only [k0, if_true, g0, cl0, e5 k0]
    by_cases q : Op.cmpValue (FP.dcmp r r) .l = 0
    · simp only [q, if_true]
    · simp only [q, if_false]
  · simp only [k0, if_false]
theorem ca_price (xs : Nat → Int32) (L : Nat) (hL : L ≤ 2560) (R : Int32 → (S_Box × S_Mod × (Nat → Int64) × (Nat → UInt64)) → Option Int32) (n i : Nat) (hi : i + 4 < L) (hn : n < 512) (b : S_Box) (u : S_Mod) (o : Nat → Int64) (d : Nat → UInt64) (h : Inv n b u) :
    ∃ b' u' o' d', Inv (n + 1) b' u' ∧ f_law_864 xs L R (nI i) (b, u, o, d) = R (nI i) (b', u', o', d') := by
  have key : ∃ (r : UInt64) (k : Int32) (b' : S_Box) (M : S_Mod) (d' : Nat → UInt64), f_Law_price (xs (i + 1)) (b, d) = some (k, (b', d')) ∧ f_Mod_price (xs (i + 1)) u = some (r, M) ∧ Inv (n + 1) b' M ∧ M.1 = k ∧ (k = 0 → d' 0 = r) := by
    unfold f_Law_price
    exact law_dbl (op_price n b u h (xs (i + 1))) (fun E k w h => by
      obtain ⟨rfl, rfl⟩ := h
      exact ⟨by rw [if_pos rfl], by decide⟩)
  obtain ⟨r, k, b', M, d', e1, e2, e3, e4, e5⟩ := key
  have g0 (β : Type) (k : Option β) : gi 0 1 k = k := gi_n (i := 0) (by decide) (by decide)
  have g1 (β : Type) (q : Option β) : gi (nI (i + 1)) L q = q := gi_n (by omega) (by omega)
  have c1 : (nI (i + 1)).toNatClampNeg = i + 1 := cl_n (by omega)
  refine ⟨b', M, o, d', e3, ?_⟩
  unfold f_law_864 f_Mod_thrown
  simp only [bd_e, nI_1, nI_2, nI_3, nI_4, g1, c1, e1, e2, ca_e, e4, if_true]
  by_cases k0 : k = 0
  · simp only [k0, if_true, g0, cl0, e5 k0]
    by_cases q : Op.cmpValue (FP.dcmp r r) .l = 0
    · simp only [q, if_true]
    · simp only [q, if_false]
  · simp only [k0, if_false]
theorem ca_count (xs : Nat → Int32) (L : Nat) (hL : L ≤ 2560) (R : Int32 → (S_Box × S_Mod × (Nat → Int64) × (Nat → UInt64)) → Option Int32) (n i : Nat) (hi : i + 4 < L) (hn : n < 512) (b : S_Box) (u : S_Mod) (o : Nat → Int64) (d : Nat → UInt64) (h : Inv n b u) :
    ∃ b' u' o' d', Inv (n + 1) b' u' ∧ f_law_941 xs L R (nI i) (b, u, o, d) = R (nI i) (b', u', o', d') := by
  have key : ∃ (r : Int32) (k : Int32) (b' : S_Box) (M : S_Mod) (o' : Nat → Int64), f_Law_count (xs (i + 1)) (b, o) = some (k, (b', o')) ∧ f_Mod_count (xs (i + 1)) u = some (r, M) ∧ Inv (n + 1) b' M ∧ M.1 = k ∧ (k = 0 → o' 0 = r.toInt64) := by
    unfold f_Law_count
    exact law_int (op_count n b u h (xs (i + 1))) (fun E k w h => by
      rcases h with ⟨rfl, rfl⟩ | ⟨rfl, rfl⟩
      · exact ⟨by rw [if_pos rfl], by decide⟩
      · exact ⟨by rw [if_neg (by decide), if_pos rfl], by decide⟩)
  obtain ⟨r, k, b', M, o', e1, e2, e3, e4, e5⟩ := key
  have g0 (β : Type) (k : Option β) : gi 0 1 k = k := gi_n (i := 0) (by decide) (by decide)
  have g1 (β : Type) (q : Option β) : gi (nI (i + 1)) L q = q := gi_n (by omega) (by omega)
  have c1 : (nI (i + 1)).toNatClampNeg = i + 1 := cl_n (by omega)
  refine ⟨b', M, o', d, e3, ?_⟩
  unfold f_law_941 f_Mod_thrown
  simp only [bd_e, nI_1, nI_2, nI_3, nI_4, g1, c1, e1, e2, ca_e, e4, if_true]
  by_cases k0 : k = 0
  · simp only [k0, if_true, g0, cl0, (lg0 _ _).mpr (e5 k0)]
  · simp only [k0, if_false]
