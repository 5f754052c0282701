/-! the two new objects -/
theorem fiI : ∀ (d i m : Nat) (F : Nat → Int32), d + i = 8 → d < m → f_Arr_fillI_5 8 m (-1) (nI i) (nI 8) F = some (fun j => if i ≤ j ∧ j < 8 then -1 else F j) := by
  intro d
  induction d with
  | zero =>
    intro i m F hi hm
    obtain ⟨m, rfl⟩ : ∃ k, m = k + 1 := ⟨m - 1, by omega⟩
    obtain rfl : i = 8 := by omega
    rw [f_Arr_fillI_5, if_pos (by decide)]
    congr 1
    funext j
    rw [if_neg (by omega)]
  | succ d ih =>
    intro i m F hi hm
    obtain ⟨m, rfl⟩ : ∃ k, m = k + 1 := ⟨m - 1, by omega⟩
    have hle : ¬ nI 8 ≤ nI i := nI_ge (by omega) (by decide)
    rw [f_Arr_fillI_5, if_neg hle, gi_n (by omega) (by decide), bd_e, bd_e, cl_n (by omega), nI_1, ih (i + 1) m _ (by omega) (by omega)]
    congr 1
    funext j
    by_cases q : i + 1 ≤ j ∧ j < 8
    · rw [if_pos q, if_pos (by omega)]
    · rw [if_neg q]
      by_cases q2 : j = i
      · subst q2; rw [pk_us, if_pos (by omega)]
      · rw [pk_un q2, if_neg (by omega)]
theorem fiJ : ∀ (d i m : Nat) (F : Nat → Int64), d + i = 72 → d < m → f_Arr_fillJ_6 72 m (-1) (nI i) (nI 72) F = some (fun j => if i ≤ j ∧ j < 72 then -1 else F j) := by
  intro d
  induction d with
  | zero =>
    intro i m F hi hm
    obtain ⟨m, rfl⟩ : ∃ k, m = k + 1 := ⟨m - 1, by omega⟩
    obtain rfl : i = 72 := by omega
    rw [f_Arr_fillJ_6, if_pos (by decide)]
    congr 1
    funext j
    rw [if_neg (by omega)]
  | succ d ih =>
    intro i m F hi hm
    obtain ⟨m, rfl⟩ : ∃ k, m = k + 1 := ⟨m - 1, by omega⟩
    have hle : ¬ nI 72 ≤ nI i := nI_ge (by omega) (by decide)
    rw [f_Arr_fillJ_6, if_neg hle, gi_n (by omega) (by decide), bd_e, bd_e, cl_n (by omega), nI_1, ih (i + 1) m _ (by omega) (by omega)]
    congr 1
    funext j
    by_cases q : i + 1 ≤ j ∧ j < 72
    · rw [if_pos q, if_pos (by omega)]
    · rw [if_neg q]
      by_cases q2 : j = i
      · subst q2; rw [pk_uLs, if_pos (by omega)]
      · rw [pk_uLn q2, if_neg (by omega)]
theorem mi_loop (th : Int32) (on : Int32) (tm : Int32) (cr : UInt64) (rg : (Nat → UInt64)) (hg : UInt64) (la : Int32) (op : Int32) (em : Int32) (pr : (Nat → UInt64)) (mi : (Nat → Int32)) (ta : (Nat → Int32)) (ev : (Nat → Int32)) (ec : Int32) (we : (Nat → Int32)) (pl : Int32) (cu : Int32) (tb : Int32) (be : Int32) (es : Int32) (mb : (Nat → Int32)) (mc : Int32) (mr : (Nat → Int32)) (rc : Int32) : ∀ (d i m : Nat) (F : Nat → Int64), d + i = 72 → d < m →
    f_Mod_init_143 m (nI i) (th, on, tm, cr, hg, la, op, em, ec, pl, cu, tb, be, es, mc, rc, rg, pr, mi, ta, ev, F, we, mb, mr) = some (th, on, tm, cr, rg, hg, la, op, em, pr, mi, ta, ev, ec, fun j => if i ≤ j ∧ j < 72 then -1 else F j, we, pl, cu, tb, be, es, mb, mc, mr, rc) := by
  intro d
  induction d with
  | zero =>
    intro i m F hi hm
    obtain ⟨m, rfl⟩ : ∃ k, m = k + 1 := ⟨m - 1, by omega⟩
    obtain rfl : i = 72 := by omega
    have e : (fun j => if 72 ≤ j ∧ j < 72 then -1 else F j) = F := by
      funext j
      rw [if_neg (by omega)]
    rw [f_Mod_init_143, if_pos (by decide), e]
  | succ d ih =>
    intro i m F hi hm
    obtain ⟨m, rfl⟩ : ∃ k, m = k + 1 := ⟨m - 1, by omega⟩
    have hle : ¬ (72 : Int32) ≤ nI i := nI_ge (b := 72) (by omega) (by decide)
    have e : (fun j => if i + 1 ≤ j ∧ j < 72 then -1 else vp_updL F i (-1) j) = (fun j => if i ≤ j ∧ j < 72 then -1 else F j) := by
      funext j
      by_cases q : i + 1 ≤ j ∧ j < 72
      · rw [if_pos q, if_pos (by omega)]
      · rw [if_neg q]
        by_cases q2 : j = i
        · subst q2; rw [pk_uLs, if_pos (by omega)]
        · rw [pk_uLn q2, if_neg (by omega)]
    have g (β : Type) (k : Option β) : gi (nI i) 72 k = k := gi_n (by omega) (by decide)
    have cl : (nI i).toNatClampNeg = i := cl_n (by omega)
    rw [f_Mod_init_143, if_neg hle]
    simp only [bd_e, g, cl, nI_1]
    rw [ih (i + 1) m _ (by omega) (by omega), e]
def pr0 : Nat → UInt64 := vf_upd (vf_upd (vf_upd (fun _ => 0) 0 FP.dconst1) 1 FP.dconst1) 2 FP.dconst1
def ta0 : Nat → Int32 := fun j => if 0 ≤ j ∧ j < 8 then -1 else 0
def wo0 : Nat → Int64 := fun j => if 0 ≤ j ∧ j < 72 then -1 else 0
theorem ta0_e : upd (upd (upd (upd (upd (upd (upd (upd (fun _ => (0 : Int32)) 0 (-1)) 1 (-1)) 2 (-1)) 3 (-1)) 4 (-1)) 5 (-1)) 6 (-1)) 7 (-1) = ta0 := by
  funext j
  unfold ta0
  by_cases h : j < 8
  · rw [if_pos (by omega)]
    have : j = 0 ∨ j = 1 ∨ j = 2 ∨ j = 3 ∨ j = 4 ∨ j = 5 ∨ j = 6 ∨ j = 7 := by omega
    rcases this with rfl | rfl | rfl | rfl | rfl | rfl | rfl | rfl <;> rfl
  · rw [if_neg (by omega), pk_un (by omega), pk_un (by omega), pk_un (by omega), pk_un (by omega), pk_un (by omega), pk_un (by omega), pk_un (by omega), pk_un (by omega)]
theorem z3_0 : z3 (fun _ => (0 : UInt64)) FP.dconst0 FP.dconst0 FP.dconst0 = fun _ => 0 := by
  funext j
  unfold z3 vf_upd
  split
  · rfl
  split
  · rfl
  split
  · rfl
  rfl
abbrev b0 : S_Box := (pr0, (fun _ => 0, ta0), (fun _ => 0, 0, 4617315517961601024, 0, 0, 0, 0), (fun _ => 0, nI 0), (wo0, fun _ => 0, fun _ => 0, -1, -1), (fun _ => 0, fun _ => 0, fun _ => 0, 0, 0, 0, 0), 1)
abbrev u0 : S_Mod := (0, 1, 0, 4617315517961601024, fun _ => 0, 0, 0, 0, 0, pr0, fun _ => 0, ta0, fun _ => 0, nI 0, wo0, fun _ => 0, -1, -1, 0, 0, 0, fun _ => 0, 0, fun _ => 0, 0)
theorem init_box : f_Box_init = some b0 := by
  have e1 : f_Plans_init = some (fun _ => 0, ta0) := by
    unfold f_Plans_init f_Arr_fillI
    rw [show (Int32.ofNat 8) = nI 8 from rfl, nI_e0, fiI 8 0 100 _ (by omega) (by omega), cv_e]
    rfl
  have e2 : f_State_init = some (fun _ => 0, 0, 4617315517961601024, 0, 0, 0, 0) := by
    unfold f_State_init
    rw [bg, cv_e, z3_0]
    rfl
  have e3 : f_Flash_init = some (wo0, fun _ => 0, fun _ => 0, -1, -1) := by
    unfold f_Flash_init f_Arr_fillJ
    rw [show (Int32.ofNat 72) = nI 72 from rfl, nI_e0, fiJ 72 0 100 _ (by omega) (by omega), cv_e]
    rfl
  unfold f_Box_init
  rw [show (100 : Nat) = 96 + 1 + 1 + 1 + 1 from rfl, f_Box_init_13, if_neg n30]
  simp only [bd_e, a01, g03, cl0]
  rw [f_Box_init_13, if_neg n31]
  simp only [bd_e, a11, g13, cl1]
  rw [f_Box_init_13, if_neg n32]
  simp only [bd_e, a21, g23, cl2]
  rw [f_Box_init_13, if_pos n33, e1, cv_e, e2, cv_e]
  unfold f_Events_init f_Line_init
  rw [cv_e, e3, cv_e, cv_e]
  unfold b0 pr0
  rw [nI_0]
theorem init_mod : f_Mod_init = some u0 := by
  unfold f_Mod_init
  have g0 (β : Type) (k : Option β) : gi 0 8 k = k := gi_n (i := 0) (by decide) (by decide)
  have g1 (β : Type) (k : Option β) : gi 1 8 k = k := gi_n (i := 1) (by decide) (by decide)
  have g2 (β : Type) (k : Option β) : gi 2 8 k = k := gi_n (i := 2) (by decide) (by decide)
  have g3 (β : Type) (k : Option β) : gi 3 8 k = k := gi_n (i := 3) (by decide) (by decide)
  have g4 (β : Type) (k : Option β) : gi 4 8 k = k := gi_n (i := 4) (by decide) (by decide)
  have g5 (β : Type) (k : Option β) : gi 5 8 k = k := gi_n (i := 5) (by decide) (by decide)
  have g6 (β : Type) (k : Option β) : gi 6 8 k = k := gi_n (i := 6) (by decide) (by decide)
  have g7 (β : Type) (k : Option β) : gi 7 8 k = k := gi_n (i := 7) (by decide) (by decide)
  have c7 : (7 : Int32).toNatClampNeg = 7 := by decide
  simp only [bd_e, g03, g13, g23, g0, g1, g2, g3, g4, g5, g6, g7, cl0, cl1, cl2, cl3, cl4, cl5, cl6, c7]
  rw [ta0_e]
  have := mi_loop 0 1 0 4617315517961601024 (fun _ => 0) 0 0 0 0 pr0 (fun _ => 0) ta0 (fun _ => 0) 0 (fun _ => 0) (-1) (-1) 0 0 0 (fun _ => 0) 0 (fun _ => 0) 0 72 0 100 (fun _ => 0) (by omega) (by omega)
  rw [nI_0] at this
  rw [← pr0, this]
  rfl
theorem init_inv : Inv 0 b0 u0 := by
  have m1 : (-1 : Int32).toInt = -1 := by decide
  have m2 : (0 : Int32).toInt = 0 := by decide
  have n0 : NN 0 := by decide +kernel
  have z0 : RB 8388608 0 := by
    have m : (0 : UInt64).toNat % 2 ^ 63 < (1023 + 0) * 2 ^ 52 := by decide +kernel
    exact RB_mono (mag_RB (j := 0) m (by decide)) (by decide)
  refine ⟨0, 1, 0, 4617315517961601024, fun _ => 0, 0, 0, 0, 0, pr0, fun _ => 0, ta0, fun _ => 0, wo0, fun _ => 0, -1, -1, 0, 0, 0, fun _ => 0, 0, fun _ => 0, 0, fun _ => 0, fun _ => 0, fun _ => 0, fun _ => 0, 0, 0, rfl, rfl, ⟨Or.inr rfl, Or.inl rfl, Or.inl rfl, Or.inl rfl, Or.inl rfl, by decide +kernel, n0, n0, n0, z0, ?_, ?_, ?_, ?_, by omega⟩, Or.inl rfl, Or.inl rfl, fun _ => ⟨rfl, rfl⟩, fun e => absurd e (by decide), 0, by omega, rfl, fun j hj => absurd hj (by omega)⟩
  · intro j hj
    have : j = 0 ∨ j = 1 ∨ j = 2 := by omega
    have e : FP.dconst1.toNat % 2 ^ 63 < 1048 * 2 ^ 52 := by decide +kernel
    rcases this with rfl | rfl | rfl
    · exact e
    · exact e
    · exact e
  · intro j hj
    unfold ta0
    rw [if_pos (by omega), m1]
    omega
  · rw [m2]
    omega
  · intro s hs
    have m3 : (-1 : Int64).toInt = -1 := by decide
    unfold wo0 Bf
    rw [if_pos (by omega), if_pos (by omega), m3]
    omega
