/-! the answer and its frame -/
def sF (a : Nat → Int32) (q : Nat) (b : Int32) : Nat → Int32 := if b = 126 ∨ b = 125 then upd (upd a q 125) (q + 1) (b ^^^ 32) else upd a q b
def sQ (q : Nat) (b : Int32) : Nat := if b = 126 ∨ b = 125 then q + 2 else q + 1
theorem sQ_le {q : Nat} {b : Int32} : sQ q b ≤ q + 2 := by unfold sQ; split <;> omega
theorem sF_eq {a c : Nat → Int32} {q : Nat} {b : Int32} (h : ∀ j, j < q → a j = c j) : ∀ j, j < sQ q b → sF a q b j = sF c q b j := by
  intro j hj
  unfold sF sQ at *
  by_cases k : b = 126 ∨ b = 125
  · rw [if_pos k] at hj ⊢
    rw [if_pos k]
    by_cases j1 : j = q + 1
    · subst j1; rw [pk_us, pk_us]
    · rw [pk_un j1, pk_un j1]
      by_cases j2 : j = q
      · subst j2; rw [pk_us, pk_us]
      · rw [pk_un j2, pk_un j2]; exact h j (by omega)
  · rw [if_neg k] at hj ⊢
    rw [if_neg k]
    by_cases j2 : j = q
    · subst j2; rw [pk_us, pk_us]
    · rw [pk_un j2, pk_un j2]; exact h j (by omega)
theorem send_mod (th : Int32) (on : Int32) (tm : Int32) (cr : UInt64) (rg : (Nat → UInt64)) (hg : UInt64) (la : Int32) (op : Int32) (em : Int32) (pr : (Nat → UInt64)) (mi : (Nat → Int32)) (ta : (Nat → Int32)) (ev : (Nat → Int32)) (ec : Int32) (wo : (Nat → Int64)) (we : (Nat → Int32)) (pl : Int32) (cu : Int32) (tb : Int32) (be : Int32) (es : Int32) (mb : (Nat → Int32)) (mc : Int32) (a : Nat → Int32) (q : Nat) (hq : q ≤ 22) (b : Int32) : f_Mod_send b (th, on, tm, cr, rg, hg, la, op, em, pr, mi, ta, ev, ec, wo, we, pl, cu, tb, be, es, mb, mc, a, nI q) = some (th, on, tm, cr, rg, hg, la, op, em, pr, mi, ta, ev, ec, wo, we, pl, cu, tb, be, es, mb, mc, sF a q b, nI (sQ q b)) := by
  have g1 (β : Type) (k : Option β) : gi (nI q) 30 k = k := gi_n (by omega) (by decide)
  have g2 (β : Type) (k : Option β) : gi (nI (q + 1)) 30 k = k := gi_n (by omega) (by decide)
  have c1 : (nI q).toNatClampNeg = q := cl_n (by omega)
  have c2 : (nI (q + 1)).toNatClampNeg = q + 1 := cl_n (by omega)
  unfold f_Mod_send f_Mod_send_12 f_Mod_send_33 f_Mod_send_53 sF sQ
  by_cases k1 : b = 126
  · subst k1
    simp only [if_true, bd_e, g1, g2, c1, c2, nI_1, true_or]
  · by_cases k2 : b = 125
    · subst k2
      simp only [k1, if_true, if_false, bd_e, g1, g2, c1, c2, nI_1, or_true]
    · simp only [k1, k2, if_false, bd_e, g1, c1, nI_1, or_self]
theorem fr_step (bb pa : Nat → Int32) (le rc be es : Int32) (n q i : Nat) (a : Nat → Int32) (hq : q ≤ 22) (hi : i < 11) :
    f_Line_frameAnswer_12 (n + 1) (nI q) (nI i) (bb, pa, a, le, rc, be, es) = f_Line_frameAnswer_12 n (nI (sQ q (pa i))) (nI (i + 1)) (bb, pa, sF a q (pa i), le, rc, be, es) := by
  have g1 (β : Type) (k : Option β) : gi (nI q) 24 k = k := gi_n (by omega) (by decide)
  have g2 (β : Type) (k : Option β) : gi (nI (q + 1)) 24 k = k := gi_n (by omega) (by decide)
  have g3 (β : Type) (k : Option β) : gi (nI i) 11 k = k := gi_n (by omega) (by decide)
  have c1 : (nI q).toNatClampNeg = q := cl_n (by omega)
  have c2 : (nI (q + 1)).toNatClampNeg = q + 1 := cl_n (by omega)
  have c3 : (nI i).toNatClampNeg = i := cl_n (by omega)
  have hle : ¬ (11 : Int32) ≤ nI i := nI_ge (b := 11) (by omega) (by decide)
  rw [f_Line_frameAnswer_12, if_neg hle]
  unfold f_Line_frameAnswer_40 sF sQ
  simp only [bd_e, g1, g2, g3, c1, c2, c3, nI_1]
  by_cases k1 : pa i = 126
  · simp only [k1, if_true, true_or]
  · by_cases k2 : pa i = 125
    · have k3 : ¬ (125 : Int32) = 126 := by decide
      simp only [k2, k3, if_true, if_false, or_true]
    · simp only [k1, k2, if_false, or_self]
theorem fr_last (bb pa : Nat → Int32) (le rc be es : Int32) (n q : Nat) (a : Nat → Int32) (hq : q ≤ 23) :
    f_Line_frameAnswer_12 (n + 1) (nI q) (nI 11) (bb, pa, a, le, rc, be, es) = some (bb, pa, upd a q 126, le, nI (q + 1), be, es) := by
  have g1 (β : Type) (k : Option β) : gi (nI q) 24 k = k := gi_n (by omega) (by decide)
  have c1 : (nI q).toNatClampNeg = q := cl_n (by omega)
  rw [f_Line_frameAnswer_12, if_pos (by decide)]
  simp only [bd_e, g1, c1, nI_1]
/-- the nine bytes, then the check -/
theorem fr9 (th : Int32) (on : Int32) (tm : Int32) (cr : UInt64) (rg : (Nat → UInt64)) (hg : UInt64) (la : Int32) (op : Int32) (em : Int32) (pr : (Nat → UInt64)) (mi : (Nat → Int32)) (ta : (Nat → Int32)) (ev : (Nat → Int32)) (ec : Int32) (wo : (Nat → Int64)) (we : (Nat → Int32)) (pl : Int32) (cu : Int32) (tb : Int32) (be : Int32) (es : Int32) (mb : (Nat → Int32)) (mc : Int32) (bb pa : Nat → Int32) (le rc0 be0 es0 : Int32) (f : Nat) (hf : f ≤ 65535) (h9 : pa 9 = nI (f % 256)) (h10 : pa 10 = nI (f / 256)) (hb : ∀ j, j < 9 → pa j = mb j) :
    ∀ (d i n m q : Nat) (a c : Nat → Int32), d + i = 9 → d + 2 < n → d < m → q ≤ 1 + 2 * i → (∀ j, j < q → a j = c j) →
    ∃ (q' : Nat) (a' c' : Nat → Int32), q' ≤ 24 ∧ (∀ j, j < q' → a' j = c' j) ∧
      f_Line_frameAnswer_12 n (nI q) (nI i) (bb, pa, a, le, rc0, be0, es0) = some (bb, pa, a', le, nI q', be0, es0) ∧
      f_Mod_makeReply_75 m (nI f) (nI i) (th, on, tm, cr, rg, hg, la, op, em, pr, mi, ta, ev, ec, wo, we, pl, cu, tb, be, es, mb, mc, c, nI q) = some (th, on, tm, cr, rg, hg, la, op, em, pr, mi, ta, ev, ec, wo, we, pl, cu, tb, be, es, mb, mc, c', nI q') := by
  intro d
  induction d with
  | zero =>
    intro i n m q a c hi hn hm hq hac
    obtain ⟨n, rfl⟩ : ∃ k, n = k + 1 + 1 + 1 := ⟨n - 3, by omega⟩
    obtain ⟨m, rfl⟩ : ∃ k, m = k + 1 := ⟨m - 1, by omega⟩
    obtain rfl : i = 9 := by omega
    have q1 := sQ_le (q := q) (b := nI (f % 256))
    have q2 := sQ_le (q := sQ q (nI (f % 256))) (b := nI (f / 256))
    have l1 : sQ q (nI (f % 256)) ≤ q + 2 := q1
    rw [fr_step (hq := by omega) (hi := by omega), h9, fr_step (hq := by omega) (hi := by omega), h10, fr_last (hq := by omega), f_Mod_makeReply_75, if_pos (by decide)]
    simp only [bd_e, and255 hf, shr8 hf]
    rw [send_mod (hq := by omega), cv_e, send_mod (hq := by omega), cv_e]
    generalize hA : sF (sF a q (nI (f % 256))) (sQ q (nI (f % 256))) (nI (f / 256)) = a2
    generalize hC : sF (sF c q (nI (f % 256))) (sQ q (nI (f % 256))) (nI (f / 256)) = c2
    have hac2 : ∀ j, j < sQ (sQ q (nI (f % 256))) (nI (f / 256)) → a2 j = c2 j := by
      rw [← hA, ← hC]
      exact sF_eq (sF_eq hac)
    generalize sQ (sQ q (nI (f % 256))) (nI (f / 256)) = q3 at *
    have g1 (β : Type) (k : Option β) : gi (nI q3) 30 k = k := gi_n (by omega) (by decide)
    have c1 : (nI q3).toNatClampNeg = q3 := cl_n (by omega)
    simp only [g1, c1, nI_1]
    refine ⟨q3 + 1, upd a2 q3 126, upd c2 q3 126, by omega, ?_, rfl, rfl⟩
    intro j hj
    by_cases j2 : j = q3
    · subst j2; rw [pk_us, pk_us]
    · rw [pk_un j2, pk_un j2]; exact hac2 j (by omega)
  | succ d ih =>
    intro i n m q a c hi hn hm hq hac
    obtain ⟨n, rfl⟩ : ∃ k, n = k + 1 := ⟨n - 1, by omega⟩
    obtain ⟨m, rfl⟩ : ∃ k, m = k + 1 := ⟨m - 1, by omega⟩
    have hle : ¬ (9 : Int32) ≤ nI i := nI_ge (b := 9) (by omega) (by decide)
    have g1 (β : Type) (k : Option β) : gi (nI i) 14 k = k := gi_n (by omega) (by decide)
    have c1 : (nI i).toNatClampNeg = i := cl_n (by omega)
    rw [fr_step (hq := by omega) (hi := by omega), f_Mod_makeReply_75, if_neg hle]
    simp only [bd_e, g1, c1, nI_1]
    rw [hb i (by omega), send_mod (hq := by omega), cv_e]
    have q1 := sQ_le (q := q) (b := mb i)
    exact ih (i + 1) n m _ _ _ (by omega) (by omega) (by omega) (by omega) (sF_eq hac)
/-- the number's bytes -/
theorem by_loop (th : Int32) (on : Int32) (tm : Int32) (cr : UInt64) (rg : (Nat → UInt64)) (hg : UInt64) (la : Int32) (op : Int32) (em : Int32) (pr : (Nat → UInt64)) (mi : (Nat → Int32)) (ta : (Nat → Int32)) (ev : (Nat → Int32)) (ec : Int32) (wo : (Nat → Int64)) (we : (Nat → Int32)) (pl : Int32) (cu : Int32) (tb : Int32) (be : Int32) (es : Int32) (mc : Int32) (bb an : Nat → Int32) (le rc0 be0 es0 : Int32) (v : Int64) (c : Nat → Int32) (hc : c 0 = 126) :
    ∀ (d i n m : Nat) (pa mb : Nat → Int32), d + i = 8 → d < n → d < m → (∀ j, j < i + 1 → pa j = mb j ∧ 0 ≤ (mb j).toInt ∧ (mb j).toInt ≤ 255) →
    ∃ (q' : Nat) (pa' mb' a' c' : Nat → Int32), q' ≤ 24 ∧ (∀ j, j < q' → a' j = c' j) ∧
      f_Line_answer_14 n v (nI (i + 1)) (bb, pa, an, le, rc0, be0, es0) = some (nI q', (bb, pa', a', le, nI q', be0, es0)) ∧
      f_Mod_makeReply_27 m v (nI i) (th, on, tm, cr, rg, hg, la, op, em, pr, mi, ta, ev, ec, wo, we, pl, cu, tb, be, es, mb, mc, c, 1) = some (th, on, tm, cr, rg, hg, la, op, em, pr, mi, ta, ev, ec, wo, we, pl, cu, tb, be, es, mb', mc, c', nI q') := by
  intro d
  induction d with
  | zero =>
    intro i n m pa mb hi hn hm h
    obtain ⟨n, rfl⟩ : ∃ k, n = k + 1 := ⟨n - 1, by omega⟩
    obtain ⟨m, rfl⟩ : ∃ k, m = k + 1 := ⟨m - 1, by omega⟩
    obtain rfl : i = 8 := by omega
    have hbm : By mb 9 := fun j hj => (h j hj).2
    have hbp : By pa 9 := fun j hj => by rw [(h j hj).1]; exact (h j hj).2
    have hfe : fv mb 9 = fv pa 9 := fv_congr (fun j hj => (h j hj).1.symm)
    have e1 := fv_cls 11 (by decide) pa hbp (by decide)
    have e2 := fv_mod (th, on, tm, cr, rg, hg, la, op, em, pr, mi, ta, ev, ec, wo, we, pl, cu, tb, be, es, mb, mc, c, 1) mb rfl hbm (by decide)
    rw [show nI 9 = 9 from by decide] at e1 e2
    have hle := fv_le pa 9
    rw [hfe] at e2
    generalize fv pa 9 = f at *
    rw [f_Line_answer_14, if_pos (by decide), f_Mod_makeReply_27, if_pos (by decide)]
    have g9 (β : Type) (k : Option β) : gi 9 11 k = k := gi_n (i := 9) (by decide) (by decide)
    have g10 (β : Type) (k : Option β) : gi 10 11 k = k := gi_n (i := 10) (by decide) (by decide)
    have g0 (β : Type) (k : Option β) : gi 0 24 k = k := gi_n (i := 0) (by decide) (by decide)
    have c9 : (9 : Int32).toNatClampNeg = 9 := by decide
    have c10 : (10 : Int32).toNatClampNeg = 10 := by decide
    unfold f_Line_frameAnswer
    simp only [e1, e2, ca_e, bd_e, d256 (show f < 2 ^ 31 by omega), r256, g9, g10, g0, c9, c10, cl0]
    obtain ⟨q', a', c', t1, t2, t3, t4⟩ := fr9 th on tm cr rg hg la op em pr mi ta ev ec wo we pl cu tb be es mb mc bb (upd (upd pa 9 (nI (f % 256))) 10 (nI (f / 256))) le rc0 be0 es0 f hle (by rw [pk_un (by decide), pk_us]) (by rw [pk_us]) (fun j hj => by rw [pk_un (by omega), pk_un (by omega)]; exact (h j hj).1) 9 0 64 64 1 (upd an 0 126) c (by omega) (by omega) (by omega) (by omega) (fun j hj => by
      obtain rfl : j = 0 := by omega
      rw [pk_us, hc])
    rw [nI_0, ← nI_e1] at t3 t4
    rw [t3, cv_e, t4]
    exact ⟨q', _, mb, a', c', t1, t2, rfl, rfl⟩
  | succ d ih =>
    intro i n m pa mb hi hn hm h
    obtain ⟨n, rfl⟩ : ∃ k, n = k + 1 := ⟨n - 1, by omega⟩
    obtain ⟨m, rfl⟩ : ∃ k, m = k + 1 := ⟨m - 1, by omega⟩
    have h1 : ¬ (8 : Int32) < nI (i + 1) := nI_nlt (a := 8) (by omega) (by decide)
    have h2 : ¬ (8 : Int32) ≤ nI i := nI_ge (b := 8) (by omega) (by decide)
    have e1 : (8 : Int32) - nI (i + 1) = nI (7 - i) := (pk_sub (a := 8) (by omega)).trans (by congr 1; omega)
    have e2 : (8 : Int32) * nI (7 - i) = nI (56 - 8 * i) := (nI_mul 8 _).trans (by congr 1; omega)
    have e3 : (8 : Int32) * nI i = nI (8 * i) := nI_mul 8 i
    have e4 : (56 : Int32) - nI (8 * i) = nI (56 - 8 * i) := pk_sub (a := 56) (by omega)
    have e5 : (1 : Int32) + nI i = nI (i + 1) := (nI_add 1 i).trans (by congr 1; omega)
    have g1 (β : Type) (k : Option β) : gi (nI (i + 1)) 11 k = k := gi_n (by omega) (by decide)
    have g2 (β : Type) (k : Option β) : gi (nI (i + 1)) 14 k = k := gi_n (by omega) (by decide)
    have c1 : (nI (i + 1)).toNatClampNeg = i + 1 := cl_n (by omega)
    obtain ⟨b, hb, eb⟩ := pk_andE (v >>> ((nI (56 - 8 * i)).toInt64 &&& 63)).toInt32 (m := 255) 8 (by decide)
    rw [f_Line_answer_14, if_neg h1, f_Mod_makeReply_27, if_neg h2]
    simp only [bd_e, e1, e2, e3, e4, e5, g1, g2, c1, eb, nI_1]
    refine ih (i + 1) n m _ _ (by omega) (by omega) (by omega) (fun j hj => ?_)
    by_cases q : j = i + 1
    · subst q
      rw [pk_us, pk_us, nI_toInt (by omega)]
      exact ⟨rfl, by omega, by omega⟩
    · rw [pk_un q, pk_un q]
      exact h j (by omega)
theorem answer (th : Int32) (on : Int32) (tm : Int32) (cr : UInt64) (rg : (Nat → UInt64)) (hg : UInt64) (la : Int32) (op : Int32) (em : Int32) (pr : (Nat → UInt64)) (mi : (Nat → Int32)) (ta : (Nat → Int32)) (ev : (Nat → Int32)) (ec : Int32) (wo : (Nat → Int64)) (we : (Nat → Int32)) (pl : Int32) (cu : Int32) (tb : Int32) (be : Int32) (es : Int32) (mb : (Nat → Int32)) (mc : Int32) (mr : (Nat → Int32)) (rc : Int32) (bb pa an : Nat → Int32) (le rc0 be0 es0 : Int32) (k : Nat) (hk : k ≤ 2) (v : Int64) :
    ∃ (q' : Nat) (pa' mb' a' c' : Nat → Int32), q' ≤ 24 ∧ (∀ j, j < q' → a' j = c' j) ∧
      f_Line_answer (nI k) v (bb, pa, an, le, rc0, be0, es0) = some (nI q', (bb, pa', a', le, nI q', be0, es0)) ∧
      f_Mod_makeReply (nI k) v (th, on, tm, cr, rg, hg, la, op, em, pr, mi, ta, ev, ec, wo, we, pl, cu, tb, be, es, mb, mc, mr, rc) = some (th, on, tm, cr, rg, hg, la, op, em, pr, mi, ta, ev, ec, wo, we, pl, cu, tb, be, es, mb', mc, c', nI q') := by
  have e : nI k + 128 = nI (k + 128) := nI_add k 128
  have g1 (β : Type) (k : Option β) : gi 0 11 k = k := gi_n (i := 0) (by decide) (by decide)
  have g2 (β : Type) (k : Option β) : gi 0 30 k = k := gi_n (i := 0) (by decide) (by decide)
  have g3 (β : Type) (k : Option β) : gi 0 14 k = k := gi_n (i := 0) (by decide) (by decide)
  unfold f_Line_answer f_Mod_makeReply
  simp only [bd_e, e, g1, g2, g3, cl0]
  obtain ⟨q', p', m', a', c', t1, t2, t3, t4⟩ := by_loop th on tm cr rg hg la op em pr mi ta ev ec wo we pl cu tb be es mc bb an le rc0 be0 es0 v (upd mr 0 126) pk_us 8 0 64 64 (upd pa 0 (nI (k + 128))) (upd mb 0 (nI (k + 128))) (by omega) (by omega) (by omega) (fun j hj => by
    obtain rfl : j = 0 := by omega
    rw [pk_us, pk_us, nI_toInt (by omega)]
    exact ⟨rfl, by omega, by omega⟩)
  rw [← nI_e1] at t3
  rw [nI_0] at t4
  exact ⟨q', p', m', a', c', t1, t2, t3, t4⟩
