def f_Plans_put (p1 : Int32) (p2 : Int32) (p3 : Int32) (p4 : Int32) (u : S_Plans) : Option (S_Plans) := bd (p1 * (4 : Int32)) (fun x1 : Int32 => bd (x1 + p2) (fun x2 : Int32 => gi x2 8 (bd (upd u.1 x2.toNatClampNeg p3) (fun F4 : Nat → Int32 => bd (p1 * (4 : Int32)) (fun x5 : Int32 => bd (x5 + p2) (fun x6 : Int32 => gi x6 8 (bd (upd u.2 x6.toNatClampNeg p4) (fun F8 : Nat → Int32 => some (F4, F8)))))))))
set_option maxHeartbeats 4000000 in
set_option maxRecDepth 100000 in
theorem c_Plans_put (l : Launch) (dC : Nat → ClassId) (dI : Nat → Nat → Nat) (cI cL cD : ClassId) (a0 a1 a2 : Nat) (sz : Nat) (p1 : Int32) (p2 : Int32) (p3 : Int32) (p4 : Int32) (u : S_Plans) (res : S_Plans) (hf : f_Plans_put p1 p2 p3 p4 u = some res) : Met l y_Plans_put w_Plans_put ({ frames := 0, cells := 0, slots := 0, locals := 0 }) (va_Pc [.ref a0, .int p1, .int p2, .int p3, .int p4] (fun U => U.heap.size = sz ∧ va_P (dC, dI) CL [(a0, .inr (3, [.ref a1, .ref a2])), (a1, .inl (cI, 8, .inl (u.1))), (a2, .inl (cI, 8, .inl (u.2)))] U.heap ∧ va_K (dC, dI) CL [(cI, .int), (cL, .long), (cD, .double)] U ∧ va_D (fun _ => True) [(a0, .inr (3, [.ref a1, .ref a2])), (a1, .inl (cI, 8, .inl (u.1))), (a2, .inl (cI, 8, .inl (u.2)))] ∧ NWs U)) (va_Qv (fun (w : S_Plans) => w = res) (fun (w : S_Plans) t => va_P (dC, dI) CL [(a0, .inr (3, [.ref a1, .ref a2])), (a1, .inl (cI, 8, .inl (w.1))), (a2, .inl (cI, 8, .inl (w.2)))] t.heap ∧ va_K (dC, dI) CL [(cI, .int), (cL, .long), (cD, .double)] t ∧ va_D (va_A [(a0, .inr (3, [.ref a1, .ref a2])), (a1, .inl (cI, 8, .inl (u.1))), (a2, .inl (cI, 8, .inl (u.2)))] sz) [(a0, .inr (3, [.ref a1, .ref a2])), (a1, .inl (cI, 8, .inl (w.1))), (a2, .inl (cI, 8, .inl (w.2)))]) (va_A [(a0, .inr (3, [.ref a1, .ref a2])), (a1, .inl (cI, 8, .inl (u.1))), (a2, .inl (cI, 8, .inl (u.2)))] sz)) 0 0 (va_A [(a0, .inr (3, [.ref a1, .ref a2])), (a1, .inl (cI, 8, .inl (u.1))), (a2, .inl (cI, 8, .inl (u.2)))] sz) := by
  refine Met.ofW (cc := b_Plans_put) (maxL := 5) (ret := none) (by decide) rfl ?_
  intro p e s m args below meth c s₁ B hml hv
  obtain ⟨rfl, hsz, hP, hK, hD0, hN⟩ := hv
  have hx := B.exec
  have hb := B.bytes
  have hr := B.returns
  have hts : ∀ w ∈ TB, w.before _ s = true := fun w h => atoms_spec (ws := w_Plans_put) B.pre w (List.mem_cons_of_mem _ h)
  have hown : s.vm.findClass R_Plans = some m.cls := findClass_of_methodNamed B.named
  have hlocks := B.notSynchronized
  subst hsz
  have hD := hD0.self (sz := s.heap.size)
  generalize hAe : va_A [(a0, .inr (3, [.ref a1, .ref a2])), (a1, .inl (cI, 8, .inl (u.1))), (a2, .inl (cI, 8, .inl (u.2)))] s.heap.size = A at hD ⊢
  have hA : ∀ q : Nat, s.heap.size ≤ q → A q := fun q h => by rw [← hAe]; exact Or.inr h
  have hS : va_S A s.heap s.heap [] := va_S.rf
  have hl := lv_entry ([.ref a0, .int p1, .int p2, .int p3, .int p4]) (n := 5) (Nat.le_of_ble_eq_true rfl)
  rw [lg_entry_eq]
  generalize (lg_sl ([.ref a0, .int p1, .int p2, .int p3, .int p4]) ++ List.replicate (5 - (lg_sl ([.ref a0, .int p1, .int p2, .int p3, .int p4])).length) Slot.unset).toArray = ls at hl ⊢
  have hl : lv_has ls 5 [(0, .ref a0), (1, .int p1), (2, .int p2), (3, .int p3), (4, .int p4)] := hl
  refine nameQ (fun Q hQe => ?_)
  rw [f_Plans_put] at hf
  refine lv_aload_n hx hb d_Plans_put_0 rfl (lv_at hl 0 rfl) ?_
  refine va_get (D := (dC, dI)) (ci := 3) (v := .ref a1) (C := R_Plans) (T := T_Plans) (N := 2) hx hb hts in_Plans hown hK hP 0 rfl rfl 0 (by decide) (hts _ t_73) (fun _ h9 => h9) rfl d_Plans_put_1 ?_
  refine lv_iload_n hx hb d_Plans_put_4 rfl (lv_at hl 1 rfl) ?_
  refine lv_iconst (v := 4) hx hb d_Plans_put_5 (by decide) ?_
  refine lv_imul hx hb d_Plans_put_6 ?_
  refine lv_topi (fun x1 ex1 => ?_)
  have hf := bd_t ex1 hf
  refine lv_iload_n hx hb d_Plans_put_7 rfl (lv_at hl 2 rfl) ?_
  refine lv_iadd hx hb d_Plans_put_8 ?_
  refine lv_topi (fun x2 ex2 => ?_)
  have hf := bd_t ex2 hf
  refine lv_iload_n hx hb d_Plans_put_9 rfl (lv_at hl 3 rfl) ?_
  obtain ⟨h3, hf⟩ := gi_t hf
  refine va_iast hx hb hK hP hD hS 1 0 rfl rfl h3 d_Plans_put_10 (fun H locs hP hD hS => ?_)
  obtain ⟨F4, eF4⟩ : ∃ y : Nat → Int32, y = upd u.1 x2.toNatClampNeg p3 := ⟨_, rfl⟩
  have hf := bd_t eF4 hf
  have hP : va_P (dC, dI) CL [(a0, .inr (3, [.ref a1, .ref a2])), (a1, .inl (cI, 8, .inl (F4))), (a2, .inl (cI, 8, .inl (u.2)))] H := by rw [eF4]; exact hP
  have hD : va_D A [(a0, .inr (3, [.ref a1, .ref a2])), (a1, .inl (cI, 8, .inl (F4))), (a2, .inl (cI, 8, .inl (u.2)))] := by rw [eF4]; exact hD
  refine lv_aload_n hx hb d_Plans_put_11 rfl (lv_at hl 0 rfl) ?_
  refine va_get (D := (dC, dI)) (ci := 3) (v := .ref a2) (C := R_Plans) (T := T_Plans) (N := 2) hx hb hts in_Plans hown hK hP 0 rfl rfl 1 (by decide) (hts _ t_74) (fun _ h9 => h9) rfl d_Plans_put_12 ?_
  refine lv_iload_n hx hb d_Plans_put_15 rfl (lv_at hl 1 rfl) ?_
  refine lv_iconst (v := 4) hx hb d_Plans_put_16 (by decide) ?_
  refine lv_imul hx hb d_Plans_put_17 ?_
  refine lv_topi (fun x5 ex5 => ?_)
  have hf := bd_t ex5 hf
  refine lv_iload_n hx hb d_Plans_put_18 rfl (lv_at hl 2 rfl) ?_
  refine lv_iadd hx hb d_Plans_put_19 ?_
  refine lv_topi (fun x6 ex6 => ?_)
  have hf := bd_t ex6 hf
  refine lv_iload hx hb d_Plans_put_20 (lv_at hl 4 rfl) ?_
  obtain ⟨h7, hf⟩ := gi_t hf
  refine va_iast hx hb hK hP hD hS 2 0 rfl rfl h7 d_Plans_put_22 (fun H locs hP hD hS => ?_)
  obtain ⟨F8, eF8⟩ : ∃ y : Nat → Int32, y = upd u.2 x6.toNatClampNeg p4 := ⟨_, rfl⟩
  have hf := bd_t eF8 hf
  have hP : va_P (dC, dI) CL [(a0, .inr (3, [.ref a1, .ref a2])), (a1, .inl (cI, 8, .inl (F4))), (a2, .inl (cI, 8, .inl (F8)))] H := by rw [eF8]; exact hP
  have hD : va_D A [(a0, .inr (3, [.ref a1, .ref a2])), (a1, .inl (cI, 8, .inl (F4))), (a2, .inl (cI, 8, .inl (F8)))] := by rw [eF8]; exact hD
  have hf := Option.some.inj hf
  rw [hQe]
  exact W.vret hx hb hr (fun t ht hW => ⟨⟨(F4, F8), rfl, hf, by rw [ht]; exact hP, va_K.moved hW.alike hK, hD⟩, hS.F ht⟩) hS.2.2 d_Plans_put_23
def f_Plans_size_6 : Nat → Int32 → Int32 → Int32 → S_Plans → Option (Int32 × S_Plans)
  | 0, _, _, _, _ => none
  | n + 1, v1, v2, v3, u => bd (v1 + (1 : Int32)) (fun x2 : Int32 => bd (x2 * (4 : Int32)) (fun x3 : Int32 => (if x3 ≤ v3 then some (v2, u) else gi v3 8 (bd (u.2 v3.toNatClampNeg) (fun x6 : Int32 => (if x6 = (-1 : Int32) then bd (v3 + (1 : Int32)) (fun x8 : Int32 => (f_Plans_size_6 n) v1 v2 x8 u) else bd (v2 + (1 : Int32)) (fun x9 : Int32 => bd (v3 + (1 : Int32)) (fun x10 : Int32 => (f_Plans_size_6 n) v1 x9 x10 u))))))))
def f_Plans_size (p1 : Int32) (u : S_Plans) : Option (Int32 × S_Plans) := bd (p1 * (4 : Int32)) (fun x1 : Int32 => f_Plans_size_6 64 p1 (0 : Int32) x1 u)
set_option maxHeartbeats 4000000 in
set_option maxRecDepth 100000 in
theorem c_Plans_size (l : Launch) (dC : Nat → ClassId) (dI : Nat → Nat → Nat) (cI cL cD : ClassId) (a0 a1 a2 : Nat) (sz : Nat) (p1 : Int32) (u : S_Plans) (res : Int32 × S_Plans) (hf : f_Plans_size p1 u = some res) : Met l y_Plans_size w_Plans_size ({ frames := 0, cells := 0, slots := 0, locals := 0 }) (va_Pc [.ref a0, .int p1] (fun U => U.heap.size = sz ∧ va_P (dC, dI) CL [(a0, .inr (3, [.ref a1, .ref a2])), (a1, .inl (cI, 8, .inl (u.1))), (a2, .inl (cI, 8, .inl (u.2)))] U.heap ∧ va_K (dC, dI) CL [(cI, .int), (cL, .long), (cD, .double)] U ∧ va_D (fun _ => True) [(a0, .inr (3, [.ref a1, .ref a2])), (a1, .inl (cI, 8, .inl (u.1))), (a2, .inl (cI, 8, .inl (u.2)))] ∧ NWs U)) (va_Qi (fun (r : Int32) (w : S_Plans) => r = res.1 ∧ w = res.2) (fun (w : S_Plans) t => va_P (dC, dI) CL [(a0, .inr (3, [.ref a1, .ref a2])), (a1, .inl (cI, 8, .inl (w.1))), (a2, .inl (cI, 8, .inl (w.2)))] t.heap ∧ va_K (dC, dI) CL [(cI, .int), (cL, .long), (cD, .double)] t ∧ va_D (va_A [(a0, .inr (3, [.ref a1, .ref a2])), (a1, .inl (cI, 8, .inl (u.1))), (a2, .inl (cI, 8, .inl (u.2)))] sz) [(a0, .inr (3, [.ref a1, .ref a2])), (a1, .inl (cI, 8, .inl (w.1))), (a2, .inl (cI, 8, .inl (w.2)))]) (va_A [(a0, .inr (3, [.ref a1, .ref a2])), (a1, .inl (cI, 8, .inl (u.1))), (a2, .inl (cI, 8, .inl (u.2)))] sz)) 0 0 (va_A [(a0, .inr (3, [.ref a1, .ref a2])), (a1, .inl (cI, 8, .inl (u.1))), (a2, .inl (cI, 8, .inl (u.2)))] sz) := by
  refine Met.ofW (cc := b_Plans_size) (maxL := 4) (ret := (some .int)) (by decide) rfl ?_
  intro p e s m args below meth c s₁ B hml hv
  obtain ⟨rfl, hsz, hP, hK, hD0, hN⟩ := hv
  have hx := B.exec
  have hb := B.bytes
  have hr := B.returns
  have hts : ∀ w ∈ TB, w.before _ s = true := fun w h => atoms_spec (ws := w_Plans_size) B.pre w (List.mem_cons_of_mem _ h)
  have hown : s.vm.findClass R_Plans = some m.cls := findClass_of_methodNamed B.named
  have hlocks := B.notSynchronized
  subst hsz
  have hD := hD0.self (sz := s.heap.size)
  generalize hAe : va_A [(a0, .inr (3, [.ref a1, .ref a2])), (a1, .inl (cI, 8, .inl (u.1))), (a2, .inl (cI, 8, .inl (u.2)))] s.heap.size = A at hD ⊢
  have hA : ∀ q : Nat, s.heap.size ≤ q → A q := fun q h => by rw [← hAe]; exact Or.inr h
  have hS : va_S A s.heap s.heap [] := va_S.rf
  have hl := lv_entry ([.ref a0, .int p1]) (n := 4) (Nat.le_of_ble_eq_true rfl)
  rw [lg_entry_eq]
  generalize (lg_sl ([.ref a0, .int p1]) ++ List.replicate (4 - (lg_sl ([.ref a0, .int p1])).length) Slot.unset).toArray = ls at hl ⊢
  have hl : lv_has ls 4 [(0, .ref a0), (1, .int p1)] := hl
  refine nameQ (fun Q hQe => ?_)
  have k_6 : ∀ (n : Nat), ∀ (v1 : Int32) (v2 : Int32) (v3 : Int32) (u : S_Plans), f_Plans_size_6 n v1 v2 v3 u = some res → ∀ (H : Heap) (locs : List Loc), va_P (dC, dI) CL [(a0, .inr (3, [.ref a1, .ref a2])), (a1, .inl (cI, 8, .inl (u.1))), (a2, .inl (cI, 8, .inl (u.2)))] H → va_D A [(a0, .inr (3, [.ref a1, .ref a2])), (a1, .inl (cI, 8, .inl (u.1))), (a2, .inl (cI, 8, .inl (u.2)))] → va_S A s.heap H locs → ∀ (ls : Array Slot), lv_has ls 4 [(0, .ref a0), (1, .int v1), (2, .int v2), (3, .int v3)] → W p l e (headSpec w_Plans_size ({ frames := 0, cells := 0, slots := 0, locals := 0 })).room s m ([.ref a0, .int p1] : List Value).toArray below meth c H locs 0 0 Q (F0 m 6 ls []) := by
    intro n
    induction n with
    | zero =>
      intro v1 v2 v3 u hf
      simp [f_Plans_size_6] at hf
    | succ n k_6 =>
      intro v1 v2 v3 u hf H locs hP hD hS ls hl
      rw [f_Plans_size_6] at hf
      refine lv_iload_n hx hb d_Plans_size_6 rfl (lv_at hl 3 rfl) ?_
      refine lv_iload_n hx hb d_Plans_size_7 rfl (lv_at hl 1 rfl) ?_
      refine lv_iconst (v := 1) hx hb d_Plans_size_8 (by decide) ?_
      refine lv_iadd hx hb d_Plans_size_9 ?_
      refine lv_topi (fun x2 ex2 => ?_)
      have hf := bd_t ex2 hf
      refine lv_iconst (v := 4) hx hb d_Plans_size_10 (by decide) ?_
      refine lv_imul hx hb d_Plans_size_11 ?_
      refine lv_topi (fun x3 ex3 => ?_)
      have hf := bd_t ex3 hf
      refine lv_icmp_ge (tgt := 34) hx hb d_Plans_size_12 (by decide) (fun c4 => ?_) (fun c4 => ?_)
      · have hf := ite_t c4 hf
        refine lv_iload_n hx hb d_Plans_size_34 rfl (lv_at hl 2 rfl) ?_
        have hf := Option.some.inj hf
        rw [hQe]
        exact W.iret (v := v2) hx hb hr (fun t ht hW => ⟨⟨v2, u, rfl, ⟨congrArg Prod.fst hf, congrArg Prod.snd hf⟩, by rw [ht]; exact hP, va_K.moved hW.alike hK, hD⟩, hS.F ht⟩) hS.2.2 d_Plans_size_35
      · have hf := ite_f c4 hf
        refine lv_aload_n hx hb d_Plans_size_15 rfl (lv_at hl 0 rfl) ?_
        refine va_get (D := (dC, dI)) (ci := 3) (v := .ref a2) (C := R_Plans) (T := T_Plans) (N := 2) hx hb hts in_Plans hown hK hP 0 rfl rfl 1 (by decide) (hts _ t_74) (fun _ h9 => h9) rfl d_Plans_size_16 ?_
        refine lv_iload_n hx hb d_Plans_size_19 rfl (lv_at hl 3 rfl) ?_
        obtain ⟨h5, hf⟩ := gi_t hf
        refine va_iald hx hb hK hP 2 0 rfl rfl h5 d_Plans_size_20 ?_
        refine lv_topi (fun x6 ex6 => ?_)
        have hf := bd_t ex6 hf
        refine lv_iconst (v := -1) hx hb d_Plans_size_21 (by decide) ?_
        refine lv_icmp_eq (tgt := 28) hx hb d_Plans_size_22 (by decide) (fun c7 => ?_) (fun c7 => ?_)
        · have hf := ite_t c7 hf
          obtain ⟨x8, ex8⟩ : ∃ y : Int32, y = v3 + (1 : Int32) := ⟨_, rfl⟩
          have hf := bd_t ex8 hf
          refine lv_iinc (v := x8) (lv' := [(3, .int x8), (0, .ref a0), (1, .int v1), (2, .int v2)]) hx hb d_Plans_size_28 hl (k := 3) rfl (by rw [ex8]; rfl) (by decide) rfl (fun ls hl => ?_)
          refine lv_goto (tgt := 6) hx hb d_Plans_size_31 (by decide) ?_
          have hl := lv_sub hl (l' := [(0, .ref a0), (1, .int v1), (2, .int v2), (3, .int x8)]) [1, 2, 3, 0] rfl
          exact k_6 v1 v2 x8 u hf _ _ hP hD hS ls hl
        · have hf := ite_f c7 hf
          obtain ⟨x9, ex9⟩ : ∃ y : Int32, y = v2 + (1 : Int32) := ⟨_, rfl⟩
          have hf := bd_t ex9 hf
          refine lv_iinc (v := x9) (lv' := [(2, .int x9), (0, .ref a0), (1, .int v1), (3, .int v3)]) hx hb d_Plans_size_25 hl (k := 2) rfl (by rw [ex9]; rfl) (by decide) rfl (fun ls hl => ?_)
          obtain ⟨x10, ex10⟩ : ∃ y : Int32, y = v3 + (1 : Int32) := ⟨_, rfl⟩
          have hf := bd_t ex10 hf
          refine lv_iinc (v := x10) (lv' := [(3, .int x10), (2, .int x9), (0, .ref a0), (1, .int v1)]) hx hb d_Plans_size_28 hl (k := 3) rfl (by rw [ex10]; rfl) (by decide) rfl (fun ls hl => ?_)
          refine lv_goto (tgt := 6) hx hb d_Plans_size_31 (by decide) ?_
          have hl := lv_sub hl (l' := [(0, .ref a0), (1, .int v1), (2, .int x9), (3, .int x10)]) [2, 3, 1, 0] rfl
          exact k_6 v1 x9 x10 u hf _ _ hP hD hS ls hl
  rw [f_Plans_size] at hf
  refine lv_iconst (v := 0) hx hb d_Plans_size_0 (by decide) ?_
  refine lv_istore_n (lv' := [(2, .int (0 : Int32)), (0, .ref a0), (1, .int p1)]) hx hb d_Plans_size_1 rfl hl (by decide) rfl (fun ls hl => ?_)
  refine lv_iload_n hx hb d_Plans_size_2 rfl (lv_at hl 2 rfl) ?_
  refine lv_iconst (v := 4) hx hb d_Plans_size_3 (by decide) ?_
  refine lv_imul hx hb d_Plans_size_4 ?_
  refine lv_topi (fun x1 ex1 => ?_)
  have hf := bd_t ex1 hf
  refine lv_istore_n (lv' := [(3, .int x1), (2, .int (0 : Int32)), (0, .ref a0), (1, .int p1)]) hx hb d_Plans_size_5 rfl hl (by decide) rfl (fun ls hl => ?_)
  have hl := lv_sub hl (l' := [(0, .ref a0), (1, .int p1), (2, .int (0 : Int32)), (3, .int x1)]) [2, 3, 1, 0] rfl
  exact k_6 64 p1 (0 : Int32) x1 u hf _ _ hP hD hS ls hl
def f_Plans_tariffAt_30 : Nat → Int32 → Int32 → Int32 → Int32 → S_Plans → Option (Int32 × S_Plans)
  | 0, _, _, _, _, _ => none
  | n + 1, v2, v3, v4, v5, u => bd (v2 + (4 : Int32)) (fun x5 : Int32 => (if x5 ≤ v5 then (if v4 = (-1 : Int32) then some ((0 : Int32), u) else gi v4 8 (bd (u.2 v4.toNatClampNeg) (fun x9 : Int32 => some (x9, u)))) else gi v5 8 (bd (u.2 v5.toNatClampNeg) (fun x11 : Int32 => (if x11 = (-1 : Int32) then bd (v5 + (1 : Int32)) (fun x13 : Int32 => (f_Plans_tariffAt_30 n) v2 v3 v4 x13 u) else gi v5 8 (bd (u.1 v5.toNatClampNeg) (fun x15 : Int32 => (if v3 < x15 then bd (v5 + (1 : Int32)) (fun x17 : Int32 => (f_Plans_tariffAt_30 n) v2 v3 v4 x17 u) else (if v4 = (-1 : Int32) then bd (v5 + (1 : Int32)) (fun x19 : Int32 => (f_Plans_tariffAt_30 n) v2 v3 v5 x19 u) else gi v5 8 (bd (u.1 v5.toNatClampNeg) (fun x21 : Int32 => gi v4 8 (bd (u.1 v4.toNatClampNeg) (fun x23 : Int32 => (if x21 ≤ x23 then bd (v5 + (1 : Int32)) (fun x25 : Int32 => (f_Plans_tariffAt_30 n) v2 v3 v4 x25 u) else bd (v5 + (1 : Int32)) (fun x26 : Int32 => (f_Plans_tariffAt_30 n) v2 v3 v5 x26 u)))))))))))))))
def f_Plans_tariffAt_17 (v1 : Int32) (s0 : Int32) (u : S_Plans) : Option (Int32 × S_Plans) := bd (v1 - v1 / (1440 : Int32) * (1440 : Int32)) (fun x4 : Int32 => f_Plans_tariffAt_30 64 s0 x4 (-1 : Int32) s0 u)
def f_Plans_tariffAt (p1 : Int32) (u : S_Plans) : Option (Int32 × S_Plans) := bd (p1 / (1440 : Int32)) (fun x1 : Int32 => bd (x1 - x1 / (7 : Int32) * (7 : Int32)) (fun x2 : Int32 => (if x2 < (5 : Int32) then f_Plans_tariffAt_17 p1 (0 : Int32) u else f_Plans_tariffAt_17 p1 (4 : Int32) u)))
set_option maxHeartbeats 4000000 in
set_option maxRecDepth 100000 in
theorem c_Plans_tariffAt (l : Launch) (dC : Nat → ClassId) (dI : Nat → Nat → Nat) (cI cL cD : ClassId) (a0 a1 a2 : Nat) (sz : Nat) (p1 : Int32) (u : S_Plans) (res : Int32 × S_Plans) (hf : f_Plans_tariffAt p1 u = some res) : Met l y_Plans_tariffAt w_Plans_tariffAt ({ frames := 0, cells := 0, slots := 0, locals := 0 }) (va_Pc [.ref a0, .int p1] (fun U => U.heap.size = sz ∧ va_P (dC, dI) CL [(a0, .inr (3, [.ref a1, .ref a2])), (a1, .inl (cI, 8, .inl (u.1))), (a2, .inl (cI, 8, .inl (u.2)))] U.heap ∧ va_K (dC, dI) CL [(cI, .int), (cL, .long), (cD, .double)] U ∧ va_D (fun _ => True) [(a0, .inr (3, [.ref a1, .ref a2])), (a1, .inl (cI, 8, .inl (u.1))), (a2, .inl (cI, 8, .inl (u.2)))] ∧ NWs U)) (va_Qi (fun (r : Int32) (w : S_Plans) => r = res.1 ∧ w = res.2) (fun (w : S_Plans) t => va_P (dC, dI) CL [(a0, .inr (3, [.ref a1, .ref a2])), (a1, .inl (cI, 8, .inl (w.1))), (a2, .inl (cI, 8, .inl (w.2)))] t.heap ∧ va_K (dC, dI) CL [(cI, .int), (cL, .long), (cD, .double)] t ∧ va_D (va_A [(a0, .inr (3, [.ref a1, .ref a2])), (a1, .inl (cI, 8, .inl (u.1))), (a2, .inl (cI, 8, .inl (u.2)))] sz) [(a0, .inr (3, [.ref a1, .ref a2])), (a1, .inl (cI, 8, .inl (w.1))), (a2, .inl (cI, 8, .inl (w.2)))]) (va_A [(a0, .inr (3, [.ref a1, .ref a2])), (a1, .inl (cI, 8, .inl (u.1))), (a2, .inl (cI, 8, .inl (u.2)))] sz)) 0 0 (va_A [(a0, .inr (3, [.ref a1, .ref a2])), (a1, .inl (cI, 8, .inl (u.1))), (a2, .inl (cI, 8, .inl (u.2)))] sz) := by
  refine Met.ofW (cc := b_Plans_tariffAt) (maxL := 6) (ret := (some .int)) (by decide) rfl ?_
  intro p e s m args below meth c s₁ B hml hv
  obtain ⟨rfl, hsz, hP, hK, hD0, hN⟩ := hv
  have hx := B.exec
  have hb := B.bytes
  have hr := B.returns
  have hts : ∀ w ∈ TB, w.before _ s = true := fun w h => atoms_spec (ws := w_Plans_tariffAt) B.pre w (List.mem_cons_of_mem _ h)
  have hown : s.vm.findClass R_Plans = some m.cls := findClass_of_methodNamed B.named
  have hlocks := B.notSynchronized
  subst hsz
  have hD := hD0.self (sz := s.heap.size)
  generalize hAe : va_A [(a0, .inr (3, [.ref a1, .ref a2])), (a1, .inl (cI, 8, .inl (u.1))), (a2, .inl (cI, 8, .inl (u.2)))] s.heap.size = A at hD ⊢
  have hA : ∀ q : Nat, s.heap.size ≤ q → A q := fun q h => by rw [← hAe]; exact Or.inr h
  have hS : va_S A s.heap s.heap [] := va_S.rf
  have hl := lv_entry ([.ref a0, .int p1]) (n := 6) (Nat.le_of_ble_eq_true rfl)
  rw [lg_entry_eq]
  generalize (lg_sl ([.ref a0, .int p1]) ++ List.replicate (6 - (lg_sl ([.ref a0, .int p1])).length) Slot.unset).toArray = ls at hl ⊢
  have hl : lv_has ls 6 [(0, .ref a0), (1, .int p1)] := hl
  refine nameQ (fun Q hQe => ?_)
  have k_30 : ∀ (n : Nat), ∀ (v2 : Int32) (v3 : Int32) (v4 : Int32) (v5 : Int32) (u : S_Plans), f_Plans_tariffAt_30 n v2 v3 v4 v5 u = some res → ∀ (H : Heap) (locs : List Loc), va_P (dC, dI) CL [(a0, .inr (3, [.ref a1, .ref a2])), (a1, .inl (cI, 8, .inl (u.1))), (a2, .inl (cI, 8, .inl (u.2)))] H → va_D A [(a0, .inr (3, [.ref a1, .ref a2])), (a1, .inl (cI, 8, .inl (u.1))), (a2, .inl (cI, 8, .inl (u.2)))] → va_S A s.heap H locs → ∀ (ls : Array Slot), lv_has ls 6 [(0, .ref a0), (2, .int v2), (3, .int v3), (4, .int v4), (5, .int v5)] → W p l e (headSpec w_Plans_tariffAt ({ frames := 0, cells := 0, slots := 0, locals := 0 })).room s m ([.ref a0, .int p1] : List Value).toArray below meth c H locs 0 0 Q (F0 m 30 ls []) := by
    intro n
    induction n with
    | zero =>
      intro v2 v3 v4 v5 u hf
      simp [f_Plans_tariffAt_30] at hf
    | succ n k_30 =>
      intro v2 v3 v4 v5 u hf H locs hP hD hS ls hl
      rw [f_Plans_tariffAt_30] at hf
      refine lv_iload hx hb d_Plans_tariffAt_30 (lv_at hl 4 rfl) ?_
      refine lv_iload_n hx hb d_Plans_tariffAt_32 rfl (lv_at hl 1 rfl) ?_
      refine lv_iconst (v := 4) hx hb d_Plans_tariffAt_33 (by decide) ?_
      refine lv_iadd hx hb d_Plans_tariffAt_34 ?_
      refine lv_topi (fun x5 ex5 => ?_)
      have hf := bd_t ex5 hf
      refine lv_icmp_ge (tgt := 93) hx hb d_Plans_tariffAt_35 (by decide) (fun c6 => ?_) (fun c6 => ?_)
      · have hf := ite_t c6 hf
        refine lv_iload hx hb d_Plans_tariffAt_93 (lv_at hl 3 rfl) ?_
        refine lv_iconst (v := -1) hx hb d_Plans_tariffAt_95 (by decide) ?_
        refine lv_icmp_ne (tgt := 103) hx hb d_Plans_tariffAt_96 (by decide) (fun c7 => ?_) (fun c7 => ?_)
        · have hf := ite_f c7 hf
          refine lv_aload_n hx hb d_Plans_tariffAt_103 rfl (lv_at hl 0 rfl) ?_
          refine va_get (D := (dC, dI)) (ci := 3) (v := .ref a2) (C := R_Plans) (T := T_Plans) (N := 2) hx hb hts in_Plans hown hK hP 0 rfl rfl 1 (by decide) (hts _ t_74) (fun _ h9 => h9) rfl d_Plans_tariffAt_104 ?_
          refine lv_iload hx hb d_Plans_tariffAt_107 (lv_at hl 3 rfl) ?_
          obtain ⟨h8, hf⟩ := gi_t hf
          refine va_iald hx hb hK hP 2 0 rfl rfl h8 d_Plans_tariffAt_109 ?_
          refine lv_topi (fun x9 ex9 => ?_)
          have hf := bd_t ex9 hf
          have hf := Option.some.inj hf
          rw [hQe]
          exact W.iret (v := x9) hx hb hr (fun t ht hW => ⟨⟨x9, u, rfl, ⟨congrArg Prod.fst hf, congrArg Prod.snd hf⟩, by rw [ht]; exact hP, va_K.moved hW.alike hK, hD⟩, hS.F ht⟩) hS.2.2 d_Plans_tariffAt_110
        · have hf := ite_t c7 hf
          refine lv_iconst (v := 0) hx hb d_Plans_tariffAt_99 (by decide) ?_
          refine lv_goto (tgt := 110) hx hb d_Plans_tariffAt_100 (by decide) ?_
          have hf := Option.some.inj hf
          rw [hQe]
          exact W.iret (v := (0 : Int32)) hx hb hr (fun t ht hW => ⟨⟨(0 : Int32), u, rfl, ⟨congrArg Prod.fst hf, congrArg Prod.snd hf⟩, by rw [ht]; exact hP, va_K.moved hW.alike hK, hD⟩, hS.F ht⟩) hS.2.2 d_Plans_tariffAt_110
      · have hf := ite_f c6 hf
        refine lv_aload_n hx hb d_Plans_tariffAt_38 rfl (lv_at hl 0 rfl) ?_
        refine va_get (D := (dC, dI)) (ci := 3) (v := .ref a2) (C := R_Plans) (T := T_Plans) (N := 2) hx hb hts in_Plans hown hK hP 0 rfl rfl 1 (by decide) (hts _ t_74) (fun _ h9 => h9) rfl d_Plans_tariffAt_39 ?_
        refine lv_iload hx hb d_Plans_tariffAt_42 (lv_at hl 4 rfl) ?_
        obtain ⟨h10, hf⟩ := gi_t hf
        refine va_iald hx hb hK hP 2 0 rfl rfl h10 d_Plans_tariffAt_44 ?_
        refine lv_topi (fun x11 ex11 => ?_)
        have hf := bd_t ex11 hf
        refine lv_iconst (v := -1) hx hb d_Plans_tariffAt_45 (by decide) ?_
        refine lv_icmp_eq (tgt := 87) hx hb d_Plans_tariffAt_46 (by decide) (fun c12 => ?_) (fun c12 => ?_)
        · have hf := ite_t c12 hf
          obtain ⟨x13, ex13⟩ : ∃ y : Int32, y = v5 + (1 : Int32) := ⟨_, rfl⟩
          have hf := bd_t ex13 hf
          refine lv_iinc (v := x13) (lv' := [(5, .int x13), (0, .ref a0), (2, .int v2), (3, .int v3), (4, .int v4)]) hx hb d_Plans_tariffAt_87 hl (k := 4) rfl (by rw [ex13]; rfl) (by decide) rfl (fun ls hl => ?_)
          refine lv_goto (tgt := 30) hx hb d_Plans_tariffAt_90 (by decide) ?_
          have hl := lv_sub hl (l' := [(0, .ref a0), (2, .int v2), (3, .int v3), (4, .int v4), (5, .int x13)]) [1, 2, 3, 4, 0] rfl
          exact k_30 v2 v3 v4 x13 u hf _ _ hP hD hS ls hl
        · have hf := ite_f c12 hf
          refine lv_aload_n hx hb d_Plans_tariffAt_49 rfl (lv_at hl 0 rfl) ?_
          refine va_get (D := (dC, dI)) (ci := 3) (v := .ref a1) (C := R_Plans) (T := T_Plans) (N := 2) hx hb hts in_Plans hown hK hP 0 rfl rfl 0 (by decide) (hts _ t_73) (fun _ h9 => h9) rfl d_Plans_tariffAt_50 ?_
          refine lv_iload hx hb d_Plans_tariffAt_53 (lv_at hl 4 rfl) ?_
          obtain ⟨h14, hf⟩ := gi_t hf
          refine va_iald hx hb hK hP 1 0 rfl rfl h14 d_Plans_tariffAt_55 ?_
          refine lv_topi (fun x15 ex15 => ?_)
          have hf := bd_t ex15 hf
          refine lv_iload_n hx hb d_Plans_tariffAt_56 rfl (lv_at hl 2 rfl) ?_
          refine lv_icmp_gt (tgt := 87) hx hb d_Plans_tariffAt_57 (by decide) (fun c16 => ?_) (fun c16 => ?_)
          · have hf := ite_t c16 hf
            obtain ⟨x17, ex17⟩ : ∃ y : Int32, y = v5 + (1 : Int32) := ⟨_, rfl⟩
            have hf := bd_t ex17 hf
            refine lv_iinc (v := x17) (lv' := [(5, .int x17), (0, .ref a0), (2, .int v2), (3, .int v3), (4, .int v4)]) hx hb d_Plans_tariffAt_87 hl (k := 4) rfl (by rw [ex17]; rfl) (by decide) rfl (fun ls hl => ?_)
            refine lv_goto (tgt := 30) hx hb d_Plans_tariffAt_90 (by decide) ?_
            have hl := lv_sub hl (l' := [(0, .ref a0), (2, .int v2), (3, .int v3), (4, .int v4), (5, .int x17)]) [1, 2, 3, 4, 0] rfl
            exact k_30 v2 v3 v4 x17 u hf _ _ hP hD hS ls hl
          · have hf := ite_f c16 hf
            refine lv_iload hx hb d_Plans_tariffAt_60 (lv_at hl 3 rfl) ?_
            refine lv_iconst (v := -1) hx hb d_Plans_tariffAt_62 (by decide) ?_
            refine lv_icmp_eq (tgt := 83) hx hb d_Plans_tariffAt_63 (by decide) (fun c18 => ?_) (fun c18 => ?_)
            · have hf := ite_t c18 hf
              refine lv_iload hx hb d_Plans_tariffAt_83 (lv_at hl 4 rfl) ?_
              refine lv_istore (lv' := [(4, .int v5), (0, .ref a0), (2, .int v2), (3, .int v3), (5, .int v5)]) hx hb d_Plans_tariffAt_85 hl (by decide) rfl (fun ls hl => ?_)
              obtain ⟨x19, ex19⟩ : ∃ y : Int32, y = v5 + (1 : Int32) := ⟨_, rfl⟩
              have hf := bd_t ex19 hf
              refine lv_iinc (v := x19) (lv' := [(5, .int x19), (4, .int v5), (0, .ref a0), (2, .int v2), (3, .int v3)]) hx hb d_Plans_tariffAt_87 hl (k := 4) rfl (by rw [ex19]; rfl) (by decide) rfl (fun ls hl => ?_)
              refine lv_goto (tgt := 30) hx hb d_Plans_tariffAt_90 (by decide) ?_
              have hl := lv_sub hl (l' := [(0, .ref a0), (2, .int v2), (3, .int v3), (4, .int v5), (5, .int x19)]) [2, 3, 4, 1, 0] rfl
              exact k_30 v2 v3 v5 x19 u hf _ _ hP hD hS ls hl
            · have hf := ite_f c18 hf
              refine lv_aload_n hx hb d_Plans_tariffAt_66 rfl (lv_at hl 0 rfl) ?_
              refine va_get (D := (dC, dI)) (ci := 3) (v := .ref a1) (C := R_Plans) (T := T_Plans) (N := 2) hx hb hts in_Plans hown hK hP 0 rfl rfl 0 (by decide) (hts _ t_73) (fun _ h9 => h9) rfl d_Plans_tariffAt_67 ?_
              refine lv_iload hx hb d_Plans_tariffAt_70 (lv_at hl 4 rfl) ?_
              obtain ⟨h20, hf⟩ := gi_t hf
              refine va_iald hx hb hK hP 1 0 rfl rfl h20 d_Plans_tariffAt_72 ?_
              refine lv_topi (fun x21 ex21 => ?_)
              have hf := bd_t ex21 hf
              refine lv_aload_n hx hb d_Plans_tariffAt_73 rfl (lv_at hl 0 rfl) ?_
              refine va_get (D := (dC, dI)) (ci := 3) (v := .ref a1) (C := R_Plans) (T := T_Plans) (N := 2) hx hb hts in_Plans hown hK hP 0 rfl rfl 0 (by decide) (hts _ t_73) (fun _ h9 => h9) rfl d_Plans_tariffAt_74 ?_
              refine lv_iload hx hb d_Plans_tariffAt_77 (lv_at hl 3 rfl) ?_
              obtain ⟨h22, hf⟩ := gi_t hf
              refine va_iald hx hb hK hP 1 0 rfl rfl h22 d_Plans_tariffAt_79 ?_
              refine lv_topi (fun x23 ex23 => ?_)
              have hf := bd_t ex23 hf
              refine lv_icmp_le (tgt := 87) hx hb d_Plans_tariffAt_80 (by decide) (fun c24 => ?_) (fun c24 => ?_)
              · have hf := ite_t c24 hf
                obtain ⟨x25, ex25⟩ : ∃ y : Int32, y = v5 + (1 : Int32) := ⟨_, rfl⟩
                have hf := bd_t ex25 hf
                refine lv_iinc (v := x25) (lv' := [(5, .int x25), (0, .ref a0), (2, .int v2), (3, .int v3), (4, .int v4)]) hx hb d_Plans_tariffAt_87 hl (k := 4) rfl (by rw [ex25]; rfl) (by decide) rfl (fun ls hl => ?_)
                refine lv_goto (tgt := 30) hx hb d_Plans_tariffAt_90 (by decide) ?_
                have hl := lv_sub hl (l' := [(0, .ref a0), (2, .int v2), (3, .int v3), (4, .int v4), (5, .int x25)]) [1, 2, 3, 4, 0] rfl
                exact k_30 v2 v3 v4 x25 u hf _ _ hP hD hS ls hl
              · have hf := ite_f c24 hf
                refine lv_iload hx hb d_Plans_tariffAt_83 (lv_at hl 4 rfl) ?_
                refine lv_istore (lv' := [(4, .int v5), (0, .ref a0), (2, .int v2), (3, .int v3), (5, .int v5)]) hx hb d_Plans_tariffAt_85 hl (by decide) rfl (fun ls hl => ?_)
                obtain ⟨x26, ex26⟩ : ∃ y : Int32, y = v5 + (1 : Int32) := ⟨_, rfl⟩
                have hf := bd_t ex26 hf
                refine lv_iinc (v := x26) (lv' := [(5, .int x26), (4, .int v5), (0, .ref a0), (2, .int v2), (3, .int v3)]) hx hb d_Plans_tariffAt_87 hl (k := 4) rfl (by rw [ex26]; rfl) (by decide) rfl (fun ls hl => ?_)
                refine lv_goto (tgt := 30) hx hb d_Plans_tariffAt_90 (by decide) ?_
                have hl := lv_sub hl (l' := [(0, .ref a0), (2, .int v2), (3, .int v3), (4, .int v5), (5, .int x26)]) [2, 3, 4, 1, 0] rfl
                exact k_30 v2 v3 v5 x26 u hf _ _ hP hD hS ls hl
  have k_17 : ∀ (v1 : Int32) (s0 : Int32) (u : S_Plans), f_Plans_tariffAt_17 v1 s0 u = some res → ∀ (H : Heap) (locs : List Loc), va_P (dC, dI) CL [(a0, .inr (3, [.ref a1, .ref a2])), (a1, .inl (cI, 8, .inl (u.1))), (a2, .inl (cI, 8, .inl (u.2)))] H → va_D A [(a0, .inr (3, [.ref a1, .ref a2])), (a1, .inl (cI, 8, .inl (u.1))), (a2, .inl (cI, 8, .inl (u.2)))] → va_S A s.heap H locs → ∀ (ls : Array Slot), lv_has ls 6 [(0, .ref a0), (1, .int v1)] → W p l e (headSpec w_Plans_tariffAt ({ frames := 0, cells := 0, slots := 0, locals := 0 })).room s m ([.ref a0, .int p1] : List Value).toArray below meth c H locs 0 0 Q (F0 m 17 ls [.int s0]) := by
    intro v1 s0 u hf H locs hP hD hS ls hl
    rw [f_Plans_tariffAt_17] at hf
    refine lv_istore_n (lv' := [(2, .int s0), (0, .ref a0), (1, .int v1)]) hx hb d_Plans_tariffAt_17 rfl hl (by decide) rfl (fun ls hl => ?_)
    refine lv_iload_n hx hb d_Plans_tariffAt_18 rfl (lv_at hl 2 rfl) ?_
    refine lv_sipush (v := 1440) hx hb d_Plans_tariffAt_19 (by decide) ?_
    refine lv_irem hx hb d_Plans_tariffAt_22 (by decide) ?_
    refine lv_topi (fun x4 ex4 => ?_)
    have hf := bd_t ex4 hf
    refine lv_istore_n (lv' := [(3, .int x4), (2, .int s0), (0, .ref a0), (1, .int v1)]) hx hb d_Plans_tariffAt_23 rfl hl (by decide) rfl (fun ls hl => ?_)
    refine lv_iconst (v := -1) hx hb d_Plans_tariffAt_24 (by decide) ?_
    refine lv_istore (lv' := [(4, .int (-1 : Int32)), (3, .int x4), (2, .int s0), (0, .ref a0), (1, .int v1)]) hx hb d_Plans_tariffAt_25 hl (by decide) rfl (fun ls hl => ?_)
    refine lv_iload_n hx hb d_Plans_tariffAt_27 rfl (lv_at hl 2 rfl) ?_
    refine lv_istore (lv' := [(5, .int s0), (4, .int (-1 : Int32)), (3, .int x4), (2, .int s0), (0, .ref a0), (1, .int v1)]) hx hb d_Plans_tariffAt_28 hl (by decide) rfl (fun ls hl => ?_)
    have hl := lv_sub hl (l' := [(0, .ref a0), (2, .int s0), (3, .int x4), (4, .int (-1 : Int32)), (5, .int s0)]) [4, 3, 2, 1, 0] rfl
    exact k_30 64 s0 x4 (-1 : Int32) s0 u hf _ _ hP hD hS ls hl
  rw [f_Plans_tariffAt] at hf
  refine lv_iload_n hx hb d_Plans_tariffAt_0 rfl (lv_at hl 1 rfl) ?_
  refine lv_sipush (v := 1440) hx hb d_Plans_tariffAt_1 (by decide) ?_
  refine lv_idiv hx hb d_Plans_tariffAt_4 (by decide) ?_
  refine lv_topi (fun x1 ex1 => ?_)
  have hf := bd_t ex1 hf
  refine lv_bipush (v := 7) hx hb d_Plans_tariffAt_5 (by decide) ?_
  refine lv_irem hx hb d_Plans_tariffAt_7 (by decide) ?_
  refine lv_topi (fun x2 ex2 => ?_)
  have hf := bd_t ex2 hf
  refine lv_iconst (v := 5) hx hb d_Plans_tariffAt_8 (by decide) ?_
  refine lv_icmp_lt (tgt := 16) hx hb d_Plans_tariffAt_9 (by decide) (fun c3 => ?_) (fun c3 => ?_)
  · have hf := ite_t c3 hf
    refine lv_iconst (v := 0) hx hb d_Plans_tariffAt_16 (by decide) ?_
    have hl := lv_sub hl (l' := [(0, .ref a0), (1, .int p1)]) [0, 1] rfl
    exact k_17 p1 (0 : Int32) u hf _ _ hP hD hS ls hl
  · have hf := ite_f c3 hf
    refine lv_iconst (v := 4) hx hb d_Plans_tariffAt_12 (by decide) ?_
    refine lv_goto (tgt := 17) hx hb d_Plans_tariffAt_13 (by decide) ?_
    have hl := lv_sub hl (l' := [(0, .ref a0), (1, .int p1)]) [0, 1] rfl
    exact k_17 p1 (4 : Int32) u hf _ _ hP hD hS ls hl
