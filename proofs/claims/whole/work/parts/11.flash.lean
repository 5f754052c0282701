def f_Flash_setCut (p1 : Int32) (u : S_Flash) : Option (Int32 × S_Flash) := some (u.2.2.2.2, (u.1, u.2.1, u.2.2.1, u.2.2.2.1, p1))
set_option maxHeartbeats 4000000 in
set_option maxRecDepth 100000 in
theorem c_Flash_setCut (l : Launch) (dC : Nat → ClassId) (dI : Nat → Nat → Nat) (cI cL cD : ClassId) (a0 a1 a2 a3 : Nat) (sz : Nat) (p1 : Int32) (u : S_Flash) (res : Int32 × S_Flash) (hf : f_Flash_setCut p1 u = some res) : Met l y_Flash_setCut w_Flash_setCut ({ frames := 0, cells := 0, slots := 0, locals := 0 }) (va_Pc [.ref a0, .int p1] (fun U => U.heap.size = sz ∧ va_P (dC, dI) CL [(a0, .inr (1, [.ref a1, .ref a2, .ref a3, .int u.2.2.2.1, .int u.2.2.2.2])), (a1, .inl (cL, 72, .inr (.inl (u.1)))), (a2, .inl (cI, 4, .inl (u.2.1))), (a3, .inl (cL, 6, .inr (.inl (u.2.2.1))))] U.heap ∧ va_K (dC, dI) CL [(cI, .int), (cL, .long), (cD, .double)] U ∧ va_D (fun _ => True) [(a0, .inr (1, [.ref a1, .ref a2, .ref a3, .int u.2.2.2.1, .int u.2.2.2.2])), (a1, .inl (cL, 72, .inr (.inl (u.1)))), (a2, .inl (cI, 4, .inl (u.2.1))), (a3, .inl (cL, 6, .inr (.inl (u.2.2.1))))] ∧ NWs U)) (va_Qi (fun (r : Int32) (w : S_Flash) => r = res.1 ∧ w = res.2) (fun (w : S_Flash) t => va_P (dC, dI) CL [(a0, .inr (1, [.ref a1, .ref a2, .ref a3, .int w.2.2.2.1, .int w.2.2.2.2])), (a1, .inl (cL, 72, .inr (.inl (w.1)))), (a2, .inl (cI, 4, .inl (w.2.1))), (a3, .inl (cL, 6, .inr (.inl (w.2.2.1))))] t.heap ∧ va_K (dC, dI) CL [(cI, .int), (cL, .long), (cD, .double)] t ∧ va_D (va_A [(a0, .inr (1, [.ref a1, .ref a2, .ref a3, .int u.2.2.2.1, .int u.2.2.2.2])), (a1, .inl (cL, 72, .inr (.inl (u.1)))), (a2, .inl (cI, 4, .inl (u.2.1))), (a3, .inl (cL, 6, .inr (.inl (u.2.2.1))))] sz) [(a0, .inr (1, [.ref a1, .ref a2, .ref a3, .int w.2.2.2.1, .int w.2.2.2.2])), (a1, .inl (cL, 72, .inr (.inl (w.1)))), (a2, .inl (cI, 4, .inl (w.2.1))), (a3, .inl (cL, 6, .inr (.inl (w.2.2.1))))]) (va_A [(a0, .inr (1, [.ref a1, .ref a2, .ref a3, .int u.2.2.2.1, .int u.2.2.2.2])), (a1, .inl (cL, 72, .inr (.inl (u.1)))), (a2, .inl (cI, 4, .inl (u.2.1))), (a3, .inl (cL, 6, .inr (.inl (u.2.2.1))))] sz)) 0 0 (va_A [(a0, .inr (1, [.ref a1, .ref a2, .ref a3, .int u.2.2.2.1, .int u.2.2.2.2])), (a1, .inl (cL, 72, .inr (.inl (u.1)))), (a2, .inl (cI, 4, .inl (u.2.1))), (a3, .inl (cL, 6, .inr (.inl (u.2.2.1))))] sz) := by
  refine Met.ofW (cc := b_Flash_setCut) (maxL := 3) (ret := (some .int)) (by decide) rfl ?_
  intro p e s m args below meth c s₁ B hml hv
  obtain ⟨rfl, hsz, hP, hK, hD0, hN⟩ := hv
  have hx := B.exec
  have hb := B.bytes
  have hr := B.returns
  have hts : ∀ w ∈ TB, w.before _ s = true := fun w h => atoms_spec (ws := w_Flash_setCut) B.pre w (List.mem_cons_of_mem _ h)
  have hown : s.vm.findClass R_Flash = some m.cls := findClass_of_methodNamed B.named
  have hlocks := B.notSynchronized
  subst hsz
  have hD := hD0.self (sz := s.heap.size)
  generalize hAe : va_A [(a0, .inr (1, [.ref a1, .ref a2, .ref a3, .int u.2.2.2.1, .int u.2.2.2.2])), (a1, .inl (cL, 72, .inr (.inl (u.1)))), (a2, .inl (cI, 4, .inl (u.2.1))), (a3, .inl (cL, 6, .inr (.inl (u.2.2.1))))] s.heap.size = A at hD ⊢
  have hA : ∀ q : Nat, s.heap.size ≤ q → A q := fun q h => by rw [← hAe]; exact Or.inr h
  have hS : va_S A s.heap s.heap [] := va_S.rf
  have hl := lv_entry ([.ref a0, .int p1]) (n := 3) (Nat.le_of_ble_eq_true rfl)
  rw [lg_entry_eq]
  generalize (lg_sl ([.ref a0, .int p1]) ++ List.replicate (3 - (lg_sl ([.ref a0, .int p1])).length) Slot.unset).toArray = ls at hl ⊢
  have hl : lv_has ls 3 [(0, .ref a0), (1, .int p1)] := hl
  refine nameQ (fun Q hQe => ?_)
  rw [f_Flash_setCut] at hf
  refine lv_aload_n hx hb d_Flash_setCut_0 rfl (lv_at hl 0 rfl) ?_
  refine va_get (D := (dC, dI)) (ci := 1) (v := .int u.2.2.2.2) (C := R_Flash) (T := T_Flash) (N := 5) hx hb hts in_Flash hown hK hP 0 rfl rfl 4 (by decide) (hts _ t_153) (fun _ h9 => h9) rfl d_Flash_setCut_1 ?_
  refine lv_istore_n (lv' := [(2, .int u.2.2.2.2), (0, .ref a0), (1, .int p1)]) hx hb d_Flash_setCut_4 rfl hl (by decide) rfl (fun ls hl => ?_)
  refine lv_aload_n hx hb d_Flash_setCut_5 rfl (lv_at hl 1 rfl) ?_
  refine lv_iload_n hx hb d_Flash_setCut_6 rfl (lv_at hl 2 rfl) ?_
  refine va_put (D := (dC, dI)) (ci := 1) (v := .int p1) (ty := .int) (C := R_Flash) (T := T_Flash) (N := 5) hx hb hts in_Flash ty_Flash ty_Flash_ok nm_Flash hown hK hP hD hS 0 rfl rfl 4 (by decide) (hts _ t_153) (fun _ h9 => h9) rfl (by decide +kernel) rfl rfl (Nat.le_of_ble_eq_true rfl) d_Flash_setCut_7 (fun H locs hP hD hS => ?_)
  have hP : va_P (dC, dI) CL [(a0, .inr (1, [.ref a1, .ref a2, .ref a3, .int u.2.2.2.1, .int p1])), (a1, .inl (cL, 72, .inr (.inl (u.1)))), (a2, .inl (cI, 4, .inl (u.2.1))), (a3, .inl (cL, 6, .inr (.inl (u.2.2.1))))] H := hP
  have hD : va_D A [(a0, .inr (1, [.ref a1, .ref a2, .ref a3, .int u.2.2.2.1, .int p1])), (a1, .inl (cL, 72, .inr (.inl (u.1)))), (a2, .inl (cI, 4, .inl (u.2.1))), (a3, .inl (cL, 6, .inr (.inl (u.2.2.1))))] := hD
  refine lv_iload_n hx hb d_Flash_setCut_10 rfl (lv_at hl 0 rfl) ?_
  have hf := Option.some.inj hf
  rw [hQe]
  exact W.iret (v := u.2.2.2.2) hx hb hr (fun t ht hW => ⟨⟨u.2.2.2.2, (u.1, u.2.1, u.2.2.1, u.2.2.2.1, p1), rfl, ⟨congrArg Prod.fst hf, congrArg Prod.snd hf⟩, by rw [ht]; exact hP, va_K.moved hW.alike hK, hD⟩, hS.F ht⟩) hS.2.2 d_Flash_setCut_11
def f_Flash_wordAt (p1 : Int32) (p2 : Int32) (u : S_Flash) : Option (Int64 × S_Flash) := bd (p1 * (6 : Int32)) (fun x1 : Int32 => bd (x1 + p2) (fun x2 : Int32 => gi x2 72 (bd (u.1 x2.toNatClampNeg) (fun x4 : Int64 => some (x4, u)))))
set_option maxHeartbeats 4000000 in
set_option maxRecDepth 100000 in
theorem c_Flash_wordAt (l : Launch) (dC : Nat → ClassId) (dI : Nat → Nat → Nat) (cI cL cD : ClassId) (a0 a1 a2 a3 : Nat) (sz : Nat) (p1 : Int32) (p2 : Int32) (u : S_Flash) (res : Int64 × S_Flash) (hf : f_Flash_wordAt p1 p2 u = some res) : Met l y_Flash_wordAt w_Flash_wordAt ({ frames := 0, cells := 0, slots := 0, locals := 0 }) (va_Pc [.ref a0, .int p1, .int p2] (fun U => U.heap.size = sz ∧ va_P (dC, dI) CL [(a0, .inr (1, [.ref a1, .ref a2, .ref a3, .int u.2.2.2.1, .int u.2.2.2.2])), (a1, .inl (cL, 72, .inr (.inl (u.1)))), (a2, .inl (cI, 4, .inl (u.2.1))), (a3, .inl (cL, 6, .inr (.inl (u.2.2.1))))] U.heap ∧ va_K (dC, dI) CL [(cI, .int), (cL, .long), (cD, .double)] U ∧ va_D (fun _ => True) [(a0, .inr (1, [.ref a1, .ref a2, .ref a3, .int u.2.2.2.1, .int u.2.2.2.2])), (a1, .inl (cL, 72, .inr (.inl (u.1)))), (a2, .inl (cI, 4, .inl (u.2.1))), (a3, .inl (cL, 6, .inr (.inl (u.2.2.1))))] ∧ NWs U)) (va_Ql (fun (r : Int64) (w : S_Flash) => r = res.1 ∧ w = res.2) (fun (w : S_Flash) t => va_P (dC, dI) CL [(a0, .inr (1, [.ref a1, .ref a2, .ref a3, .int w.2.2.2.1, .int w.2.2.2.2])), (a1, .inl (cL, 72, .inr (.inl (w.1)))), (a2, .inl (cI, 4, .inl (w.2.1))), (a3, .inl (cL, 6, .inr (.inl (w.2.2.1))))] t.heap ∧ va_K (dC, dI) CL [(cI, .int), (cL, .long), (cD, .double)] t ∧ va_D (va_A [(a0, .inr (1, [.ref a1, .ref a2, .ref a3, .int u.2.2.2.1, .int u.2.2.2.2])), (a1, .inl (cL, 72, .inr (.inl (u.1)))), (a2, .inl (cI, 4, .inl (u.2.1))), (a3, .inl (cL, 6, .inr (.inl (u.2.2.1))))] sz) [(a0, .inr (1, [.ref a1, .ref a2, .ref a3, .int w.2.2.2.1, .int w.2.2.2.2])), (a1, .inl (cL, 72, .inr (.inl (w.1)))), (a2, .inl (cI, 4, .inl (w.2.1))), (a3, .inl (cL, 6, .inr (.inl (w.2.2.1))))]) (va_A [(a0, .inr (1, [.ref a1, .ref a2, .ref a3, .int u.2.2.2.1, .int u.2.2.2.2])), (a1, .inl (cL, 72, .inr (.inl (u.1)))), (a2, .inl (cI, 4, .inl (u.2.1))), (a3, .inl (cL, 6, .inr (.inl (u.2.2.1))))] sz)) 0 0 (va_A [(a0, .inr (1, [.ref a1, .ref a2, .ref a3, .int u.2.2.2.1, .int u.2.2.2.2])), (a1, .inl (cL, 72, .inr (.inl (u.1)))), (a2, .inl (cI, 4, .inl (u.2.1))), (a3, .inl (cL, 6, .inr (.inl (u.2.2.1))))] sz) := by
  refine Met.ofW (cc := b_Flash_wordAt) (maxL := 3) (ret := (some .long)) (by decide) rfl ?_
  intro p e s m args below meth c s₁ B hml hv
  obtain ⟨rfl, hsz, hP, hK, hD0, hN⟩ := hv
  have hx := B.exec
  have hb := B.bytes
  have hr := B.returns
  have hts : ∀ w ∈ TB, w.before _ s = true := fun w h => atoms_spec (ws := w_Flash_wordAt) B.pre w (List.mem_cons_of_mem _ h)
  have hown : s.vm.findClass R_Flash = some m.cls := findClass_of_methodNamed B.named
  have hlocks := B.notSynchronized
  subst hsz
  have hD := hD0.self (sz := s.heap.size)
  generalize hAe : va_A [(a0, .inr (1, [.ref a1, .ref a2, .ref a3, .int u.2.2.2.1, .int u.2.2.2.2])), (a1, .inl (cL, 72, .inr (.inl (u.1)))), (a2, .inl (cI, 4, .inl (u.2.1))), (a3, .inl (cL, 6, .inr (.inl (u.2.2.1))))] s.heap.size = A at hD ⊢
  have hA : ∀ q : Nat, s.heap.size ≤ q → A q := fun q h => by rw [← hAe]; exact Or.inr h
  have hS : va_S A s.heap s.heap [] := va_S.rf
  have hl := lv_entry ([.ref a0, .int p1, .int p2]) (n := 3) (Nat.le_of_ble_eq_true rfl)
  rw [lg_entry_eq]
  generalize (lg_sl ([.ref a0, .int p1, .int p2]) ++ List.replicate (3 - (lg_sl ([.ref a0, .int p1, .int p2])).length) Slot.unset).toArray = ls at hl ⊢
  have hl : lv_has ls 3 [(0, .ref a0), (1, .int p1), (2, .int p2)] := hl
  refine nameQ (fun Q hQe => ?_)
  rw [f_Flash_wordAt] at hf
  refine lv_aload_n hx hb d_Flash_wordAt_0 rfl (lv_at hl 0 rfl) ?_
  refine va_get (D := (dC, dI)) (ci := 1) (v := .ref a1) (C := R_Flash) (T := T_Flash) (N := 5) hx hb hts in_Flash hown hK hP 0 rfl rfl 0 (by decide) (hts _ t_146) (fun _ h9 => h9) rfl d_Flash_wordAt_1 ?_
  refine lv_iload_n hx hb d_Flash_wordAt_4 rfl (lv_at hl 1 rfl) ?_
  refine lv_bipush (v := 6) hx hb d_Flash_wordAt_5 (by decide) ?_
  refine lv_imul hx hb d_Flash_wordAt_7 ?_
  refine lv_topi (fun x1 ex1 => ?_)
  have hf := bd_t ex1 hf
  refine lv_iload_n hx hb d_Flash_wordAt_8 rfl (lv_at hl 2 rfl) ?_
  refine lv_iadd hx hb d_Flash_wordAt_9 ?_
  refine lv_topi (fun x2 ex2 => ?_)
  have hf := bd_t ex2 hf
  obtain ⟨h3, hf⟩ := gi_t hf
  refine va_lald hx hb hK hP 1 1 rfl rfl h3 d_Flash_wordAt_10 ?_
  refine lv_topl (fun x4 ex4 => ?_)
  have hf := bd_t ex4 hf
  have hf := Option.some.inj hf
  rw [hQe]
  exact W.lret (v := x4) hx hb hr (fun t ht hW => ⟨⟨x4, u, rfl, ⟨congrArg Prod.fst hf, congrArg Prod.snd hf⟩, by rw [ht]; exact hP, va_K.moved hW.alike hK, hD⟩, hS.F ht⟩) hS.2.2 d_Flash_wordAt_11
def f_Flash_copyToDraft (p1 : Int32) (u : S_Flash) : Option (S_Flash) := bd (p1 * (6 : Int32)) (fun x1 : Int32 => gc x1 (0 : Int32) (6 : Int32) 72 6 (bd (va_cpy u.1 u.2.2.1 x1.toNatClampNeg (0 : Int32).toNatClampNeg (6 : Int32).toNatClampNeg) (fun F3 : Nat → Int64 => some (u.1, u.2.1, F3, u.2.2.2.1, u.2.2.2.2))))
set_option maxHeartbeats 4000000 in
set_option maxRecDepth 100000 in
theorem c_Flash_copyToDraft (l : Launch) (dC : Nat → ClassId) (dI : Nat → Nat → Nat) (cI cL cD : ClassId) (a0 a1 a2 a3 : Nat) (sz : Nat) (p1 : Int32) (u : S_Flash) (res : S_Flash) (hf : f_Flash_copyToDraft p1 u = some res) : Met l y_Flash_copyToDraft w_Flash_copyToDraft ({ frames := 1, cells := 0, slots := 0, locals := 64 }) (va_Pc [.ref a0, .int p1] (fun U => U.heap.size = sz ∧ va_P (dC, dI) CL [(a0, .inr (1, [.ref a1, .ref a2, .ref a3, .int u.2.2.2.1, .int u.2.2.2.2])), (a1, .inl (cL, 72, .inr (.inl (u.1)))), (a2, .inl (cI, 4, .inl (u.2.1))), (a3, .inl (cL, 6, .inr (.inl (u.2.2.1))))] U.heap ∧ va_K (dC, dI) CL [(cI, .int), (cL, .long), (cD, .double)] U ∧ va_D (fun _ => True) [(a0, .inr (1, [.ref a1, .ref a2, .ref a3, .int u.2.2.2.1, .int u.2.2.2.2])), (a1, .inl (cL, 72, .inr (.inl (u.1)))), (a2, .inl (cI, 4, .inl (u.2.1))), (a3, .inl (cL, 6, .inr (.inl (u.2.2.1))))] ∧ NWs U)) (va_Qv (fun (w : S_Flash) => w = res) (fun (w : S_Flash) t => va_P (dC, dI) CL [(a0, .inr (1, [.ref a1, .ref a2, .ref a3, .int w.2.2.2.1, .int w.2.2.2.2])), (a1, .inl (cL, 72, .inr (.inl (w.1)))), (a2, .inl (cI, 4, .inl (w.2.1))), (a3, .inl (cL, 6, .inr (.inl (w.2.2.1))))] t.heap ∧ va_K (dC, dI) CL [(cI, .int), (cL, .long), (cD, .double)] t ∧ va_D (va_A [(a0, .inr (1, [.ref a1, .ref a2, .ref a3, .int u.2.2.2.1, .int u.2.2.2.2])), (a1, .inl (cL, 72, .inr (.inl (u.1)))), (a2, .inl (cI, 4, .inl (u.2.1))), (a3, .inl (cL, 6, .inr (.inl (u.2.2.1))))] sz) [(a0, .inr (1, [.ref a1, .ref a2, .ref a3, .int w.2.2.2.1, .int w.2.2.2.2])), (a1, .inl (cL, 72, .inr (.inl (w.1)))), (a2, .inl (cI, 4, .inl (w.2.1))), (a3, .inl (cL, 6, .inr (.inl (w.2.2.1))))]) (va_A [(a0, .inr (1, [.ref a1, .ref a2, .ref a3, .int u.2.2.2.1, .int u.2.2.2.2])), (a1, .inl (cL, 72, .inr (.inl (u.1)))), (a2, .inl (cI, 4, .inl (u.2.1))), (a3, .inl (cL, 6, .inr (.inl (u.2.2.1))))] sz)) 0 0 (va_A [(a0, .inr (1, [.ref a1, .ref a2, .ref a3, .int u.2.2.2.1, .int u.2.2.2.2])), (a1, .inl (cL, 72, .inr (.inl (u.1)))), (a2, .inl (cI, 4, .inl (u.2.1))), (a3, .inl (cL, 6, .inr (.inl (u.2.2.1))))] sz) := by
  refine Met.ofW (cc := b_Flash_copyToDraft) (maxL := 2) (ret := none) (by decide) rfl ?_
  intro p e s m args below meth c s₁ B hml hv
  obtain ⟨rfl, hsz, hP, hK, hD0, hN⟩ := hv
  have hx := B.exec
  have hb := B.bytes
  have hr := B.returns
  have hts : ∀ w ∈ TB, w.before _ s = true := fun w h => atoms_spec (ws := w_Flash_copyToDraft) B.pre w (List.mem_cons_of_mem _ h)
  have hown : s.vm.findClass R_Flash = some m.cls := findClass_of_methodNamed B.named
  have hlocks := B.notSynchronized
  subst hsz
  have hD := hD0.self (sz := s.heap.size)
  generalize hAe : va_A [(a0, .inr (1, [.ref a1, .ref a2, .ref a3, .int u.2.2.2.1, .int u.2.2.2.2])), (a1, .inl (cL, 72, .inr (.inl (u.1)))), (a2, .inl (cI, 4, .inl (u.2.1))), (a3, .inl (cL, 6, .inr (.inl (u.2.2.1))))] s.heap.size = A at hD ⊢
  have hA : ∀ q : Nat, s.heap.size ≤ q → A q := fun q h => by rw [← hAe]; exact Or.inr h
  have hS : va_S A s.heap s.heap [] := va_S.rf
  have hl := lv_entry ([.ref a0, .int p1]) (n := 2) (Nat.le_of_ble_eq_true rfl)
  rw [lg_entry_eq]
  generalize (lg_sl ([.ref a0, .int p1]) ++ List.replicate (2 - (lg_sl ([.ref a0, .int p1])).length) Slot.unset).toArray = ls at hl ⊢
  have hl : lv_has ls 2 [(0, .ref a0), (1, .int p1)] := hl
  refine nameQ (fun Q hQe => ?_)
  rw [f_Flash_copyToDraft] at hf
  refine lv_aload_n hx hb d_Flash_copyToDraft_0 rfl (lv_at hl 0 rfl) ?_
  refine va_get (D := (dC, dI)) (ci := 1) (v := .ref a1) (C := R_Flash) (T := T_Flash) (N := 5) hx hb hts in_Flash hown hK hP 0 rfl rfl 0 (by decide) (hts _ t_146) (fun _ h9 => h9) rfl d_Flash_copyToDraft_1 ?_
  refine lv_iload_n hx hb d_Flash_copyToDraft_4 rfl (lv_at hl 1 rfl) ?_
  refine lv_bipush (v := 6) hx hb d_Flash_copyToDraft_5 (by decide) ?_
  refine lv_imul hx hb d_Flash_copyToDraft_7 ?_
  refine lv_topi (fun x1 ex1 => ?_)
  have hf := bd_t ex1 hf
  refine lv_aload_n hx hb d_Flash_copyToDraft_8 rfl (lv_at hl 0 rfl) ?_
  refine va_get (D := (dC, dI)) (ci := 1) (v := .ref a3) (C := R_Flash) (T := T_Flash) (N := 5) hx hb hts in_Flash hown hK hP 0 rfl rfl 2 (by decide) (hts _ t_149) (fun _ h9 => h9) rfl d_Flash_copyToDraft_9 ?_
  refine lv_iconst (v := 0) hx hb d_Flash_copyToDraft_12 (by decide) ?_
  refine lv_bipush (v := 6) hx hb d_Flash_copyToDraft_13 (by decide) ?_
  obtain ⟨h2, hf⟩ := gc_t hf
  refine va_copyl hx hb (by rw [hml]; exact hl.1.symm) hown (hts _ t_427) (hts _ t_353) (hts _ t_352) (hts _ t_51) hK hP hD hS 1 3 1 1 rfl rfl rfl rfl rfl h2.1 h2.2.1 h2.2.2.1 h2.2.2.2.1 h2.2.2.2.2 (fun _ _ => rfl) (Nat.le_of_ble_eq_true rfl) (Nat.le_of_ble_eq_true rfl) d_Flash_copyToDraft_15 (fun H locs hP hD hS => ?_)
  obtain ⟨F3, eF3⟩ : ∃ y : Nat → Int64, y = va_cpy u.1 u.2.2.1 x1.toNatClampNeg (0 : Int32).toNatClampNeg (6 : Int32).toNatClampNeg := ⟨_, rfl⟩
  have hf := bd_t eF3 hf
  have hP : va_P (dC, dI) CL [(a0, .inr (1, [.ref a1, .ref a2, .ref a3, .int u.2.2.2.1, .int u.2.2.2.2])), (a1, .inl (cL, 72, .inr (.inl (u.1)))), (a2, .inl (cI, 4, .inl (u.2.1))), (a3, .inl (cL, 6, .inr (.inl (F3))))] H := by rw [eF3]; exact hP
  have hD : va_D A [(a0, .inr (1, [.ref a1, .ref a2, .ref a3, .int u.2.2.2.1, .int u.2.2.2.2])), (a1, .inl (cL, 72, .inr (.inl (u.1)))), (a2, .inl (cI, 4, .inl (u.2.1))), (a3, .inl (cL, 6, .inr (.inl (F3))))] := by rw [eF3]; exact hD
  have hf := Option.some.inj hf
  rw [hQe]
  exact W.vret hx hb hr (fun t ht hW => ⟨⟨(u.1, u.2.1, F3, u.2.2.2.1, u.2.2.2.2), rfl, hf, by rw [ht]; exact hP, va_K.moved hW.alike hK, hD⟩, hS.F ht⟩) hS.2.2 d_Flash_copyToDraft_18
def f_Flash_sumOf (n0 : Nat) (p1 : Int32) (u : (Nat → Int64)) : Option (Int64 × ((Nat → Int64))) := gi p1 n0 (bd (u p1.toNatClampNeg) (fun x2 : Int64 => bd ((7 : Int64) * x2) (fun x3 : Int64 => bd (p1 + (1 : Int32)) (fun x4 : Int32 => gi x4 n0 (bd (u x4.toNatClampNeg) (fun x6 : Int64 => bd ((11 : Int64) * x6) (fun x7 : Int64 => bd (x3 + x7) (fun x8 : Int64 => bd (p1 + (2 : Int32)) (fun x9 : Int32 => gi x9 n0 (bd (u x9.toNatClampNeg) (fun x11 : Int64 => bd ((13 : Int64) * x11) (fun x12 : Int64 => bd (x8 + x12) (fun x13 : Int64 => bd (p1 + (3 : Int32)) (fun x14 : Int32 => gi x14 n0 (bd (u x14.toNatClampNeg) (fun x16 : Int64 => bd ((17 : Int64) * x16) (fun x17 : Int64 => bd (x13 + x17) (fun x18 : Int64 => bd (p1 + (4 : Int32)) (fun x19 : Int32 => gi x19 n0 (bd (u x19.toNatClampNeg) (fun x21 : Int64 => bd ((19 : Int64) * x21) (fun x22 : Int64 => bd (x18 + x22) (fun x23 : Int64 => bd (x23 + (1 : Int64)) (fun x24 : Int64 => some (x24, u)))))))))))))))))))))))))
set_option maxHeartbeats 4000000 in
set_option maxRecDepth 100000 in
theorem c_Flash_sumOf (l : Launch) (dC : Nat → ClassId) (dI : Nat → Nat → Nat) (cI cL cD : ClassId) (a0 : Nat) (n0 : Nat) (sz : Nat) (p1 : Int32) (u : (Nat → Int64)) (res : Int64 × ((Nat → Int64))) (hf : f_Flash_sumOf n0 p1 u = some res) : Met l y_Flash_sumOf w_Flash_sumOf ({ frames := 0, cells := 0, slots := 0, locals := 0 }) (va_Pc [.ref a0, .int p1] (fun U => U.heap.size = sz ∧ va_P (dC, dI) CL [(a0, .inl (cL, n0, .inr (.inl (u))))] U.heap ∧ va_K (dC, dI) CL [(cI, .int), (cL, .long), (cD, .double)] U ∧ va_D (fun _ => True) [(a0, .inl (cL, n0, .inr (.inl (u))))] ∧ NWs U)) (va_Ql (fun (r : Int64) (w : (Nat → Int64)) => r = res.1 ∧ w = res.2) (fun (w : (Nat → Int64)) t => va_P (dC, dI) CL [(a0, .inl (cL, n0, .inr (.inl (w))))] t.heap ∧ va_K (dC, dI) CL [(cI, .int), (cL, .long), (cD, .double)] t ∧ va_D (va_A [(a0, .inl (cL, n0, .inr (.inl (u))))] sz) [(a0, .inl (cL, n0, .inr (.inl (w))))]) (va_A [(a0, .inl (cL, n0, .inr (.inl (u))))] sz)) 0 0 (va_A [(a0, .inl (cL, n0, .inr (.inl (u))))] sz) := by
  refine Met.ofW (cc := b_Flash_sumOf) (maxL := 2) (ret := (some .long)) (by decide) rfl ?_
  intro p e s m args below meth c s₁ B hml hv
  obtain ⟨rfl, hsz, hP, hK, hD0, hN⟩ := hv
  have hx := B.exec
  have hb := B.bytes
  have hr := B.returns
  have hts : ∀ w ∈ TB, w.before _ s = true := fun w h => atoms_spec (ws := w_Flash_sumOf) B.pre w (List.mem_cons_of_mem _ h)
  have hown : s.vm.findClass R_Flash = some m.cls := findClass_of_methodNamed B.named
  have hlocks := B.notSynchronized
  subst hsz
  have hD := hD0.self (sz := s.heap.size)
  generalize hAe : va_A [(a0, .inl (cL, n0, .inr (.inl (u))))] s.heap.size = A at hD ⊢
  have hA : ∀ q : Nat, s.heap.size ≤ q → A q := fun q h => by rw [← hAe]; exact Or.inr h
  have hS : va_S A s.heap s.heap [] := va_S.rf
  have hl := lv_entry ([.ref a0, .int p1]) (n := 2) (Nat.le_of_ble_eq_true rfl)
  rw [lg_entry_eq]
  generalize (lg_sl ([.ref a0, .int p1]) ++ List.replicate (2 - (lg_sl ([.ref a0, .int p1])).length) Slot.unset).toArray = ls at hl ⊢
  have hl : lv_has ls 2 [(0, .ref a0), (1, .int p1)] := hl
  refine nameQ (fun Q hQe => ?_)
  rw [f_Flash_sumOf] at hf
  refine lv_ldc2 (v := 7) hx hb hown (hts _ t_391) d_Flash_sumOf_0 ?_
  refine lv_aload_n hx hb d_Flash_sumOf_3 rfl (lv_at hl 0 rfl) ?_
  refine lv_iload_n hx hb d_Flash_sumOf_4 rfl (lv_at hl 1 rfl) ?_
  obtain ⟨h1, hf⟩ := gi_t hf
  refine va_lald hx hb hK hP 0 1 rfl rfl h1 d_Flash_sumOf_5 ?_
  refine lv_topl (fun x2 ex2 => ?_)
  have hf := bd_t ex2 hf
  refine lv_lmul hx hb d_Flash_sumOf_6 ?_
  refine lv_topl (fun x3 ex3 => ?_)
  have hf := bd_t ex3 hf
  refine lv_ldc2 (v := 11) hx hb hown (hts _ t_392) d_Flash_sumOf_7 ?_
  refine lv_aload_n hx hb d_Flash_sumOf_10 rfl (lv_at hl 0 rfl) ?_
  refine lv_iload_n hx hb d_Flash_sumOf_11 rfl (lv_at hl 1 rfl) ?_
  refine lv_iconst (v := 1) hx hb d_Flash_sumOf_12 (by decide) ?_
  refine lv_iadd hx hb d_Flash_sumOf_13 ?_
  refine lv_topi (fun x4 ex4 => ?_)
  have hf := bd_t ex4 hf
  obtain ⟨h5, hf⟩ := gi_t hf
  refine va_lald hx hb hK hP 0 1 rfl rfl h5 d_Flash_sumOf_14 ?_
  refine lv_topl (fun x6 ex6 => ?_)
  have hf := bd_t ex6 hf
  refine lv_lmul hx hb d_Flash_sumOf_15 ?_
  refine lv_topl (fun x7 ex7 => ?_)
  have hf := bd_t ex7 hf
  refine lv_ladd hx hb d_Flash_sumOf_16 ?_
  refine lv_topl (fun x8 ex8 => ?_)
  have hf := bd_t ex8 hf
  refine lv_ldc2 (v := 13) hx hb hown (hts _ t_393) d_Flash_sumOf_17 ?_
  refine lv_aload_n hx hb d_Flash_sumOf_20 rfl (lv_at hl 0 rfl) ?_
  refine lv_iload_n hx hb d_Flash_sumOf_21 rfl (lv_at hl 1 rfl) ?_
  refine lv_iconst (v := 2) hx hb d_Flash_sumOf_22 (by decide) ?_
  refine lv_iadd hx hb d_Flash_sumOf_23 ?_
  refine lv_topi (fun x9 ex9 => ?_)
  have hf := bd_t ex9 hf
  obtain ⟨h10, hf⟩ := gi_t hf
  refine va_lald hx hb hK hP 0 1 rfl rfl h10 d_Flash_sumOf_24 ?_
  refine lv_topl (fun x11 ex11 => ?_)
  have hf := bd_t ex11 hf
  refine lv_lmul hx hb d_Flash_sumOf_25 ?_
  refine lv_topl (fun x12 ex12 => ?_)
  have hf := bd_t ex12 hf
  refine lv_ladd hx hb d_Flash_sumOf_26 ?_
  refine lv_topl (fun x13 ex13 => ?_)
  have hf := bd_t ex13 hf
  refine lv_ldc2 (v := 17) hx hb hown (hts _ t_394) d_Flash_sumOf_27 ?_
  refine lv_aload_n hx hb d_Flash_sumOf_30 rfl (lv_at hl 0 rfl) ?_
  refine lv_iload_n hx hb d_Flash_sumOf_31 rfl (lv_at hl 1 rfl) ?_
  refine lv_iconst (v := 3) hx hb d_Flash_sumOf_32 (by decide) ?_
  refine lv_iadd hx hb d_Flash_sumOf_33 ?_
  refine lv_topi (fun x14 ex14 => ?_)
  have hf := bd_t ex14 hf
  obtain ⟨h15, hf⟩ := gi_t hf
  refine va_lald hx hb hK hP 0 1 rfl rfl h15 d_Flash_sumOf_34 ?_
  refine lv_topl (fun x16 ex16 => ?_)
  have hf := bd_t ex16 hf
  refine lv_lmul hx hb d_Flash_sumOf_35 ?_
  refine lv_topl (fun x17 ex17 => ?_)
  have hf := bd_t ex17 hf
  refine lv_ladd hx hb d_Flash_sumOf_36 ?_
  refine lv_topl (fun x18 ex18 => ?_)
  have hf := bd_t ex18 hf
  refine lv_ldc2 (v := 19) hx hb hown (hts _ t_395) d_Flash_sumOf_37 ?_
  refine lv_aload_n hx hb d_Flash_sumOf_40 rfl (lv_at hl 0 rfl) ?_
  refine lv_iload_n hx hb d_Flash_sumOf_41 rfl (lv_at hl 1 rfl) ?_
  refine lv_iconst (v := 4) hx hb d_Flash_sumOf_42 (by decide) ?_
  refine lv_iadd hx hb d_Flash_sumOf_43 ?_
  refine lv_topi (fun x19 ex19 => ?_)
  have hf := bd_t ex19 hf
  obtain ⟨h20, hf⟩ := gi_t hf
  refine va_lald hx hb hK hP 0 1 rfl rfl h20 d_Flash_sumOf_44 ?_
  refine lv_topl (fun x21 ex21 => ?_)
  have hf := bd_t ex21 hf
  refine lv_lmul hx hb d_Flash_sumOf_45 ?_
  refine lv_topl (fun x22 ex22 => ?_)
  have hf := bd_t ex22 hf
  refine lv_ladd hx hb d_Flash_sumOf_46 ?_
  refine lv_topl (fun x23 ex23 => ?_)
  have hf := bd_t ex23 hf
  refine lv_lconst (v := 1) hx hb d_Flash_sumOf_47 (by decide) ?_
  refine lv_ladd hx hb d_Flash_sumOf_48 ?_
  refine lv_topl (fun x24 ex24 => ?_)
  have hf := bd_t ex24 hf
  have hf := Option.some.inj hf
  rw [hQe]
  exact W.lret (v := x24) hx hb hr (fun t ht hW => ⟨⟨x24, u, rfl, ⟨congrArg Prod.fst hf, congrArg Prod.snd hf⟩, by rw [ht]; exact hP, va_K.moved hW.alike hK, hD⟩, hS.F ht⟩) hS.2.2 d_Flash_sumOf_49
def f_Flash_isGood (p1 : Int32) (u : S_Flash) : Option (Int32 × S_Flash) := bd (p1 * (6 : Int32)) (fun x1 : Int32 => gi x1 72 (bd (u.1 x1.toNatClampNeg) (fun x3 : Int64 => bd (lg_cmp x3 (0 : Int64)) (fun x4 : Int32 => (if x4 ≤ 0 then some ((0 : Int32), u) else bd (x1 + (6 : Int32)) (fun x6 : Int32 => bd (x6 - (1 : Int32)) (fun x7 : Int32 => gi x7 72 (bd (u.1 x7.toNatClampNeg) (fun x9 : Int64 => ca (f_Flash_sumOf 72 x1 u.1) (fun r10 w11 => bd (lg_cmp x9 r10) (fun x12 : Int32 => (if x12 = 0 then some ((1 : Int32), (w11, u.2.1, u.2.2.1, u.2.2.2.1, u.2.2.2.2)) else some ((0 : Int32), (w11, u.2.1, u.2.2.1, u.2.2.2.1, u.2.2.2.2))))))))))))))
set_option maxHeartbeats 4000000 in
set_option maxRecDepth 100000 in
theorem c_Flash_isGood (l : Launch) (dC : Nat → ClassId) (dI : Nat → Nat → Nat) (cI cL cD : ClassId) (a0 a1 a2 a3 : Nat) (sz : Nat) (p1 : Int32) (u : S_Flash) (res : Int32 × S_Flash) (hf : f_Flash_isGood p1 u = some res) : Met l y_Flash_isGood w_Flash_isGood ({ frames := 1, cells := 0, slots := 0, locals := 21 }) (va_Pc [.ref a0, .int p1] (fun U => U.heap.size = sz ∧ va_P (dC, dI) CL [(a0, .inr (1, [.ref a1, .ref a2, .ref a3, .int u.2.2.2.1, .int u.2.2.2.2])), (a1, .inl (cL, 72, .inr (.inl (u.1)))), (a2, .inl (cI, 4, .inl (u.2.1))), (a3, .inl (cL, 6, .inr (.inl (u.2.2.1))))] U.heap ∧ va_K (dC, dI) CL [(cI, .int), (cL, .long), (cD, .double)] U ∧ va_D (fun _ => True) [(a0, .inr (1, [.ref a1, .ref a2, .ref a3, .int u.2.2.2.1, .int u.2.2.2.2])), (a1, .inl (cL, 72, .inr (.inl (u.1)))), (a2, .inl (cI, 4, .inl (u.2.1))), (a3, .inl (cL, 6, .inr (.inl (u.2.2.1))))] ∧ NWs U)) (va_Qi (fun (r : Int32) (w : S_Flash) => r = res.1 ∧ w = res.2) (fun (w : S_Flash) t => va_P (dC, dI) CL [(a0, .inr (1, [.ref a1, .ref a2, .ref a3, .int w.2.2.2.1, .int w.2.2.2.2])), (a1, .inl (cL, 72, .inr (.inl (w.1)))), (a2, .inl (cI, 4, .inl (w.2.1))), (a3, .inl (cL, 6, .inr (.inl (w.2.2.1))))] t.heap ∧ va_K (dC, dI) CL [(cI, .int), (cL, .long), (cD, .double)] t ∧ va_D (va_A [(a0, .inr (1, [.ref a1, .ref a2, .ref a3, .int u.2.2.2.1, .int u.2.2.2.2])), (a1, .inl (cL, 72, .inr (.inl (u.1)))), (a2, .inl (cI, 4, .inl (u.2.1))), (a3, .inl (cL, 6, .inr (.inl (u.2.2.1))))] sz) [(a0, .inr (1, [.ref a1, .ref a2, .ref a3, .int w.2.2.2.1, .int w.2.2.2.2])), (a1, .inl (cL, 72, .inr (.inl (w.1)))), (a2, .inl (cI, 4, .inl (w.2.1))), (a3, .inl (cL, 6, .inr (.inl (w.2.2.1))))]) (va_A [(a0, .inr (1, [.ref a1, .ref a2, .ref a3, .int u.2.2.2.1, .int u.2.2.2.2])), (a1, .inl (cL, 72, .inr (.inl (u.1)))), (a2, .inl (cI, 4, .inl (u.2.1))), (a3, .inl (cL, 6, .inr (.inl (u.2.2.1))))] sz)) 0 0 (va_A [(a0, .inr (1, [.ref a1, .ref a2, .ref a3, .int u.2.2.2.1, .int u.2.2.2.2])), (a1, .inl (cL, 72, .inr (.inl (u.1)))), (a2, .inl (cI, 4, .inl (u.2.1))), (a3, .inl (cL, 6, .inr (.inl (u.2.2.1))))] sz) := by
  refine Met.ofW (cc := b_Flash_isGood) (maxL := 3) (ret := (some .boolean)) (by decide) rfl ?_
  intro p e s m args below meth c s₁ B hml hv
  obtain ⟨rfl, hsz, hP, hK, hD0, hN⟩ := hv
  have hx := B.exec
  have hb := B.bytes
  have hr := B.returns
  have hts : ∀ w ∈ TB, w.before _ s = true := fun w h => atoms_spec (ws := w_Flash_isGood) B.pre w (List.mem_cons_of_mem _ h)
  have hown : s.vm.findClass R_Flash = some m.cls := findClass_of_methodNamed B.named
  have hlocks := B.notSynchronized
  subst hsz
  have hD := hD0.self (sz := s.heap.size)
  generalize hAe : va_A [(a0, .inr (1, [.ref a1, .ref a2, .ref a3, .int u.2.2.2.1, .int u.2.2.2.2])), (a1, .inl (cL, 72, .inr (.inl (u.1)))), (a2, .inl (cI, 4, .inl (u.2.1))), (a3, .inl (cL, 6, .inr (.inl (u.2.2.1))))] s.heap.size = A at hD ⊢
  have hA : ∀ q : Nat, s.heap.size ≤ q → A q := fun q h => by rw [← hAe]; exact Or.inr h
  have hS : va_S A s.heap s.heap [] := va_S.rf
  have hl := lv_entry ([.ref a0, .int p1]) (n := 3) (Nat.le_of_ble_eq_true rfl)
  rw [lg_entry_eq]
  generalize (lg_sl ([.ref a0, .int p1]) ++ List.replicate (3 - (lg_sl ([.ref a0, .int p1])).length) Slot.unset).toArray = ls at hl ⊢
  have hl : lv_has ls 3 [(0, .ref a0), (1, .int p1)] := hl
  refine nameQ (fun Q hQe => ?_)
  rw [f_Flash_isGood] at hf
  refine lv_iload_n hx hb d_Flash_isGood_0 rfl (lv_at hl 1 rfl) ?_
  refine lv_bipush (v := 6) hx hb d_Flash_isGood_1 (by decide) ?_
  refine lv_imul hx hb d_Flash_isGood_3 ?_
  refine lv_topi (fun x1 ex1 => ?_)
  have hf := bd_t ex1 hf
  refine lv_istore_n (lv' := [(2, .int x1), (0, .ref a0), (1, .int p1)]) hx hb d_Flash_isGood_4 rfl hl (by decide) rfl (fun ls hl => ?_)
  refine lv_aload_n hx hb d_Flash_isGood_5 rfl (lv_at hl 1 rfl) ?_
  refine va_get (D := (dC, dI)) (ci := 1) (v := .ref a1) (C := R_Flash) (T := T_Flash) (N := 5) hx hb hts in_Flash hown hK hP 0 rfl rfl 0 (by decide) (hts _ t_146) (fun _ h9 => h9) rfl d_Flash_isGood_6 ?_
  refine lv_iload_n hx hb d_Flash_isGood_9 rfl (lv_at hl 0 rfl) ?_
  obtain ⟨h2, hf⟩ := gi_t hf
  refine va_lald hx hb hK hP 1 1 rfl rfl h2 d_Flash_isGood_10 ?_
  refine lv_topl (fun x3 ex3 => ?_)
  have hf := bd_t ex3 hf
  refine lv_lconst (v := 0) hx hb d_Flash_isGood_11 (by decide) ?_
  refine W.lcmp hx hb d_Flash_isGood_12 ?_
  refine lv_topi (fun x4 ex4 => ?_)
  have hf := bd_t ex4 hf
  refine lv_if_le (tgt := 43) hx hb d_Flash_isGood_13 (by decide) (fun c5 => ?_) (fun c5 => ?_)
  · have hf := ite_t c5 hf
    refine lv_iconst (v := 0) hx hb d_Flash_isGood_43 (by decide) ?_
    have hf := Option.some.inj hf
    rw [hQe]
    exact W.zret (v := (0 : Int32)) hx hb hr (by decide) (fun t ht hW => ⟨⟨(0 : Int32), u, rfl, ⟨congrArg Prod.fst hf, congrArg Prod.snd hf⟩, by rw [ht]; exact hP, va_K.moved hW.alike hK, hD⟩, hS.F ht⟩) hS.2.2 d_Flash_isGood_44
  · have hf := ite_f c5 hf
    refine lv_aload_n hx hb d_Flash_isGood_16 rfl (lv_at hl 1 rfl) ?_
    refine va_get (D := (dC, dI)) (ci := 1) (v := .ref a1) (C := R_Flash) (T := T_Flash) (N := 5) hx hb hts in_Flash hown hK hP 0 rfl rfl 0 (by decide) (hts _ t_146) (fun _ h9 => h9) rfl d_Flash_isGood_17 ?_
    refine lv_iload_n hx hb d_Flash_isGood_20 rfl (lv_at hl 0 rfl) ?_
    refine lv_bipush (v := 6) hx hb d_Flash_isGood_21 (by decide) ?_
    refine lv_iadd hx hb d_Flash_isGood_23 ?_
    refine lv_topi (fun x6 ex6 => ?_)
    have hf := bd_t ex6 hf
    refine lv_iconst (v := 1) hx hb d_Flash_isGood_24 (by decide) ?_
    refine lv_isub hx hb d_Flash_isGood_25 ?_
    refine lv_topi (fun x7 ex7 => ?_)
    have hf := bd_t ex7 hf
    obtain ⟨h8, hf⟩ := gi_t hf
    refine va_lald hx hb hK hP 1 1 rfl rfl h8 d_Flash_isGood_26 ?_
    refine lv_topl (fun x9 ex9 => ?_)
    have hf := bd_t ex9 hf
    refine lv_aload_n hx hb d_Flash_isGood_27 rfl (lv_at hl 1 rfl) ?_
    refine va_get (D := (dC, dI)) (ci := 1) (v := .ref a1) (C := R_Flash) (T := T_Flash) (N := 5) hx hb hts in_Flash hown hK hP 0 rfl rfl 0 (by decide) (hts _ t_146) (fun _ h9 => h9) rfl d_Flash_isGood_28 ?_
    refine lv_iload_n hx hb d_Flash_isGood_31 rfl (lv_at hl 0 rfl) ?_
    obtain ⟨r10, w11, hc, hf⟩ := ca_t hf
    have hPc := hP.sub (ws' := [(a1, .inl (cL, 72, .inr (.inl (u.1))))]) [1] rfl
    have hDc := hD.sub (ws' := [(a1, .inl (cL, 72, .inr (.inl (u.1))))]) [1] (by decide) rfl
    have hFc := va_free (wc := [(a1, .inl (cL, 72, .inr (.inl (u.1))))]) hD hS hA [1] rfl
    refine va_calll (va_runS (As := [.ref a1, .int x1]) (rest := [.long x9]) ⟨hx, hb, hml, hown, hts⟩ (c_Flash_sumOf l dC dI cI cL cD a1 72 s.heap.size x1 u.1 (r10, w11) hc) (va_cwS 2 hts (gS t_388 t_389 t_43 t_390) rfl rfl rfl (by decide +kernel) ⟨(Nat.le_of_ble_eq_true rfl), (Nat.le_of_ble_eq_true rfl)⟩) ⟨fun a U g mk q => by obtain ⟨q0, q1, qP, qK, qD, qN⟩ := q; exact ⟨q0, q1, qP, va_K.moved (u := U) (U := U.calling g mk a) (Vm.Alike.refl U.vm) qK, qD, NWs.same (u := U) (U := U.calling g mk a) rfl qN⟩, fun U hU hW => ⟨rfl, by rw [hU], by rw [hU]; exact hPc, va_K.moved hW.alike hK, hDc.weaken (fun _ _ _ _ => trivial), hN.warm hW⟩⟩ rfl rfl hl.1 rfl (lv_room (Nat.le_of_ble_eq_true rfl)) d_Flash_isGood_32 ⟨(Nat.le_of_ble_eq_true rfl), (Nat.le_of_ble_eq_true rfl)⟩) hS (fun q _ h => hFc q h) hFc (fun rZ wZ t H1 locs ht hvm hw hB hz1 hk1 hS => ?_)
    obtain ⟨eY, eZ⟩ := hw
    replace eY : r10 = rZ := eY.symm
    replace eZ : w11 = wZ := eZ.symm
    subst eY
    subst eZ
    obtain ⟨hP1, hK1, hD1⟩ := hB
    rw [ht] at hP1
    obtain ⟨hP, hD⟩ := va_join (wr := [(a0, .inr (1, [.ref a1, .ref a2, .ref a3, .int u.2.2.2.1, .int u.2.2.2.2])), (a2, .inl (cI, 4, .inl (u.2.1))), (a3, .inl (cL, 6, .inr (.inl (u.2.2.1))))]) (w1 := [(a1, .inl (cL, 72, .inr (.inl (w11))))]) hP hD [1] [0, 2, 3] rfl rfl (by decide) (by decide) hk1 hFc hP1 hD1
    generalize H1 = H at hP hS ⊢
    have hP := hP.sub (ws' := [(a0, .inr (1, [.ref a1, .ref a2, .ref a3, .int u.2.2.2.1, .int u.2.2.2.2])), (a1, .inl (cL, 72, .inr (.inl (w11)))), (a2, .inl (cI, 4, .inl (u.2.1))), (a3, .inl (cL, 6, .inr (.inl (u.2.2.1))))]) [0, 3, 1, 2] rfl
    have hD := hD.sub (ws' := [(a0, .inr (1, [.ref a1, .ref a2, .ref a3, .int u.2.2.2.1, .int u.2.2.2.2])), (a1, .inl (cL, 72, .inr (.inl (w11)))), (a2, .inl (cI, 4, .inl (u.2.1))), (a3, .inl (cL, 6, .inr (.inl (u.2.2.1))))]) [0, 3, 1, 2] (by decide) rfl
    refine W.lcmp hx hb d_Flash_isGood_35 ?_
    refine lv_topi (fun x12 ex12 => ?_)
    have hf := bd_t ex12 hf
    refine lv_if_ne (tgt := 43) hx hb d_Flash_isGood_36 (by decide) (fun c13 => ?_) (fun c13 => ?_)
    · have hf := ite_f c13 hf
      refine lv_iconst (v := 0) hx hb d_Flash_isGood_43 (by decide) ?_
      have hf := Option.some.inj hf
      rw [hQe]
      exact W.zret (v := (0 : Int32)) hx hb hr (by decide) (fun t ht hW => ⟨⟨(0 : Int32), (w11, u.2.1, u.2.2.1, u.2.2.2.1, u.2.2.2.2), rfl, ⟨congrArg Prod.fst hf, congrArg Prod.snd hf⟩, by rw [ht]; exact hP, va_K.moved hW.alike hK, hD⟩, hS.F ht⟩) hS.2.2 d_Flash_isGood_44
    · have hf := ite_t c13 hf
      refine lv_iconst (v := 1) hx hb d_Flash_isGood_39 (by decide) ?_
      refine lv_goto (tgt := 44) hx hb d_Flash_isGood_40 (by decide) ?_
      have hf := Option.some.inj hf
      rw [hQe]
      exact W.zret (v := (1 : Int32)) hx hb hr (by decide) (fun t ht hW => ⟨⟨(1 : Int32), (w11, u.2.1, u.2.2.1, u.2.2.2.1, u.2.2.2.2), rfl, ⟨congrArg Prod.fst hf, congrArg Prod.snd hf⟩, by rw [ht]; exact hP, va_K.moved hW.alike hK, hD⟩, hS.F ht⟩) hS.2.2 d_Flash_isGood_44
def f_Flash_goodSlots_4 : Nat → Int32 → Int32 → S_Flash → Option (Int32 × S_Flash)
  | 0, _, _, _ => none
  | n + 1, v1, v2, u => (if (12 : Int32) ≤ v2 then some (v1, u) else ca (f_Flash_isGood v2 u) (fun r2 w3 => (if r2 = 0 then bd (v2 + (1 : Int32)) (fun x5 : Int32 => (f_Flash_goodSlots_4 n) v1 x5 w3) else bd (v1 + (1 : Int32)) (fun x6 : Int32 => bd (v2 + (1 : Int32)) (fun x7 : Int32 => (f_Flash_goodSlots_4 n) x6 x7 w3)))))
def f_Flash_goodSlots (u : S_Flash) : Option (Int32 × S_Flash) := f_Flash_goodSlots_4 64 (0 : Int32) (0 : Int32) u
set_option maxHeartbeats 4000000 in
set_option maxRecDepth 100000 in
theorem c_Flash_goodSlots (l : Launch) (dC : Nat → ClassId) (dI : Nat → Nat → Nat) (cI cL cD : ClassId) (a0 a1 a2 a3 : Nat) (sz : Nat) (u : S_Flash) (res : Int32 × S_Flash) (hf : f_Flash_goodSlots u = some res) : Met l y_Flash_goodSlots w_Flash_goodSlots ({ frames := 2, cells := 0, slots := 0, locals := 43 }) (va_Pc [.ref a0] (fun U => U.heap.size = sz ∧ va_P (dC, dI) CL [(a0, .inr (1, [.ref a1, .ref a2, .ref a3, .int u.2.2.2.1, .int u.2.2.2.2])), (a1, .inl (cL, 72, .inr (.inl (u.1)))), (a2, .inl (cI, 4, .inl (u.2.1))), (a3, .inl (cL, 6, .inr (.inl (u.2.2.1))))] U.heap ∧ va_K (dC, dI) CL [(cI, .int), (cL, .long), (cD, .double)] U ∧ va_D (fun _ => True) [(a0, .inr (1, [.ref a1, .ref a2, .ref a3, .int u.2.2.2.1, .int u.2.2.2.2])), (a1, .inl (cL, 72, .inr (.inl (u.1)))), (a2, .inl (cI, 4, .inl (u.2.1))), (a3, .inl (cL, 6, .inr (.inl (u.2.2.1))))] ∧ NWs U)) (va_Qi (fun (r : Int32) (w : S_Flash) => r = res.1 ∧ w = res.2) (fun (w : S_Flash) t => va_P (dC, dI) CL [(a0, .inr (1, [.ref a1, .ref a2, .ref a3, .int w.2.2.2.1, .int w.2.2.2.2])), (a1, .inl (cL, 72, .inr (.inl (w.1)))), (a2, .inl (cI, 4, .inl (w.2.1))), (a3, .inl (cL, 6, .inr (.inl (w.2.2.1))))] t.heap ∧ va_K (dC, dI) CL [(cI, .int), (cL, .long), (cD, .double)] t ∧ va_D (va_A [(a0, .inr (1, [.ref a1, .ref a2, .ref a3, .int u.2.2.2.1, .int u.2.2.2.2])), (a1, .inl (cL, 72, .inr (.inl (u.1)))), (a2, .inl (cI, 4, .inl (u.2.1))), (a3, .inl (cL, 6, .inr (.inl (u.2.2.1))))] sz) [(a0, .inr (1, [.ref a1, .ref a2, .ref a3, .int w.2.2.2.1, .int w.2.2.2.2])), (a1, .inl (cL, 72, .inr (.inl (w.1)))), (a2, .inl (cI, 4, .inl (w.2.1))), (a3, .inl (cL, 6, .inr (.inl (w.2.2.1))))]) (va_A [(a0, .inr (1, [.ref a1, .ref a2, .ref a3, .int u.2.2.2.1, .int u.2.2.2.2])), (a1, .inl (cL, 72, .inr (.inl (u.1)))), (a2, .inl (cI, 4, .inl (u.2.1))), (a3, .inl (cL, 6, .inr (.inl (u.2.2.1))))] sz)) 0 0 (va_A [(a0, .inr (1, [.ref a1, .ref a2, .ref a3, .int u.2.2.2.1, .int u.2.2.2.2])), (a1, .inl (cL, 72, .inr (.inl (u.1)))), (a2, .inl (cI, 4, .inl (u.2.1))), (a3, .inl (cL, 6, .inr (.inl (u.2.2.1))))] sz) := by
  refine Met.ofW (cc := b_Flash_goodSlots) (maxL := 3) (ret := (some .int)) (by decide) rfl ?_
  intro p e s m args below meth c s₁ B hml hv
  obtain ⟨rfl, hsz, hP, hK, hD0, hN⟩ := hv
  have hx := B.exec
  have hb := B.bytes
  have hr := B.returns
  have hts : ∀ w ∈ TB, w.before _ s = true := fun w h => atoms_spec (ws := w_Flash_goodSlots) B.pre w (List.mem_cons_of_mem _ h)
  have hown : s.vm.findClass R_Flash = some m.cls := findClass_of_methodNamed B.named
  have hlocks := B.notSynchronized
  subst hsz
  have hD := hD0.self (sz := s.heap.size)
  generalize hAe : va_A [(a0, .inr (1, [.ref a1, .ref a2, .ref a3, .int u.2.2.2.1, .int u.2.2.2.2])), (a1, .inl (cL, 72, .inr (.inl (u.1)))), (a2, .inl (cI, 4, .inl (u.2.1))), (a3, .inl (cL, 6, .inr (.inl (u.2.2.1))))] s.heap.size = A at hD ⊢
  have hA : ∀ q : Nat, s.heap.size ≤ q → A q := fun q h => by rw [← hAe]; exact Or.inr h
  have hS : va_S A s.heap s.heap [] := va_S.rf
  have hl := lv_entry ([.ref a0]) (n := 3) (Nat.le_of_ble_eq_true rfl)
  rw [lg_entry_eq]
  generalize (lg_sl ([.ref a0]) ++ List.replicate (3 - (lg_sl ([.ref a0])).length) Slot.unset).toArray = ls at hl ⊢
  have hl : lv_has ls 3 [(0, .ref a0)] := hl
  refine nameQ (fun Q hQe => ?_)
  have k_4 : ∀ (n : Nat), ∀ (v1 : Int32) (v2 : Int32) (u : S_Flash), f_Flash_goodSlots_4 n v1 v2 u = some res → ∀ (H : Heap) (locs : List Loc), va_P (dC, dI) CL [(a0, .inr (1, [.ref a1, .ref a2, .ref a3, .int u.2.2.2.1, .int u.2.2.2.2])), (a1, .inl (cL, 72, .inr (.inl (u.1)))), (a2, .inl (cI, 4, .inl (u.2.1))), (a3, .inl (cL, 6, .inr (.inl (u.2.2.1))))] H → va_D A [(a0, .inr (1, [.ref a1, .ref a2, .ref a3, .int u.2.2.2.1, .int u.2.2.2.2])), (a1, .inl (cL, 72, .inr (.inl (u.1)))), (a2, .inl (cI, 4, .inl (u.2.1))), (a3, .inl (cL, 6, .inr (.inl (u.2.2.1))))] → va_S A s.heap H locs → ∀ (ls : Array Slot), lv_has ls 3 [(0, .ref a0), (1, .int v1), (2, .int v2)] → W p l e (headSpec w_Flash_goodSlots ({ frames := 2, cells := 0, slots := 0, locals := 43 })).room s m ([.ref a0] : List Value).toArray below meth c H locs 0 0 Q (F0 m 4 ls []) := by
    intro n
    induction n with
    | zero =>
      intro v1 v2 u hf
      simp [f_Flash_goodSlots_4] at hf
    | succ n k_4 =>
      intro v1 v2 u hf H locs hP hD hS ls hl
      rw [f_Flash_goodSlots_4] at hf
      refine lv_iload_n hx hb d_Flash_goodSlots_4 rfl (lv_at hl 2 rfl) ?_
      refine lv_bipush (v := 12) hx hb d_Flash_goodSlots_5 (by decide) ?_
      refine lv_icmp_ge (tgt := 27) hx hb d_Flash_goodSlots_7 (by decide) (fun c1 => ?_) (fun c1 => ?_)
      · have hf := ite_t c1 hf
        refine lv_iload_n hx hb d_Flash_goodSlots_27 rfl (lv_at hl 1 rfl) ?_
        have hf := Option.some.inj hf
        rw [hQe]
        exact W.iret (v := v1) hx hb hr (fun t ht hW => ⟨⟨v1, u, rfl, ⟨congrArg Prod.fst hf, congrArg Prod.snd hf⟩, by rw [ht]; exact hP, va_K.moved hW.alike hK, hD⟩, hS.F ht⟩) hS.2.2 d_Flash_goodSlots_28
      · have hf := ite_f c1 hf
        refine lv_aload_n hx hb d_Flash_goodSlots_10 rfl (lv_at hl 0 rfl) ?_
        refine lv_iload_n hx hb d_Flash_goodSlots_11 rfl (lv_at hl 2 rfl) ?_
        obtain ⟨r2, w3, hc, hf⟩ := ca_t hf
        have hPc := hP.sub (ws' := [(a0, .inr (1, [.ref a1, .ref a2, .ref a3, .int u.2.2.2.1, .int u.2.2.2.2])), (a1, .inl (cL, 72, .inr (.inl (u.1)))), (a2, .inl (cI, 4, .inl (u.2.1))), (a3, .inl (cL, 6, .inr (.inl (u.2.2.1))))]) [0, 1, 2, 3] rfl
        have hDc := hD.sub (ws' := [(a0, .inr (1, [.ref a1, .ref a2, .ref a3, .int u.2.2.2.1, .int u.2.2.2.2])), (a1, .inl (cL, 72, .inr (.inl (u.1)))), (a2, .inl (cI, 4, .inl (u.2.1))), (a3, .inl (cL, 6, .inr (.inl (u.2.2.1))))]) [0, 1, 2, 3] (by decide) rfl
        have hFc := va_free (wc := [(a0, .inr (1, [.ref a1, .ref a2, .ref a3, .int u.2.2.2.1, .int u.2.2.2.2])), (a1, .inl (cL, 72, .inr (.inl (u.1)))), (a2, .inl (cI, 4, .inl (u.2.1))), (a3, .inl (cL, 6, .inr (.inl (u.2.2.1))))]) hD hS hA [0, 1, 2, 3] rfl
        refine va_calli (va_runV (As := [.int v2]) (rest := []) ⟨hx, hb, hml, hown, hts⟩ (c_Flash_isGood l dC dI cI cL cD a0 a1 a2 a3 H.size v2 u (r2, w3) hc) (cwV 1 hts (gV t_384 t_386 t_5 t_43 t_387) rfl rfl rfl (by decide +kernel) ⟨(Nat.le_of_ble_eq_true rfl), (Nat.le_of_ble_eq_true rfl)⟩) ⟨fun a U g mk q => by obtain ⟨q0, q1, qP, qK, qD, qN⟩ := q; exact ⟨q0, q1, qP, va_K.moved (u := U) (U := U.calling g mk a) (Vm.Alike.refl U.vm) qK, qD, NWs.same (u := U) (U := U.calling g mk a) rfl qN⟩, va_recv hK hPc (ci := 1) (q0 := 0) rfl rfl, fun U hU hW => ⟨rfl, by rw [hU], by rw [hU]; exact hPc, va_K.moved hW.alike hK, hDc.weaken (fun _ _ _ _ => trivial), hN.warm hW⟩⟩ rfl rfl hl.1 rfl (lv_room (Nat.le_of_ble_eq_true rfl)) d_Flash_goodSlots_12 ⟨(Nat.le_of_ble_eq_true rfl), (Nat.le_of_ble_eq_true rfl)⟩) hS (fun q _ h => hFc q h) hFc (fun rZ wZ t H1 locs ht hvm hw hB hz1 hk1 hS => ?_)
        obtain ⟨eY, eZ⟩ := hw
        replace eY : r2 = rZ := eY.symm
        replace eZ : w3 = wZ := eZ.symm
        subst eY
        subst eZ
        obtain ⟨hP1, hK1, hD1⟩ := hB
        rw [ht] at hP1
        obtain ⟨hP, hD⟩ := va_join (wr := []) (w1 := [(a0, .inr (1, [.ref a1, .ref a2, .ref a3, .int w3.2.2.2.1, .int w3.2.2.2.2])), (a1, .inl (cL, 72, .inr (.inl (w3.1)))), (a2, .inl (cI, 4, .inl (w3.2.1))), (a3, .inl (cL, 6, .inr (.inl (w3.2.2.1))))]) hP hD [0, 1, 2, 3] [] rfl rfl (by decide) (by decide) hk1 hFc hP1 hD1
        generalize H1 = H at hP hS ⊢
        have hP := hP.sub (ws' := [(a0, .inr (1, [.ref a1, .ref a2, .ref a3, .int w3.2.2.2.1, .int w3.2.2.2.2])), (a1, .inl (cL, 72, .inr (.inl (w3.1)))), (a2, .inl (cI, 4, .inl (w3.2.1))), (a3, .inl (cL, 6, .inr (.inl (w3.2.2.1))))]) [0, 1, 2, 3] rfl
        have hD := hD.sub (ws' := [(a0, .inr (1, [.ref a1, .ref a2, .ref a3, .int w3.2.2.2.1, .int w3.2.2.2.2])), (a1, .inl (cL, 72, .inr (.inl (w3.1)))), (a2, .inl (cI, 4, .inl (w3.2.1))), (a3, .inl (cL, 6, .inr (.inl (w3.2.2.1))))]) [0, 1, 2, 3] (by decide) rfl
        refine lv_if_eq (tgt := 21) hx hb d_Flash_goodSlots_15 (by decide) (fun c4 => ?_) (fun c4 => ?_)
        · have hf := ite_t c4 hf
          obtain ⟨x5, ex5⟩ : ∃ y : Int32, y = v2 + (1 : Int32) := ⟨_, rfl⟩
          have hf := bd_t ex5 hf
          refine lv_iinc (v := x5) (lv' := [(2, .int x5), (0, .ref a0), (1, .int v1)]) hx hb d_Flash_goodSlots_21 hl (k := 2) rfl (by rw [ex5]; rfl) (by decide) rfl (fun ls hl => ?_)
          refine lv_goto (tgt := 4) hx hb d_Flash_goodSlots_24 (by decide) ?_
          have hl := lv_sub hl (l' := [(0, .ref a0), (1, .int v1), (2, .int x5)]) [1, 2, 0] rfl
          exact k_4 v1 x5 w3 hf _ _ hP hD hS ls hl
        · have hf := ite_f c4 hf
          obtain ⟨x6, ex6⟩ : ∃ y : Int32, y = v1 + (1 : Int32) := ⟨_, rfl⟩
          have hf := bd_t ex6 hf
          refine lv_iinc (v := x6) (lv' := [(1, .int x6), (0, .ref a0), (2, .int v2)]) hx hb d_Flash_goodSlots_18 hl (k := 1) rfl (by rw [ex6]; rfl) (by decide) rfl (fun ls hl => ?_)
          obtain ⟨x7, ex7⟩ : ∃ y : Int32, y = v2 + (1 : Int32) := ⟨_, rfl⟩
          have hf := bd_t ex7 hf
          refine lv_iinc (v := x7) (lv' := [(2, .int x7), (1, .int x6), (0, .ref a0)]) hx hb d_Flash_goodSlots_21 hl (k := 2) rfl (by rw [ex7]; rfl) (by decide) rfl (fun ls hl => ?_)
          refine lv_goto (tgt := 4) hx hb d_Flash_goodSlots_24 (by decide) ?_
          have hl := lv_sub hl (l' := [(0, .ref a0), (1, .int x6), (2, .int x7)]) [2, 1, 0] rfl
          exact k_4 x6 x7 w3 hf _ _ hP hD hS ls hl
  rw [f_Flash_goodSlots] at hf
  refine lv_iconst (v := 0) hx hb d_Flash_goodSlots_0 (by decide) ?_
  refine lv_istore_n (lv' := [(1, .int (0 : Int32)), (0, .ref a0)]) hx hb d_Flash_goodSlots_1 rfl hl (by decide) rfl (fun ls hl => ?_)
  refine lv_iconst (v := 0) hx hb d_Flash_goodSlots_2 (by decide) ?_
  refine lv_istore_n (lv' := [(2, .int (0 : Int32)), (1, .int (0 : Int32)), (0, .ref a0)]) hx hb d_Flash_goodSlots_3 rfl hl (by decide) rfl (fun ls hl => ?_)
  have hl := lv_sub hl (l' := [(0, .ref a0), (1, .int (0 : Int32)), (2, .int (0 : Int32))]) [2, 1, 0] rfl
  exact k_4 64 (0 : Int32) (0 : Int32) u hf _ _ hP hD hS ls hl
def f_Flash_newestSlot_4 : Nat → Int32 → Int32 → S_Flash → Option (Int32 × S_Flash)
  | 0, _, _, _ => none
  | n + 1, v1, v2, u => (if (12 : Int32) ≤ v2 then some (v1, u) else ca (f_Flash_isGood v2 u) (fun r2 w3 => (if r2 = 0 then bd (v2 + (1 : Int32)) (fun x5 : Int32 => (f_Flash_newestSlot_4 n) v1 x5 w3) else (if v1 = (-1 : Int32) then bd (v2 + (1 : Int32)) (fun x7 : Int32 => (f_Flash_newestSlot_4 n) v2 x7 w3) else ca (f_Flash_wordAt v2 (0 : Int32) w3) (fun r8 w9 => ca (f_Flash_wordAt v1 (0 : Int32) w9) (fun r10 w11 => bd (lg_cmp r8 r10) (fun x12 : Int32 => (if x12 ≤ 0 then bd (v2 + (1 : Int32)) (fun x14 : Int32 => (f_Flash_newestSlot_4 n) v1 x14 w11) else bd (v2 + (1 : Int32)) (fun x15 : Int32 => (f_Flash_newestSlot_4 n) v2 x15 w11)))))))))
def f_Flash_newestSlot (u : S_Flash) : Option (Int32 × S_Flash) := f_Flash_newestSlot_4 64 (-1 : Int32) (0 : Int32) u
set_option maxHeartbeats 4000000 in
set_option maxRecDepth 100000 in
theorem c_Flash_newestSlot (l : Launch) (dC : Nat → ClassId) (dI : Nat → Nat → Nat) (cI cL cD : ClassId) (a0 a1 a2 a3 : Nat) (sz : Nat) (u : S_Flash) (res : Int32 × S_Flash) (hf : f_Flash_newestSlot u = some res) : Met l y_Flash_newestSlot w_Flash_newestSlot ({ frames := 2, cells := 0, slots := 0, locals := 43 }) (va_Pc [.ref a0] (fun U => U.heap.size = sz ∧ va_P (dC, dI) CL [(a0, .inr (1, [.ref a1, .ref a2, .ref a3, .int u.2.2.2.1, .int u.2.2.2.2])), (a1, .inl (cL, 72, .inr (.inl (u.1)))), (a2, .inl (cI, 4, .inl (u.2.1))), (a3, .inl (cL, 6, .inr (.inl (u.2.2.1))))] U.heap ∧ va_K (dC, dI) CL [(cI, .int), (cL, .long), (cD, .double)] U ∧ va_D (fun _ => True) [(a0, .inr (1, [.ref a1, .ref a2, .ref a3, .int u.2.2.2.1, .int u.2.2.2.2])), (a1, .inl (cL, 72, .inr (.inl (u.1)))), (a2, .inl (cI, 4, .inl (u.2.1))), (a3, .inl (cL, 6, .inr (.inl (u.2.2.1))))] ∧ NWs U)) (va_Qi (fun (r : Int32) (w : S_Flash) => r = res.1 ∧ w = res.2) (fun (w : S_Flash) t => va_P (dC, dI) CL [(a0, .inr (1, [.ref a1, .ref a2, .ref a3, .int w.2.2.2.1, .int w.2.2.2.2])), (a1, .inl (cL, 72, .inr (.inl (w.1)))), (a2, .inl (cI, 4, .inl (w.2.1))), (a3, .inl (cL, 6, .inr (.inl (w.2.2.1))))] t.heap ∧ va_K (dC, dI) CL [(cI, .int), (cL, .long), (cD, .double)] t ∧ va_D (va_A [(a0, .inr (1, [.ref a1, .ref a2, .ref a3, .int u.2.2.2.1, .int u.2.2.2.2])), (a1, .inl (cL, 72, .inr (.inl (u.1)))), (a2, .inl (cI, 4, .inl (u.2.1))), (a3, .inl (cL, 6, .inr (.inl (u.2.2.1))))] sz) [(a0, .inr (1, [.ref a1, .ref a2, .ref a3, .int w.2.2.2.1, .int w.2.2.2.2])), (a1, .inl (cL, 72, .inr (.inl (w.1)))), (a2, .inl (cI, 4, .inl (w.2.1))), (a3, .inl (cL, 6, .inr (.inl (w.2.2.1))))]) (va_A [(a0, .inr (1, [.ref a1, .ref a2, .ref a3, .int u.2.2.2.1, .int u.2.2.2.2])), (a1, .inl (cL, 72, .inr (.inl (u.1)))), (a2, .inl (cI, 4, .inl (u.2.1))), (a3, .inl (cL, 6, .inr (.inl (u.2.2.1))))] sz)) 0 0 (va_A [(a0, .inr (1, [.ref a1, .ref a2, .ref a3, .int u.2.2.2.1, .int u.2.2.2.2])), (a1, .inl (cL, 72, .inr (.inl (u.1)))), (a2, .inl (cI, 4, .inl (u.2.1))), (a3, .inl (cL, 6, .inr (.inl (u.2.2.1))))] sz) := by
  refine Met.ofW (cc := b_Flash_newestSlot) (maxL := 3) (ret := (some .int)) (by decide) rfl ?_
  intro p e s m args below meth c s₁ B hml hv
  obtain ⟨rfl, hsz, hP, hK, hD0, hN⟩ := hv
  have hx := B.exec
  have hb := B.bytes
  have hr := B.returns
  have hts : ∀ w ∈ TB, w.before _ s = true := fun w h => atoms_spec (ws := w_Flash_newestSlot) B.pre w (List.mem_cons_of_mem _ h)
  have hown : s.vm.findClass R_Flash = some m.cls := findClass_of_methodNamed B.named
  have hlocks := B.notSynchronized
  subst hsz
  have hD := hD0.self (sz := s.heap.size)
  generalize hAe : va_A [(a0, .inr (1, [.ref a1, .ref a2, .ref a3, .int u.2.2.2.1, .int u.2.2.2.2])), (a1, .inl (cL, 72, .inr (.inl (u.1)))), (a2, .inl (cI, 4, .inl (u.2.1))), (a3, .inl (cL, 6, .inr (.inl (u.2.2.1))))] s.heap.size = A at hD ⊢
  have hA : ∀ q : Nat, s.heap.size ≤ q → A q := fun q h => by rw [← hAe]; exact Or.inr h
  have hS : va_S A s.heap s.heap [] := va_S.rf
  have hl := lv_entry ([.ref a0]) (n := 3) (Nat.le_of_ble_eq_true rfl)
  rw [lg_entry_eq]
  generalize (lg_sl ([.ref a0]) ++ List.replicate (3 - (lg_sl ([.ref a0])).length) Slot.unset).toArray = ls at hl ⊢
  have hl : lv_has ls 3 [(0, .ref a0)] := hl
  refine nameQ (fun Q hQe => ?_)
  have k_4 : ∀ (n : Nat), ∀ (v1 : Int32) (v2 : Int32) (u : S_Flash), f_Flash_newestSlot_4 n v1 v2 u = some res → ∀ (H : Heap) (locs : List Loc), va_P (dC, dI) CL [(a0, .inr (1, [.ref a1, .ref a2, .ref a3, .int u.2.2.2.1, .int u.2.2.2.2])), (a1, .inl (cL, 72, .inr (.inl (u.1)))), (a2, .inl (cI, 4, .inl (u.2.1))), (a3, .inl (cL, 6, .inr (.inl (u.2.2.1))))] H → va_D A [(a0, .inr (1, [.ref a1, .ref a2, .ref a3, .int u.2.2.2.1, .int u.2.2.2.2])), (a1, .inl (cL, 72, .inr (.inl (u.1)))), (a2, .inl (cI, 4, .inl (u.2.1))), (a3, .inl (cL, 6, .inr (.inl (u.2.2.1))))] → va_S A s.heap H locs → ∀ (ls : Array Slot), lv_has ls 3 [(0, .ref a0), (1, .int v1), (2, .int v2)] → W p l e (headSpec w_Flash_newestSlot ({ frames := 2, cells := 0, slots := 0, locals := 43 })).room s m ([.ref a0] : List Value).toArray below meth c H locs 0 0 Q (F0 m 4 ls []) := by
    intro n
    induction n with
    | zero =>
      intro v1 v2 u hf
      simp [f_Flash_newestSlot_4] at hf
    | succ n k_4 =>
      intro v1 v2 u hf H locs hP hD hS ls hl
      rw [f_Flash_newestSlot_4] at hf
      refine lv_iload_n hx hb d_Flash_newestSlot_4 rfl (lv_at hl 2 rfl) ?_
      refine lv_bipush (v := 12) hx hb d_Flash_newestSlot_5 (by decide) ?_
      refine lv_icmp_ge (tgt := 47) hx hb d_Flash_newestSlot_7 (by decide) (fun c1 => ?_) (fun c1 => ?_)
      · have hf := ite_t c1 hf
        refine lv_iload_n hx hb d_Flash_newestSlot_47 rfl (lv_at hl 1 rfl) ?_
        have hf := Option.some.inj hf
        rw [hQe]
        exact W.iret (v := v1) hx hb hr (fun t ht hW => ⟨⟨v1, u, rfl, ⟨congrArg Prod.fst hf, congrArg Prod.snd hf⟩, by rw [ht]; exact hP, va_K.moved hW.alike hK, hD⟩, hS.F ht⟩) hS.2.2 d_Flash_newestSlot_48
      · have hf := ite_f c1 hf
        refine lv_aload_n hx hb d_Flash_newestSlot_10 rfl (lv_at hl 0 rfl) ?_
        refine lv_iload_n hx hb d_Flash_newestSlot_11 rfl (lv_at hl 2 rfl) ?_
        obtain ⟨r2, w3, hc, hf⟩ := ca_t hf
        have hPc := hP.sub (ws' := [(a0, .inr (1, [.ref a1, .ref a2, .ref a3, .int u.2.2.2.1, .int u.2.2.2.2])), (a1, .inl (cL, 72, .inr (.inl (u.1)))), (a2, .inl (cI, 4, .inl (u.2.1))), (a3, .inl (cL, 6, .inr (.inl (u.2.2.1))))]) [0, 1, 2, 3] rfl
        have hDc := hD.sub (ws' := [(a0, .inr (1, [.ref a1, .ref a2, .ref a3, .int u.2.2.2.1, .int u.2.2.2.2])), (a1, .inl (cL, 72, .inr (.inl (u.1)))), (a2, .inl (cI, 4, .inl (u.2.1))), (a3, .inl (cL, 6, .inr (.inl (u.2.2.1))))]) [0, 1, 2, 3] (by decide) rfl
        have hFc := va_free (wc := [(a0, .inr (1, [.ref a1, .ref a2, .ref a3, .int u.2.2.2.1, .int u.2.2.2.2])), (a1, .inl (cL, 72, .inr (.inl (u.1)))), (a2, .inl (cI, 4, .inl (u.2.1))), (a3, .inl (cL, 6, .inr (.inl (u.2.2.1))))]) hD hS hA [0, 1, 2, 3] rfl
        refine va_calli (va_runV (As := [.int v2]) (rest := []) ⟨hx, hb, hml, hown, hts⟩ (c_Flash_isGood l dC dI cI cL cD a0 a1 a2 a3 H.size v2 u (r2, w3) hc) (cwV 1 hts (gV t_384 t_386 t_5 t_43 t_387) rfl rfl rfl (by decide +kernel) ⟨(Nat.le_of_ble_eq_true rfl), (Nat.le_of_ble_eq_true rfl)⟩) ⟨fun a U g mk q => by obtain ⟨q0, q1, qP, qK, qD, qN⟩ := q; exact ⟨q0, q1, qP, va_K.moved (u := U) (U := U.calling g mk a) (Vm.Alike.refl U.vm) qK, qD, NWs.same (u := U) (U := U.calling g mk a) rfl qN⟩, va_recv hK hPc (ci := 1) (q0 := 0) rfl rfl, fun U hU hW => ⟨rfl, by rw [hU], by rw [hU]; exact hPc, va_K.moved hW.alike hK, hDc.weaken (fun _ _ _ _ => trivial), hN.warm hW⟩⟩ rfl rfl hl.1 rfl (lv_room (Nat.le_of_ble_eq_true rfl)) d_Flash_newestSlot_12 ⟨(Nat.le_of_ble_eq_true rfl), (Nat.le_of_ble_eq_true rfl)⟩) hS (fun q _ h => hFc q h) hFc (fun rZ wZ t H1 locs ht hvm hw hB hz1 hk1 hS => ?_)
        obtain ⟨eY, eZ⟩ := hw
        replace eY : r2 = rZ := eY.symm
        replace eZ : w3 = wZ := eZ.symm
        subst eY
        subst eZ
        obtain ⟨hP1, hK1, hD1⟩ := hB
        rw [ht] at hP1
        obtain ⟨hP, hD⟩ := va_join (wr := []) (w1 := [(a0, .inr (1, [.ref a1, .ref a2, .ref a3, .int w3.2.2.2.1, .int w3.2.2.2.2])), (a1, .inl (cL, 72, .inr (.inl (w3.1)))), (a2, .inl (cI, 4, .inl (w3.2.1))), (a3, .inl (cL, 6, .inr (.inl (w3.2.2.1))))]) hP hD [0, 1, 2, 3] [] rfl rfl (by decide) (by decide) hk1 hFc hP1 hD1
        generalize H1 = H at hP hS ⊢
        have hP := hP.sub (ws' := [(a0, .inr (1, [.ref a1, .ref a2, .ref a3, .int w3.2.2.2.1, .int w3.2.2.2.2])), (a1, .inl (cL, 72, .inr (.inl (w3.1)))), (a2, .inl (cI, 4, .inl (w3.2.1))), (a3, .inl (cL, 6, .inr (.inl (w3.2.2.1))))]) [0, 1, 2, 3] rfl
        have hD := hD.sub (ws' := [(a0, .inr (1, [.ref a1, .ref a2, .ref a3, .int w3.2.2.2.1, .int w3.2.2.2.2])), (a1, .inl (cL, 72, .inr (.inl (w3.1)))), (a2, .inl (cI, 4, .inl (w3.2.1))), (a3, .inl (cL, 6, .inr (.inl (w3.2.2.1))))]) [0, 1, 2, 3] (by decide) rfl
        refine lv_if_eq (tgt := 41) hx hb d_Flash_newestSlot_15 (by decide) (fun c4 => ?_) (fun c4 => ?_)
        · have hf := ite_t c4 hf
          obtain ⟨x5, ex5⟩ : ∃ y : Int32, y = v2 + (1 : Int32) := ⟨_, rfl⟩
          have hf := bd_t ex5 hf
          refine lv_iinc (v := x5) (lv' := [(2, .int x5), (0, .ref a0), (1, .int v1)]) hx hb d_Flash_newestSlot_41 hl (k := 2) rfl (by rw [ex5]; rfl) (by decide) rfl (fun ls hl => ?_)
          refine lv_goto (tgt := 4) hx hb d_Flash_newestSlot_44 (by decide) ?_
          have hl := lv_sub hl (l' := [(0, .ref a0), (1, .int v1), (2, .int x5)]) [1, 2, 0] rfl
          exact k_4 v1 x5 w3 hf _ _ hP hD hS ls hl
        · have hf := ite_f c4 hf
          refine lv_iload_n hx hb d_Flash_newestSlot_18 rfl (lv_at hl 1 rfl) ?_
          refine lv_iconst (v := -1) hx hb d_Flash_newestSlot_19 (by decide) ?_
          refine lv_icmp_eq (tgt := 39) hx hb d_Flash_newestSlot_20 (by decide) (fun c6 => ?_) (fun c6 => ?_)
          · have hf := ite_t c6 hf
            refine lv_iload_n hx hb d_Flash_newestSlot_39 rfl (lv_at hl 2 rfl) ?_
            refine lv_istore_n (lv' := [(1, .int v2), (0, .ref a0), (2, .int v2)]) hx hb d_Flash_newestSlot_40 rfl hl (by decide) rfl (fun ls hl => ?_)
            obtain ⟨x7, ex7⟩ : ∃ y : Int32, y = v2 + (1 : Int32) := ⟨_, rfl⟩
            have hf := bd_t ex7 hf
            refine lv_iinc (v := x7) (lv' := [(2, .int x7), (1, .int v2), (0, .ref a0)]) hx hb d_Flash_newestSlot_41 hl (k := 2) rfl (by rw [ex7]; rfl) (by decide) rfl (fun ls hl => ?_)
            refine lv_goto (tgt := 4) hx hb d_Flash_newestSlot_44 (by decide) ?_
            have hl := lv_sub hl (l' := [(0, .ref a0), (1, .int v2), (2, .int x7)]) [2, 1, 0] rfl
            exact k_4 v2 x7 w3 hf _ _ hP hD hS ls hl
          · have hf := ite_f c6 hf
            refine lv_aload_n hx hb d_Flash_newestSlot_23 rfl (lv_at hl 0 rfl) ?_
            refine lv_iload_n hx hb d_Flash_newestSlot_24 rfl (lv_at hl 2 rfl) ?_
            refine lv_iconst (v := 0) hx hb d_Flash_newestSlot_25 (by decide) ?_
            obtain ⟨r8, w9, hc, hf⟩ := ca_t hf
            have hPc := hP.sub (ws' := [(a0, .inr (1, [.ref a1, .ref a2, .ref a3, .int w3.2.2.2.1, .int w3.2.2.2.2])), (a1, .inl (cL, 72, .inr (.inl (w3.1)))), (a2, .inl (cI, 4, .inl (w3.2.1))), (a3, .inl (cL, 6, .inr (.inl (w3.2.2.1))))]) [0, 1, 2, 3] rfl
            have hDc := hD.sub (ws' := [(a0, .inr (1, [.ref a1, .ref a2, .ref a3, .int w3.2.2.2.1, .int w3.2.2.2.2])), (a1, .inl (cL, 72, .inr (.inl (w3.1)))), (a2, .inl (cI, 4, .inl (w3.2.1))), (a3, .inl (cL, 6, .inr (.inl (w3.2.2.1))))]) [0, 1, 2, 3] (by decide) rfl
            have hFc := va_free (wc := [(a0, .inr (1, [.ref a1, .ref a2, .ref a3, .int w3.2.2.2.1, .int w3.2.2.2.2])), (a1, .inl (cL, 72, .inr (.inl (w3.1)))), (a2, .inl (cI, 4, .inl (w3.2.1))), (a3, .inl (cL, 6, .inr (.inl (w3.2.2.1))))]) hD hS hA [0, 1, 2, 3] rfl
            refine va_calll (va_runV (As := [.int v2, .int (0 : Int32)]) (rest := []) ⟨hx, hb, hml, hown, hts⟩ (c_Flash_wordAt l dC dI cI cL cD a0 a1 a2 a3 H.size v2 (0 : Int32) w3 (r8, w9) hc) (cwV 2 hts (gV t_396 t_397 t_398 t_43 t_399) rfl rfl rfl (by decide +kernel) ⟨(Nat.le_of_ble_eq_true rfl), (Nat.le_of_ble_eq_true rfl)⟩) ⟨fun a U g mk q => by obtain ⟨q0, q1, qP, qK, qD, qN⟩ := q; exact ⟨q0, q1, qP, va_K.moved (u := U) (U := U.calling g mk a) (Vm.Alike.refl U.vm) qK, qD, NWs.same (u := U) (U := U.calling g mk a) rfl qN⟩, va_recv hK hPc (ci := 1) (q0 := 0) rfl rfl, fun U hU hW => ⟨rfl, by rw [hU], by rw [hU]; exact hPc, va_K.moved hW.alike hK, hDc.weaken (fun _ _ _ _ => trivial), hN.warm hW⟩⟩ rfl rfl hl.1 rfl (lv_room (Nat.le_of_ble_eq_true rfl)) d_Flash_newestSlot_26 ⟨(Nat.le_of_ble_eq_true rfl), (Nat.le_of_ble_eq_true rfl)⟩) hS (fun q _ h => hFc q h) hFc (fun rZ wZ t H1 locs ht hvm hw hB hz1 hk1 hS => ?_)
            obtain ⟨eY, eZ⟩ := hw
            replace eY : r8 = rZ := eY.symm
            replace eZ : w9 = wZ := eZ.symm
            subst eY
            subst eZ
            obtain ⟨hP1, hK1, hD1⟩ := hB
            rw [ht] at hP1
            obtain ⟨hP, hD⟩ := va_join (wr := []) (w1 := [(a0, .inr (1, [.ref a1, .ref a2, .ref a3, .int w9.2.2.2.1, .int w9.2.2.2.2])), (a1, .inl (cL, 72, .inr (.inl (w9.1)))), (a2, .inl (cI, 4, .inl (w9.2.1))), (a3, .inl (cL, 6, .inr (.inl (w9.2.2.1))))]) hP hD [0, 1, 2, 3] [] rfl rfl (by decide) (by decide) hk1 hFc hP1 hD1
            generalize H1 = H at hP hS ⊢
            have hP := hP.sub (ws' := [(a0, .inr (1, [.ref a1, .ref a2, .ref a3, .int w9.2.2.2.1, .int w9.2.2.2.2])), (a1, .inl (cL, 72, .inr (.inl (w9.1)))), (a2, .inl (cI, 4, .inl (w9.2.1))), (a3, .inl (cL, 6, .inr (.inl (w9.2.2.1))))]) [0, 1, 2, 3] rfl
            have hD := hD.sub (ws' := [(a0, .inr (1, [.ref a1, .ref a2, .ref a3, .int w9.2.2.2.1, .int w9.2.2.2.2])), (a1, .inl (cL, 72, .inr (.inl (w9.1)))), (a2, .inl (cI, 4, .inl (w9.2.1))), (a3, .inl (cL, 6, .inr (.inl (w9.2.2.1))))]) [0, 1, 2, 3] (by decide) rfl
            refine lv_aload_n hx hb d_Flash_newestSlot_29 rfl (lv_at hl 0 rfl) ?_
            refine lv_iload_n hx hb d_Flash_newestSlot_30 rfl (lv_at hl 1 rfl) ?_
            refine lv_iconst (v := 0) hx hb d_Flash_newestSlot_31 (by decide) ?_
            obtain ⟨r10, w11, hc, hf⟩ := ca_t hf
            have hPc := hP.sub (ws' := [(a0, .inr (1, [.ref a1, .ref a2, .ref a3, .int w9.2.2.2.1, .int w9.2.2.2.2])), (a1, .inl (cL, 72, .inr (.inl (w9.1)))), (a2, .inl (cI, 4, .inl (w9.2.1))), (a3, .inl (cL, 6, .inr (.inl (w9.2.2.1))))]) [0, 1, 2, 3] rfl
            have hDc := hD.sub (ws' := [(a0, .inr (1, [.ref a1, .ref a2, .ref a3, .int w9.2.2.2.1, .int w9.2.2.2.2])), (a1, .inl (cL, 72, .inr (.inl (w9.1)))), (a2, .inl (cI, 4, .inl (w9.2.1))), (a3, .inl (cL, 6, .inr (.inl (w9.2.2.1))))]) [0, 1, 2, 3] (by decide) rfl
            have hFc := va_free (wc := [(a0, .inr (1, [.ref a1, .ref a2, .ref a3, .int w9.2.2.2.1, .int w9.2.2.2.2])), (a1, .inl (cL, 72, .inr (.inl (w9.1)))), (a2, .inl (cI, 4, .inl (w9.2.1))), (a3, .inl (cL, 6, .inr (.inl (w9.2.2.1))))]) hD hS hA [0, 1, 2, 3] rfl
            refine va_calll (va_runV (As := [.int v1, .int (0 : Int32)]) (rest := [.long r8]) ⟨hx, hb, hml, hown, hts⟩ (c_Flash_wordAt l dC dI cI cL cD a0 a1 a2 a3 H.size v1 (0 : Int32) w9 (r10, w11) hc) (cwV 2 hts (gV t_396 t_397 t_398 t_43 t_399) rfl rfl rfl (by decide +kernel) ⟨(Nat.le_of_ble_eq_true rfl), (Nat.le_of_ble_eq_true rfl)⟩) ⟨fun a U g mk q => by obtain ⟨q0, q1, qP, qK, qD, qN⟩ := q; exact ⟨q0, q1, qP, va_K.moved (u := U) (U := U.calling g mk a) (Vm.Alike.refl U.vm) qK, qD, NWs.same (u := U) (U := U.calling g mk a) rfl qN⟩, va_recv hK hPc (ci := 1) (q0 := 0) rfl rfl, fun U hU hW => ⟨rfl, by rw [hU], by rw [hU]; exact hPc, va_K.moved hW.alike hK, hDc.weaken (fun _ _ _ _ => trivial), hN.warm hW⟩⟩ rfl rfl hl.1 rfl (lv_room (Nat.le_of_ble_eq_true rfl)) d_Flash_newestSlot_32 ⟨(Nat.le_of_ble_eq_true rfl), (Nat.le_of_ble_eq_true rfl)⟩) hS (fun q _ h => hFc q h) hFc (fun rZ wZ t H1 locs ht hvm hw hB hz1 hk1 hS => ?_)
            obtain ⟨eY, eZ⟩ := hw
            replace eY : r10 = rZ := eY.symm
            replace eZ : w11 = wZ := eZ.symm
            subst eY
            subst eZ
            obtain ⟨hP1, hK1, hD1⟩ := hB
            rw [ht] at hP1
            obtain ⟨hP, hD⟩ := va_join (wr := []) (w1 := [(a0, .inr (1, [.ref a1, .ref a2, .ref a3, .int w11.2.2.2.1, .int w11.2.2.2.2])), (a1, .inl (cL, 72, .inr (.inl (w11.1)))), (a2, .inl (cI, 4, .inl (w11.2.1))), (a3, .inl (cL, 6, .inr (.inl (w11.2.2.1))))]) hP hD [0, 1, 2, 3] [] rfl rfl (by decide) (by decide) hk1 hFc hP1 hD1
            generalize H1 = H at hP hS ⊢
            have hP := hP.sub (ws' := [(a0, .inr (1, [.ref a1, .ref a2, .ref a3, .int w11.2.2.2.1, .int w11.2.2.2.2])), (a1, .inl (cL, 72, .inr (.inl (w11.1)))), (a2, .inl (cI, 4, .inl (w11.2.1))), (a3, .inl (cL, 6, .inr (.inl (w11.2.2.1))))]) [0, 1, 2, 3] rfl
            have hD := hD.sub (ws' := [(a0, .inr (1, [.ref a1, .ref a2, .ref a3, .int w11.2.2.2.1, .int w11.2.2.2.2])), (a1, .inl (cL, 72, .inr (.inl (w11.1)))), (a2, .inl (cI, 4, .inl (w11.2.1))), (a3, .inl (cL, 6, .inr (.inl (w11.2.2.1))))]) [0, 1, 2, 3] (by decide) rfl
            refine W.lcmp hx hb d_Flash_newestSlot_35 ?_
            refine lv_topi (fun x12 ex12 => ?_)
            have hf := bd_t ex12 hf
            refine lv_if_le (tgt := 41) hx hb d_Flash_newestSlot_36 (by decide) (fun c13 => ?_) (fun c13 => ?_)
            · have hf := ite_t c13 hf
              obtain ⟨x14, ex14⟩ : ∃ y : Int32, y = v2 + (1 : Int32) := ⟨_, rfl⟩
              have hf := bd_t ex14 hf
              refine lv_iinc (v := x14) (lv' := [(2, .int x14), (0, .ref a0), (1, .int v1)]) hx hb d_Flash_newestSlot_41 hl (k := 2) rfl (by rw [ex14]; rfl) (by decide) rfl (fun ls hl => ?_)
              refine lv_goto (tgt := 4) hx hb d_Flash_newestSlot_44 (by decide) ?_
              have hl := lv_sub hl (l' := [(0, .ref a0), (1, .int v1), (2, .int x14)]) [1, 2, 0] rfl
              exact k_4 v1 x14 w11 hf _ _ hP hD hS ls hl
            · have hf := ite_f c13 hf
              refine lv_iload_n hx hb d_Flash_newestSlot_39 rfl (lv_at hl 2 rfl) ?_
              refine lv_istore_n (lv' := [(1, .int v2), (0, .ref a0), (2, .int v2)]) hx hb d_Flash_newestSlot_40 rfl hl (by decide) rfl (fun ls hl => ?_)
              obtain ⟨x15, ex15⟩ : ∃ y : Int32, y = v2 + (1 : Int32) := ⟨_, rfl⟩
              have hf := bd_t ex15 hf
              refine lv_iinc (v := x15) (lv' := [(2, .int x15), (1, .int v2), (0, .ref a0)]) hx hb d_Flash_newestSlot_41 hl (k := 2) rfl (by rw [ex15]; rfl) (by decide) rfl (fun ls hl => ?_)
              refine lv_goto (tgt := 4) hx hb d_Flash_newestSlot_44 (by decide) ?_
              have hl := lv_sub hl (l' := [(0, .ref a0), (1, .int v2), (2, .int x15)]) [2, 1, 0] rfl
              exact k_4 v2 x15 w11 hf _ _ hP hD hS ls hl
  rw [f_Flash_newestSlot] at hf
  refine lv_iconst (v := -1) hx hb d_Flash_newestSlot_0 (by decide) ?_
  refine lv_istore_n (lv' := [(1, .int (-1 : Int32)), (0, .ref a0)]) hx hb d_Flash_newestSlot_1 rfl hl (by decide) rfl (fun ls hl => ?_)
  refine lv_iconst (v := 0) hx hb d_Flash_newestSlot_2 (by decide) ?_
  refine lv_istore_n (lv' := [(2, .int (0 : Int32)), (1, .int (-1 : Int32)), (0, .ref a0)]) hx hb d_Flash_newestSlot_3 rfl hl (by decide) rfl (fun ls hl => ?_)
  have hl := lv_sub hl (l' := [(0, .ref a0), (1, .int (-1 : Int32)), (2, .int (0 : Int32))]) [2, 1, 0] rfl
  exact k_4 64 (-1 : Int32) (0 : Int32) u hf _ _ hP hD hS ls hl
def f_Flash_nextNumber (u : S_Flash) : Option (Int64 × S_Flash) := ca (f_Flash_newestSlot u) (fun r1 w2 => (if r1 = (-1 : Int32) then some ((1 : Int64), w2) else ca (f_Flash_wordAt r1 (0 : Int32) w2) (fun r4 w5 => bd (r4 + (1 : Int64)) (fun x6 : Int64 => some (x6, w5)))))
set_option maxHeartbeats 4000000 in
set_option maxRecDepth 100000 in
theorem c_Flash_nextNumber (l : Launch) (dC : Nat → ClassId) (dI : Nat → Nat → Nat) (cI cL cD : ClassId) (a0 a1 a2 a3 : Nat) (sz : Nat) (u : S_Flash) (res : Int64 × S_Flash) (hf : f_Flash_nextNumber u = some res) : Met l y_Flash_nextNumber w_Flash_nextNumber ({ frames := 3, cells := 0, slots := 0, locals := 65 }) (va_Pc [.ref a0] (fun U => U.heap.size = sz ∧ va_P (dC, dI) CL [(a0, .inr (1, [.ref a1, .ref a2, .ref a3, .int u.2.2.2.1, .int u.2.2.2.2])), (a1, .inl (cL, 72, .inr (.inl (u.1)))), (a2, .inl (cI, 4, .inl (u.2.1))), (a3, .inl (cL, 6, .inr (.inl (u.2.2.1))))] U.heap ∧ va_K (dC, dI) CL [(cI, .int), (cL, .long), (cD, .double)] U ∧ va_D (fun _ => True) [(a0, .inr (1, [.ref a1, .ref a2, .ref a3, .int u.2.2.2.1, .int u.2.2.2.2])), (a1, .inl (cL, 72, .inr (.inl (u.1)))), (a2, .inl (cI, 4, .inl (u.2.1))), (a3, .inl (cL, 6, .inr (.inl (u.2.2.1))))] ∧ NWs U)) (va_Ql (fun (r : Int64) (w : S_Flash) => r = res.1 ∧ w = res.2) (fun (w : S_Flash) t => va_P (dC, dI) CL [(a0, .inr (1, [.ref a1, .ref a2, .ref a3, .int w.2.2.2.1, .int w.2.2.2.2])), (a1, .inl (cL, 72, .inr (.inl (w.1)))), (a2, .inl (cI, 4, .inl (w.2.1))), (a3, .inl (cL, 6, .inr (.inl (w.2.2.1))))] t.heap ∧ va_K (dC, dI) CL [(cI, .int), (cL, .long), (cD, .double)] t ∧ va_D (va_A [(a0, .inr (1, [.ref a1, .ref a2, .ref a3, .int u.2.2.2.1, .int u.2.2.2.2])), (a1, .inl (cL, 72, .inr (.inl (u.1)))), (a2, .inl (cI, 4, .inl (u.2.1))), (a3, .inl (cL, 6, .inr (.inl (u.2.2.1))))] sz) [(a0, .inr (1, [.ref a1, .ref a2, .ref a3, .int w.2.2.2.1, .int w.2.2.2.2])), (a1, .inl (cL, 72, .inr (.inl (w.1)))), (a2, .inl (cI, 4, .inl (w.2.1))), (a3, .inl (cL, 6, .inr (.inl (w.2.2.1))))]) (va_A [(a0, .inr (1, [.ref a1, .ref a2, .ref a3, .int u.2.2.2.1, .int u.2.2.2.2])), (a1, .inl (cL, 72, .inr (.inl (u.1)))), (a2, .inl (cI, 4, .inl (u.2.1))), (a3, .inl (cL, 6, .inr (.inl (u.2.2.1))))] sz)) 0 0 (va_A [(a0, .inr (1, [.ref a1, .ref a2, .ref a3, .int u.2.2.2.1, .int u.2.2.2.2])), (a1, .inl (cL, 72, .inr (.inl (u.1)))), (a2, .inl (cI, 4, .inl (u.2.1))), (a3, .inl (cL, 6, .inr (.inl (u.2.2.1))))] sz) := by
  refine Met.ofW (cc := b_Flash_nextNumber) (maxL := 2) (ret := (some .long)) (by decide) rfl ?_
  intro p e s m args below meth c s₁ B hml hv
  obtain ⟨rfl, hsz, hP, hK, hD0, hN⟩ := hv
  have hx := B.exec
  have hb := B.bytes
  have hr := B.returns
  have hts : ∀ w ∈ TB, w.before _ s = true := fun w h => atoms_spec (ws := w_Flash_nextNumber) B.pre w (List.mem_cons_of_mem _ h)
  have hown : s.vm.findClass R_Flash = some m.cls := findClass_of_methodNamed B.named
  have hlocks := B.notSynchronized
  subst hsz
  have hD := hD0.self (sz := s.heap.size)
  generalize hAe : va_A [(a0, .inr (1, [.ref a1, .ref a2, .ref a3, .int u.2.2.2.1, .int u.2.2.2.2])), (a1, .inl (cL, 72, .inr (.inl (u.1)))), (a2, .inl (cI, 4, .inl (u.2.1))), (a3, .inl (cL, 6, .inr (.inl (u.2.2.1))))] s.heap.size = A at hD ⊢
  have hA : ∀ q : Nat, s.heap.size ≤ q → A q := fun q h => by rw [← hAe]; exact Or.inr h
  have hS : va_S A s.heap s.heap [] := va_S.rf
  have hl := lv_entry ([.ref a0]) (n := 2) (Nat.le_of_ble_eq_true rfl)
  rw [lg_entry_eq]
  generalize (lg_sl ([.ref a0]) ++ List.replicate (2 - (lg_sl ([.ref a0])).length) Slot.unset).toArray = ls at hl ⊢
  have hl : lv_has ls 2 [(0, .ref a0)] := hl
  refine nameQ (fun Q hQe => ?_)
  rw [f_Flash_nextNumber] at hf
  refine lv_aload_n hx hb d_Flash_nextNumber_0 rfl (lv_at hl 0 rfl) ?_
  obtain ⟨r1, w2, hc, hf⟩ := ca_t hf
  have hPc := hP.sub (ws' := [(a0, .inr (1, [.ref a1, .ref a2, .ref a3, .int u.2.2.2.1, .int u.2.2.2.2])), (a1, .inl (cL, 72, .inr (.inl (u.1)))), (a2, .inl (cI, 4, .inl (u.2.1))), (a3, .inl (cL, 6, .inr (.inl (u.2.2.1))))]) [0, 1, 2, 3] rfl
  have hDc := hD.sub (ws' := [(a0, .inr (1, [.ref a1, .ref a2, .ref a3, .int u.2.2.2.1, .int u.2.2.2.2])), (a1, .inl (cL, 72, .inr (.inl (u.1)))), (a2, .inl (cI, 4, .inl (u.2.1))), (a3, .inl (cL, 6, .inr (.inl (u.2.2.1))))]) [0, 1, 2, 3] (by decide) rfl
  have hFc := va_free (wc := [(a0, .inr (1, [.ref a1, .ref a2, .ref a3, .int u.2.2.2.1, .int u.2.2.2.2])), (a1, .inl (cL, 72, .inr (.inl (u.1)))), (a2, .inl (cI, 4, .inl (u.2.1))), (a3, .inl (cL, 6, .inr (.inl (u.2.2.1))))]) hD hS hA [0, 1, 2, 3] rfl
  refine va_calli (va_runV (As := []) (rest := []) ⟨hx, hb, hml, hown, hts⟩ (c_Flash_newestSlot l dC dI cI cL cD a0 a1 a2 a3 s.heap.size u (r1, w2) hc) (cwV 0 hts (gV t_380 t_381 t_382 t_43 t_383) rfl rfl rfl (by decide +kernel) ⟨(Nat.le_of_ble_eq_true rfl), (Nat.le_of_ble_eq_true rfl)⟩) ⟨fun a U g mk q => by obtain ⟨q0, q1, qP, qK, qD, qN⟩ := q; exact ⟨q0, q1, qP, va_K.moved (u := U) (U := U.calling g mk a) (Vm.Alike.refl U.vm) qK, qD, NWs.same (u := U) (U := U.calling g mk a) rfl qN⟩, va_recv hK hPc (ci := 1) (q0 := 0) rfl rfl, fun U hU hW => ⟨rfl, by rw [hU], by rw [hU]; exact hPc, va_K.moved hW.alike hK, hDc.weaken (fun _ _ _ _ => trivial), hN.warm hW⟩⟩ rfl rfl hl.1 rfl (lv_room (Nat.le_of_ble_eq_true rfl)) d_Flash_nextNumber_1 ⟨(Nat.le_of_ble_eq_true rfl), (Nat.le_of_ble_eq_true rfl)⟩) hS (fun q _ h => hFc q h) hFc (fun rZ wZ t H1 locs ht hvm hw hB hz1 hk1 hS => ?_)
  obtain ⟨eY, eZ⟩ := hw
  replace eY : r1 = rZ := eY.symm
  replace eZ : w2 = wZ := eZ.symm
  subst eY
  subst eZ
  obtain ⟨hP1, hK1, hD1⟩ := hB
  rw [ht] at hP1
  obtain ⟨hP, hD⟩ := va_join (wr := []) (w1 := [(a0, .inr (1, [.ref a1, .ref a2, .ref a3, .int w2.2.2.2.1, .int w2.2.2.2.2])), (a1, .inl (cL, 72, .inr (.inl (w2.1)))), (a2, .inl (cI, 4, .inl (w2.2.1))), (a3, .inl (cL, 6, .inr (.inl (w2.2.2.1))))]) hP hD [0, 1, 2, 3] [] rfl rfl (by decide) (by decide) hk1 hFc hP1 hD1
  generalize H1 = H at hP hS ⊢
  have hP := hP.sub (ws' := [(a0, .inr (1, [.ref a1, .ref a2, .ref a3, .int w2.2.2.2.1, .int w2.2.2.2.2])), (a1, .inl (cL, 72, .inr (.inl (w2.1)))), (a2, .inl (cI, 4, .inl (w2.2.1))), (a3, .inl (cL, 6, .inr (.inl (w2.2.2.1))))]) [0, 1, 2, 3] rfl
  have hD := hD.sub (ws' := [(a0, .inr (1, [.ref a1, .ref a2, .ref a3, .int w2.2.2.2.1, .int w2.2.2.2.2])), (a1, .inl (cL, 72, .inr (.inl (w2.1)))), (a2, .inl (cI, 4, .inl (w2.2.1))), (a3, .inl (cL, 6, .inr (.inl (w2.2.2.1))))]) [0, 1, 2, 3] (by decide) rfl
  refine lv_istore_n (lv' := [(1, .int r1), (0, .ref a0)]) hx hb d_Flash_nextNumber_4 rfl hl (by decide) rfl (fun ls hl => ?_)
  refine lv_iload_n hx hb d_Flash_nextNumber_5 rfl (lv_at hl 0 rfl) ?_
  refine lv_iconst (v := -1) hx hb d_Flash_nextNumber_6 (by decide) ?_
  refine lv_icmp_ne (tgt := 14) hx hb d_Flash_nextNumber_7 (by decide) (fun c3 => ?_) (fun c3 => ?_)
  · have hf := ite_f c3 hf
    refine lv_aload_n hx hb d_Flash_nextNumber_14 rfl (lv_at hl 1 rfl) ?_
    refine lv_iload_n hx hb d_Flash_nextNumber_15 rfl (lv_at hl 0 rfl) ?_
    refine lv_iconst (v := 0) hx hb d_Flash_nextNumber_16 (by decide) ?_
    obtain ⟨r4, w5, hc, hf⟩ := ca_t hf
    have hPc := hP.sub (ws' := [(a0, .inr (1, [.ref a1, .ref a2, .ref a3, .int w2.2.2.2.1, .int w2.2.2.2.2])), (a1, .inl (cL, 72, .inr (.inl (w2.1)))), (a2, .inl (cI, 4, .inl (w2.2.1))), (a3, .inl (cL, 6, .inr (.inl (w2.2.2.1))))]) [0, 1, 2, 3] rfl
    have hDc := hD.sub (ws' := [(a0, .inr (1, [.ref a1, .ref a2, .ref a3, .int w2.2.2.2.1, .int w2.2.2.2.2])), (a1, .inl (cL, 72, .inr (.inl (w2.1)))), (a2, .inl (cI, 4, .inl (w2.2.1))), (a3, .inl (cL, 6, .inr (.inl (w2.2.2.1))))]) [0, 1, 2, 3] (by decide) rfl
    have hFc := va_free (wc := [(a0, .inr (1, [.ref a1, .ref a2, .ref a3, .int w2.2.2.2.1, .int w2.2.2.2.2])), (a1, .inl (cL, 72, .inr (.inl (w2.1)))), (a2, .inl (cI, 4, .inl (w2.2.1))), (a3, .inl (cL, 6, .inr (.inl (w2.2.2.1))))]) hD hS hA [0, 1, 2, 3] rfl
    refine va_calll (va_runV (As := [.int r1, .int (0 : Int32)]) (rest := []) ⟨hx, hb, hml, hown, hts⟩ (c_Flash_wordAt l dC dI cI cL cD a0 a1 a2 a3 H.size r1 (0 : Int32) w2 (r4, w5) hc) (cwV 2 hts (gV t_396 t_397 t_398 t_43 t_399) rfl rfl rfl (by decide +kernel) ⟨(Nat.le_of_ble_eq_true rfl), (Nat.le_of_ble_eq_true rfl)⟩) ⟨fun a U g mk q => by obtain ⟨q0, q1, qP, qK, qD, qN⟩ := q; exact ⟨q0, q1, qP, va_K.moved (u := U) (U := U.calling g mk a) (Vm.Alike.refl U.vm) qK, qD, NWs.same (u := U) (U := U.calling g mk a) rfl qN⟩, va_recv hK hPc (ci := 1) (q0 := 0) rfl rfl, fun U hU hW => ⟨rfl, by rw [hU], by rw [hU]; exact hPc, va_K.moved hW.alike hK, hDc.weaken (fun _ _ _ _ => trivial), hN.warm hW⟩⟩ rfl rfl hl.1 rfl (lv_room (Nat.le_of_ble_eq_true rfl)) d_Flash_nextNumber_17 ⟨(Nat.le_of_ble_eq_true rfl), (Nat.le_of_ble_eq_true rfl)⟩) hS (fun q _ h => hFc q h) hFc (fun rZ wZ t H1 locs ht hvm hw hB hz1 hk1 hS => ?_)
    obtain ⟨eY, eZ⟩ := hw
    replace eY : r4 = rZ := eY.symm
    replace eZ : w5 = wZ := eZ.symm
    subst eY
    subst eZ
    obtain ⟨hP1, hK1, hD1⟩ := hB
    rw [ht] at hP1
    obtain ⟨hP, hD⟩ := va_join (wr := []) (w1 := [(a0, .inr (1, [.ref a1, .ref a2, .ref a3, .int w5.2.2.2.1, .int w5.2.2.2.2])), (a1, .inl (cL, 72, .inr (.inl (w5.1)))), (a2, .inl (cI, 4, .inl (w5.2.1))), (a3, .inl (cL, 6, .inr (.inl (w5.2.2.1))))]) hP hD [0, 1, 2, 3] [] rfl rfl (by decide) (by decide) hk1 hFc hP1 hD1
    generalize H1 = H at hP hS ⊢
    have hP := hP.sub (ws' := [(a0, .inr (1, [.ref a1, .ref a2, .ref a3, .int w5.2.2.2.1, .int w5.2.2.2.2])), (a1, .inl (cL, 72, .inr (.inl (w5.1)))), (a2, .inl (cI, 4, .inl (w5.2.1))), (a3, .inl (cL, 6, .inr (.inl (w5.2.2.1))))]) [0, 1, 2, 3] rfl
    have hD := hD.sub (ws' := [(a0, .inr (1, [.ref a1, .ref a2, .ref a3, .int w5.2.2.2.1, .int w5.2.2.2.2])), (a1, .inl (cL, 72, .inr (.inl (w5.1)))), (a2, .inl (cI, 4, .inl (w5.2.1))), (a3, .inl (cL, 6, .inr (.inl (w5.2.2.1))))]) [0, 1, 2, 3] (by decide) rfl
    refine lv_lconst (v := 1) hx hb d_Flash_nextNumber_20 (by decide) ?_
    refine lv_ladd hx hb d_Flash_nextNumber_21 ?_
    refine lv_topl (fun x6 ex6 => ?_)
    have hf := bd_t ex6 hf
    have hf := Option.some.inj hf
    rw [hQe]
    exact W.lret (v := x6) hx hb hr (fun t ht hW => ⟨⟨x6, w5, rfl, ⟨congrArg Prod.fst hf, congrArg Prod.snd hf⟩, by rw [ht]; exact hP, va_K.moved hW.alike hK, hD⟩, hS.F ht⟩) hS.2.2 d_Flash_nextNumber_22
  · have hf := ite_t c3 hf
    refine lv_lconst (v := 1) hx hb d_Flash_nextNumber_10 (by decide) ?_
    refine lv_goto (tgt := 22) hx hb d_Flash_nextNumber_11 (by decide) ?_
    have hf := Option.some.inj hf
    rw [hQe]
    exact W.lret (v := (1 : Int64)) hx hb hr (fun t ht hW => ⟨⟨(1 : Int64), w2, rfl, ⟨congrArg Prod.fst hf, congrArg Prod.snd hf⟩, by rw [ht]; exact hP, va_K.moved hW.alike hK, hD⟩, hS.F ht⟩) hS.2.2 d_Flash_nextNumber_22
def f_Flash_sectorBehind_2 : Nat → Int32 → Int32 → S_Flash → Option (Int32 × S_Flash)
  | 0, _, _, _ => none
  | n + 1, v1, v2, u => (if (4 : Int32) < v2 then some ((-1 : Int32), u) else bd (v1 + v2) (fun x2 : Int32 => bd (x2 - x2 / (4 : Int32) * (4 : Int32)) (fun x3 : Int32 => gi x3 4 (bd (u.2.1 x3.toNatClampNeg) (fun x5 : Int32 => (if (4 : Int32) ≤ x5 then bd (v2 + (1 : Int32)) (fun x7 : Int32 => (f_Flash_sectorBehind_2 n) v1 x7 u) else some (x3, u)))))))
def f_Flash_sectorBehind (p1 : Int32) (u : S_Flash) : Option (Int32 × S_Flash) := f_Flash_sectorBehind_2 64 p1 (1 : Int32) u
set_option maxHeartbeats 4000000 in
set_option maxRecDepth 100000 in
theorem c_Flash_sectorBehind (l : Launch) (dC : Nat → ClassId) (dI : Nat → Nat → Nat) (cI cL cD : ClassId) (a0 a1 a2 a3 : Nat) (sz : Nat) (p1 : Int32) (u : S_Flash) (res : Int32 × S_Flash) (hf : f_Flash_sectorBehind p1 u = some res) : Met l y_Flash_sectorBehind w_Flash_sectorBehind ({ frames := 0, cells := 0, slots := 0, locals := 0 }) (va_Pc [.ref a0, .int p1] (fun U => U.heap.size = sz ∧ va_P (dC, dI) CL [(a0, .inr (1, [.ref a1, .ref a2, .ref a3, .int u.2.2.2.1, .int u.2.2.2.2])), (a1, .inl (cL, 72, .inr (.inl (u.1)))), (a2, .inl (cI, 4, .inl (u.2.1))), (a3, .inl (cL, 6, .inr (.inl (u.2.2.1))))] U.heap ∧ va_K (dC, dI) CL [(cI, .int), (cL, .long), (cD, .double)] U ∧ va_D (fun _ => True) [(a0, .inr (1, [.ref a1, .ref a2, .ref a3, .int u.2.2.2.1, .int u.2.2.2.2])), (a1, .inl (cL, 72, .inr (.inl (u.1)))), (a2, .inl (cI, 4, .inl (u.2.1))), (a3, .inl (cL, 6, .inr (.inl (u.2.2.1))))] ∧ NWs U)) (va_Qi (fun (r : Int32) (w : S_Flash) => r = res.1 ∧ w = res.2) (fun (w : S_Flash) t => va_P (dC, dI) CL [(a0, .inr (1, [.ref a1, .ref a2, .ref a3, .int w.2.2.2.1, .int w.2.2.2.2])), (a1, .inl (cL, 72, .inr (.inl (w.1)))), (a2, .inl (cI, 4, .inl (w.2.1))), (a3, .inl (cL, 6, .inr (.inl (w.2.2.1))))] t.heap ∧ va_K (dC, dI) CL [(cI, .int), (cL, .long), (cD, .double)] t ∧ va_D (va_A [(a0, .inr (1, [.ref a1, .ref a2, .ref a3, .int u.2.2.2.1, .int u.2.2.2.2])), (a1, .inl (cL, 72, .inr (.inl (u.1)))), (a2, .inl (cI, 4, .inl (u.2.1))), (a3, .inl (cL, 6, .inr (.inl (u.2.2.1))))] sz) [(a0, .inr (1, [.ref a1, .ref a2, .ref a3, .int w.2.2.2.1, .int w.2.2.2.2])), (a1, .inl (cL, 72, .inr (.inl (w.1)))), (a2, .inl (cI, 4, .inl (w.2.1))), (a3, .inl (cL, 6, .inr (.inl (w.2.2.1))))]) (va_A [(a0, .inr (1, [.ref a1, .ref a2, .ref a3, .int u.2.2.2.1, .int u.2.2.2.2])), (a1, .inl (cL, 72, .inr (.inl (u.1)))), (a2, .inl (cI, 4, .inl (u.2.1))), (a3, .inl (cL, 6, .inr (.inl (u.2.2.1))))] sz)) 0 0 (va_A [(a0, .inr (1, [.ref a1, .ref a2, .ref a3, .int u.2.2.2.1, .int u.2.2.2.2])), (a1, .inl (cL, 72, .inr (.inl (u.1)))), (a2, .inl (cI, 4, .inl (u.2.1))), (a3, .inl (cL, 6, .inr (.inl (u.2.2.1))))] sz) := by
  refine Met.ofW (cc := b_Flash_sectorBehind) (maxL := 4) (ret := (some .int)) (by decide) rfl ?_
  intro p e s m args below meth c s₁ B hml hv
  obtain ⟨rfl, hsz, hP, hK, hD0, hN⟩ := hv
  have hx := B.exec
  have hb := B.bytes
  have hr := B.returns
  have hts : ∀ w ∈ TB, w.before _ s = true := fun w h => atoms_spec (ws := w_Flash_sectorBehind) B.pre w (List.mem_cons_of_mem _ h)
  have hown : s.vm.findClass R_Flash = some m.cls := findClass_of_methodNamed B.named
  have hlocks := B.notSynchronized
  subst hsz
  have hD := hD0.self (sz := s.heap.size)
  generalize hAe : va_A [(a0, .inr (1, [.ref a1, .ref a2, .ref a3, .int u.2.2.2.1, .int u.2.2.2.2])), (a1, .inl (cL, 72, .inr (.inl (u.1)))), (a2, .inl (cI, 4, .inl (u.2.1))), (a3, .inl (cL, 6, .inr (.inl (u.2.2.1))))] s.heap.size = A at hD ⊢
  have hA : ∀ q : Nat, s.heap.size ≤ q → A q := fun q h => by rw [← hAe]; exact Or.inr h
  have hS : va_S A s.heap s.heap [] := va_S.rf
  have hl := lv_entry ([.ref a0, .int p1]) (n := 4) (Nat.le_of_ble_eq_true rfl)
  rw [lg_entry_eq]
  generalize (lg_sl ([.ref a0, .int p1]) ++ List.replicate (4 - (lg_sl ([.ref a0, .int p1])).length) Slot.unset).toArray = ls at hl ⊢
  have hl : lv_has ls 4 [(0, .ref a0), (1, .int p1)] := hl
  refine nameQ (fun Q hQe => ?_)
  have k_2 : ∀ (n : Nat), ∀ (v1 : Int32) (v2 : Int32) (u : S_Flash), f_Flash_sectorBehind_2 n v1 v2 u = some res → ∀ (H : Heap) (locs : List Loc), va_P (dC, dI) CL [(a0, .inr (1, [.ref a1, .ref a2, .ref a3, .int u.2.2.2.1, .int u.2.2.2.2])), (a1, .inl (cL, 72, .inr (.inl (u.1)))), (a2, .inl (cI, 4, .inl (u.2.1))), (a3, .inl (cL, 6, .inr (.inl (u.2.2.1))))] H → va_D A [(a0, .inr (1, [.ref a1, .ref a2, .ref a3, .int u.2.2.2.1, .int u.2.2.2.2])), (a1, .inl (cL, 72, .inr (.inl (u.1)))), (a2, .inl (cI, 4, .inl (u.2.1))), (a3, .inl (cL, 6, .inr (.inl (u.2.2.1))))] → va_S A s.heap H locs → ∀ (ls : Array Slot), lv_has ls 4 [(0, .ref a0), (1, .int v1), (2, .int v2)] → W p l e (headSpec w_Flash_sectorBehind ({ frames := 0, cells := 0, slots := 0, locals := 0 })).room s m ([.ref a0, .int p1] : List Value).toArray below meth c H locs 0 0 Q (F0 m 2 ls []) := by
    intro n
    induction n with
    | zero =>
      intro v1 v2 u hf
      simp [f_Flash_sectorBehind_2] at hf
    | succ n k_2 =>
      intro v1 v2 u hf H locs hP hD hS ls hl
      rw [f_Flash_sectorBehind_2] at hf
      refine lv_iload_n hx hb d_Flash_sectorBehind_2 rfl (lv_at hl 2 rfl) ?_
      refine lv_iconst (v := 4) hx hb d_Flash_sectorBehind_3 (by decide) ?_
      refine lv_icmp_gt (tgt := 31) hx hb d_Flash_sectorBehind_4 (by decide) (fun c1 => ?_) (fun c1 => ?_)
      · have hf := ite_t c1 hf
        refine lv_iconst (v := -1) hx hb d_Flash_sectorBehind_31 (by decide) ?_
        have hf := Option.some.inj hf
        rw [hQe]
        exact W.iret (v := (-1 : Int32)) hx hb hr (fun t ht hW => ⟨⟨(-1 : Int32), u, rfl, ⟨congrArg Prod.fst hf, congrArg Prod.snd hf⟩, by rw [ht]; exact hP, va_K.moved hW.alike hK, hD⟩, hS.F ht⟩) hS.2.2 d_Flash_sectorBehind_32
      · have hf := ite_f c1 hf
        refine lv_iload_n hx hb d_Flash_sectorBehind_7 rfl (lv_at hl 1 rfl) ?_
        refine lv_iload_n hx hb d_Flash_sectorBehind_8 rfl (lv_at hl 2 rfl) ?_
        refine lv_iadd hx hb d_Flash_sectorBehind_9 ?_
        refine lv_topi (fun x2 ex2 => ?_)
        have hf := bd_t ex2 hf
        refine lv_iconst (v := 4) hx hb d_Flash_sectorBehind_10 (by decide) ?_
        refine lv_irem hx hb d_Flash_sectorBehind_11 (by decide) ?_
        refine lv_topi (fun x3 ex3 => ?_)
        have hf := bd_t ex3 hf
        refine lv_istore_n (lv' := [(3, .int x3), (0, .ref a0), (1, .int v1), (2, .int v2)]) hx hb d_Flash_sectorBehind_12 rfl hl (by decide) rfl (fun ls hl => ?_)
        refine lv_aload_n hx hb d_Flash_sectorBehind_13 rfl (lv_at hl 1 rfl) ?_
        refine va_get (D := (dC, dI)) (ci := 1) (v := .ref a2) (C := R_Flash) (T := T_Flash) (N := 5) hx hb hts in_Flash hown hK hP 0 rfl rfl 1 (by decide) (hts _ t_147) (fun _ h9 => h9) rfl d_Flash_sectorBehind_14 ?_
        refine lv_iload_n hx hb d_Flash_sectorBehind_17 rfl (lv_at hl 0 rfl) ?_
        obtain ⟨h4, hf⟩ := gi_t hf
        refine va_iald hx hb hK hP 2 0 rfl rfl h4 d_Flash_sectorBehind_18 ?_
        refine lv_topi (fun x5 ex5 => ?_)
        have hf := bd_t ex5 hf
        refine lv_iconst (v := 4) hx hb d_Flash_sectorBehind_19 (by decide) ?_
        refine lv_icmp_ge (tgt := 25) hx hb d_Flash_sectorBehind_20 (by decide) (fun c6 => ?_) (fun c6 => ?_)
        · have hf := ite_t c6 hf
          obtain ⟨x7, ex7⟩ : ∃ y : Int32, y = v2 + (1 : Int32) := ⟨_, rfl⟩
          have hf := bd_t ex7 hf
          refine lv_iinc (v := x7) (lv' := [(2, .int x7), (3, .int x3), (0, .ref a0), (1, .int v1)]) hx hb d_Flash_sectorBehind_25 hl (k := 3) rfl (by rw [ex7]; rfl) (by decide) rfl (fun ls hl => ?_)
          refine lv_goto (tgt := 2) hx hb d_Flash_sectorBehind_28 (by decide) ?_
          have hl := lv_sub hl (l' := [(0, .ref a0), (1, .int v1), (2, .int x7)]) [2, 3, 0] rfl
          exact k_2 v1 x7 u hf _ _ hP hD hS ls hl
        · have hf := ite_f c6 hf
          refine lv_iload_n hx hb d_Flash_sectorBehind_23 rfl (lv_at hl 0 rfl) ?_
          have hf := Option.some.inj hf
          rw [hQe]
          exact W.iret (v := x3) hx hb hr (fun t ht hW => ⟨⟨x3, u, rfl, ⟨congrArg Prod.fst hf, congrArg Prod.snd hf⟩, by rw [ht]; exact hP, va_K.moved hW.alike hK, hD⟩, hS.F ht⟩) hS.2.2 d_Flash_sectorBehind_24
  rw [f_Flash_sectorBehind] at hf
  refine lv_iconst (v := 1) hx hb d_Flash_sectorBehind_0 (by decide) ?_
  refine lv_istore_n (lv' := [(2, .int (1 : Int32)), (0, .ref a0), (1, .int p1)]) hx hb d_Flash_sectorBehind_1 rfl hl (by decide) rfl (fun ls hl => ?_)
  have hl := lv_sub hl (l' := [(0, .ref a0), (1, .int p1), (2, .int (1 : Int32))]) [1, 2, 0] rfl
  exact k_2 64 p1 (1 : Int32) u hf _ _ hP hD hS ls hl
def f_Flash_erase_9 : Nat → Int32 → Int32 → Int32 → S_Flash → Option (S_Flash)
  | 0, _, _, _, _ => none
  | n + 1, v1, v2, v3, u => bd (v2 + (18 : Int32)) (fun x3 : Int32 => (if x3 ≤ v3 then gi v1 4 (bd (u.2.1 v1.toNatClampNeg) (fun x6 : Int32 => bd (x6 + (1 : Int32)) (fun x7 : Int32 => gi v1 4 (bd (upd u.2.1 v1.toNatClampNeg x7) (fun F9 : Nat → Int32 => some (u.1, F9, u.2.2.1, u.2.2.2.1, u.2.2.2.2)))))) else gi v3 72 (bd (vp_updL u.1 v3.toNatClampNeg (-1 : Int64)) (fun F11 : Nat → Int64 => bd (v3 + (1 : Int32)) (fun x12 : Int32 => (f_Flash_erase_9 n) v1 v2 x12 (F11, u.2.1, u.2.2.1, u.2.2.2.1, u.2.2.2.2))))))
def f_Flash_erase (p1 : Int32) (u : S_Flash) : Option (S_Flash) := bd (p1 * (3 : Int32)) (fun x1 : Int32 => bd (x1 * (6 : Int32)) (fun x2 : Int32 => f_Flash_erase_9 64 p1 x2 x2 u))
set_option maxHeartbeats 4000000 in
set_option maxRecDepth 100000 in
theorem c_Flash_erase (l : Launch) (dC : Nat → ClassId) (dI : Nat → Nat → Nat) (cI cL cD : ClassId) (a0 a1 a2 a3 : Nat) (sz : Nat) (p1 : Int32) (u : S_Flash) (res : S_Flash) (hf : f_Flash_erase p1 u = some res) : Met l y_Flash_erase w_Flash_erase ({ frames := 0, cells := 0, slots := 0, locals := 0 }) (va_Pc [.ref a0, .int p1] (fun U => U.heap.size = sz ∧ va_P (dC, dI) CL [(a0, .inr (1, [.ref a1, .ref a2, .ref a3, .int u.2.2.2.1, .int u.2.2.2.2])), (a1, .inl (cL, 72, .inr (.inl (u.1)))), (a2, .inl (cI, 4, .inl (u.2.1))), (a3, .inl (cL, 6, .inr (.inl (u.2.2.1))))] U.heap ∧ va_K (dC, dI) CL [(cI, .int), (cL, .long), (cD, .double)] U ∧ va_D (fun _ => True) [(a0, .inr (1, [.ref a1, .ref a2, .ref a3, .int u.2.2.2.1, .int u.2.2.2.2])), (a1, .inl (cL, 72, .inr (.inl (u.1)))), (a2, .inl (cI, 4, .inl (u.2.1))), (a3, .inl (cL, 6, .inr (.inl (u.2.2.1))))] ∧ NWs U)) (va_Qv (fun (w : S_Flash) => w = res) (fun (w : S_Flash) t => va_P (dC, dI) CL [(a0, .inr (1, [.ref a1, .ref a2, .ref a3, .int w.2.2.2.1, .int w.2.2.2.2])), (a1, .inl (cL, 72, .inr (.inl (w.1)))), (a2, .inl (cI, 4, .inl (w.2.1))), (a3, .inl (cL, 6, .inr (.inl (w.2.2.1))))] t.heap ∧ va_K (dC, dI) CL [(cI, .int), (cL, .long), (cD, .double)] t ∧ va_D (va_A [(a0, .inr (1, [.ref a1, .ref a2, .ref a3, .int u.2.2.2.1, .int u.2.2.2.2])), (a1, .inl (cL, 72, .inr (.inl (u.1)))), (a2, .inl (cI, 4, .inl (u.2.1))), (a3, .inl (cL, 6, .inr (.inl (u.2.2.1))))] sz) [(a0, .inr (1, [.ref a1, .ref a2, .ref a3, .int w.2.2.2.1, .int w.2.2.2.2])), (a1, .inl (cL, 72, .inr (.inl (w.1)))), (a2, .inl (cI, 4, .inl (w.2.1))), (a3, .inl (cL, 6, .inr (.inl (w.2.2.1))))]) (va_A [(a0, .inr (1, [.ref a1, .ref a2, .ref a3, .int u.2.2.2.1, .int u.2.2.2.2])), (a1, .inl (cL, 72, .inr (.inl (u.1)))), (a2, .inl (cI, 4, .inl (u.2.1))), (a3, .inl (cL, 6, .inr (.inl (u.2.2.1))))] sz)) 0 0 (va_A [(a0, .inr (1, [.ref a1, .ref a2, .ref a3, .int u.2.2.2.1, .int u.2.2.2.2])), (a1, .inl (cL, 72, .inr (.inl (u.1)))), (a2, .inl (cI, 4, .inl (u.2.1))), (a3, .inl (cL, 6, .inr (.inl (u.2.2.1))))] sz) := by
  refine Met.ofW (cc := b_Flash_erase) (maxL := 4) (ret := none) (by decide) rfl ?_
  intro p e s m args below meth c s₁ B hml hv
  obtain ⟨rfl, hsz, hP, hK, hD0, hN⟩ := hv
  have hx := B.exec
  have hb := B.bytes
  have hr := B.returns
  have hts : ∀ w ∈ TB, w.before _ s = true := fun w h => atoms_spec (ws := w_Flash_erase) B.pre w (List.mem_cons_of_mem _ h)
  have hown : s.vm.findClass R_Flash = some m.cls := findClass_of_methodNamed B.named
  have hlocks := B.notSynchronized
  subst hsz
  have hD := hD0.self (sz := s.heap.size)
  generalize hAe : va_A [(a0, .inr (1, [.ref a1, .ref a2, .ref a3, .int u.2.2.2.1, .int u.2.2.2.2])), (a1, .inl (cL, 72, .inr (.inl (u.1)))), (a2, .inl (cI, 4, .inl (u.2.1))), (a3, .inl (cL, 6, .inr (.inl (u.2.2.1))))] s.heap.size = A at hD ⊢
  have hA : ∀ q : Nat, s.heap.size ≤ q → A q := fun q h => by rw [← hAe]; exact Or.inr h
  have hS : va_S A s.heap s.heap [] := va_S.rf
  have hl := lv_entry ([.ref a0, .int p1]) (n := 4) (Nat.le_of_ble_eq_true rfl)
  rw [lg_entry_eq]
  generalize (lg_sl ([.ref a0, .int p1]) ++ List.replicate (4 - (lg_sl ([.ref a0, .int p1])).length) Slot.unset).toArray = ls at hl ⊢
  have hl : lv_has ls 4 [(0, .ref a0), (1, .int p1)] := hl
  refine nameQ (fun Q hQe => ?_)
  have k_9 : ∀ (n : Nat), ∀ (v1 : Int32) (v2 : Int32) (v3 : Int32) (u : S_Flash), f_Flash_erase_9 n v1 v2 v3 u = some res → ∀ (H : Heap) (locs : List Loc), va_P (dC, dI) CL [(a0, .inr (1, [.ref a1, .ref a2, .ref a3, .int u.2.2.2.1, .int u.2.2.2.2])), (a1, .inl (cL, 72, .inr (.inl (u.1)))), (a2, .inl (cI, 4, .inl (u.2.1))), (a3, .inl (cL, 6, .inr (.inl (u.2.2.1))))] H → va_D A [(a0, .inr (1, [.ref a1, .ref a2, .ref a3, .int u.2.2.2.1, .int u.2.2.2.2])), (a1, .inl (cL, 72, .inr (.inl (u.1)))), (a2, .inl (cI, 4, .inl (u.2.1))), (a3, .inl (cL, 6, .inr (.inl (u.2.2.1))))] → va_S A s.heap H locs → ∀ (ls : Array Slot), lv_has ls 4 [(0, .ref a0), (1, .int v1), (2, .int v2), (3, .int v3)] → W p l e (headSpec w_Flash_erase ({ frames := 0, cells := 0, slots := 0, locals := 0 })).room s m ([.ref a0, .int p1] : List Value).toArray below meth c H locs 0 0 Q (F0 m 9 ls []) := by
    intro n
    induction n with
    | zero =>
      intro v1 v2 v3 u hf
      simp [f_Flash_erase_9] at hf
    | succ n k_9 =>
      intro v1 v2 v3 u hf H locs hP hD hS ls hl
      rw [f_Flash_erase_9] at hf
      refine lv_iload_n hx hb d_Flash_erase_9 rfl (lv_at hl 3 rfl) ?_
      refine lv_iload_n hx hb d_Flash_erase_10 rfl (lv_at hl 2 rfl) ?_
      refine lv_bipush (v := 18) hx hb d_Flash_erase_11 (by decide) ?_
      refine lv_iadd hx hb d_Flash_erase_13 ?_
      refine lv_topi (fun x3 ex3 => ?_)
      have hf := bd_t ex3 hf
      refine lv_icmp_ge (tgt := 32) hx hb d_Flash_erase_14 (by decide) (fun c4 => ?_) (fun c4 => ?_)
      · have hf := ite_t c4 hf
        refine lv_aload_n hx hb d_Flash_erase_32 rfl (lv_at hl 0 rfl) ?_
        refine va_get (D := (dC, dI)) (ci := 1) (v := .ref a2) (C := R_Flash) (T := T_Flash) (N := 5) hx hb hts in_Flash hown hK hP 0 rfl rfl 1 (by decide) (hts _ t_147) (fun _ h9 => h9) rfl d_Flash_erase_33 ?_
        refine lv_iload_n hx hb d_Flash_erase_36 rfl (lv_at hl 1 rfl) ?_
        refine lv_dup2_11 hx hb d_Flash_erase_37 rfl rfl ?_
        obtain ⟨h5, hf⟩ := gi_t hf
        refine va_iald hx hb hK hP 2 0 rfl rfl h5 d_Flash_erase_38 ?_
        refine lv_topi (fun x6 ex6 => ?_)
        have hf := bd_t ex6 hf
        refine lv_iconst (v := 1) hx hb d_Flash_erase_39 (by decide) ?_
        refine lv_iadd hx hb d_Flash_erase_40 ?_
        refine lv_topi (fun x7 ex7 => ?_)
        have hf := bd_t ex7 hf
        obtain ⟨h8, hf⟩ := gi_t hf
        refine va_iast hx hb hK hP hD hS 2 0 rfl rfl h8 d_Flash_erase_41 (fun H locs hP hD hS => ?_)
        obtain ⟨F9, eF9⟩ : ∃ y : Nat → Int32, y = upd u.2.1 v1.toNatClampNeg x7 := ⟨_, rfl⟩
        have hf := bd_t eF9 hf
        have hP : va_P (dC, dI) CL [(a0, .inr (1, [.ref a1, .ref a2, .ref a3, .int u.2.2.2.1, .int u.2.2.2.2])), (a1, .inl (cL, 72, .inr (.inl (u.1)))), (a2, .inl (cI, 4, .inl (F9))), (a3, .inl (cL, 6, .inr (.inl (u.2.2.1))))] H := by rw [eF9]; exact hP
        have hD : va_D A [(a0, .inr (1, [.ref a1, .ref a2, .ref a3, .int u.2.2.2.1, .int u.2.2.2.2])), (a1, .inl (cL, 72, .inr (.inl (u.1)))), (a2, .inl (cI, 4, .inl (F9))), (a3, .inl (cL, 6, .inr (.inl (u.2.2.1))))] := by rw [eF9]; exact hD
        have hf := Option.some.inj hf
        rw [hQe]
        exact W.vret hx hb hr (fun t ht hW => ⟨⟨(u.1, F9, u.2.2.1, u.2.2.2.1, u.2.2.2.2), rfl, hf, by rw [ht]; exact hP, va_K.moved hW.alike hK, hD⟩, hS.F ht⟩) hS.2.2 d_Flash_erase_42
      · have hf := ite_f c4 hf
        refine lv_aload_n hx hb d_Flash_erase_17 rfl (lv_at hl 0 rfl) ?_
        refine va_get (D := (dC, dI)) (ci := 1) (v := .ref a1) (C := R_Flash) (T := T_Flash) (N := 5) hx hb hts in_Flash hown hK hP 0 rfl rfl 0 (by decide) (hts _ t_146) (fun _ h9 => h9) rfl d_Flash_erase_18 ?_
        refine lv_iload_n hx hb d_Flash_erase_21 rfl (lv_at hl 3 rfl) ?_
        refine lv_ldc2 (v := -1) hx hb hown (hts _ t_142) d_Flash_erase_22 ?_
        obtain ⟨h10, hf⟩ := gi_t hf
        refine va_last hx hb hK hP hD hS 1 1 rfl rfl h10 d_Flash_erase_25 (fun H locs hP hD hS => ?_)
        obtain ⟨F11, eF11⟩ : ∃ y : Nat → Int64, y = vp_updL u.1 v3.toNatClampNeg (-1 : Int64) := ⟨_, rfl⟩
        have hf := bd_t eF11 hf
        have hP : va_P (dC, dI) CL [(a0, .inr (1, [.ref a1, .ref a2, .ref a3, .int u.2.2.2.1, .int u.2.2.2.2])), (a1, .inl (cL, 72, .inr (.inl (F11)))), (a2, .inl (cI, 4, .inl (u.2.1))), (a3, .inl (cL, 6, .inr (.inl (u.2.2.1))))] H := by rw [eF11]; exact hP
        have hD : va_D A [(a0, .inr (1, [.ref a1, .ref a2, .ref a3, .int u.2.2.2.1, .int u.2.2.2.2])), (a1, .inl (cL, 72, .inr (.inl (F11)))), (a2, .inl (cI, 4, .inl (u.2.1))), (a3, .inl (cL, 6, .inr (.inl (u.2.2.1))))] := by rw [eF11]; exact hD
        obtain ⟨x12, ex12⟩ : ∃ y : Int32, y = v3 + (1 : Int32) := ⟨_, rfl⟩
        have hf := bd_t ex12 hf
        refine lv_iinc (v := x12) (lv' := [(3, .int x12), (0, .ref a0), (1, .int v1), (2, .int v2)]) hx hb d_Flash_erase_26 hl (k := 3) rfl (by rw [ex12]; rfl) (by decide) rfl (fun ls hl => ?_)
        refine lv_goto (tgt := 9) hx hb d_Flash_erase_29 (by decide) ?_
        have hl := lv_sub hl (l' := [(0, .ref a0), (1, .int v1), (2, .int v2), (3, .int x12)]) [1, 2, 3, 0] rfl
        exact k_9 v1 v2 x12 (F11, u.2.1, u.2.2.1, u.2.2.2.1, u.2.2.2.2) hf _ _ hP hD hS ls hl
  rw [f_Flash_erase] at hf
  refine lv_iload_n hx hb d_Flash_erase_0 rfl (lv_at hl 1 rfl) ?_
  refine lv_iconst (v := 3) hx hb d_Flash_erase_1 (by decide) ?_
  refine lv_imul hx hb d_Flash_erase_2 ?_
  refine lv_topi (fun x1 ex1 => ?_)
  have hf := bd_t ex1 hf
  refine lv_bipush (v := 6) hx hb d_Flash_erase_3 (by decide) ?_
  refine lv_imul hx hb d_Flash_erase_5 ?_
  refine lv_topi (fun x2 ex2 => ?_)
  have hf := bd_t ex2 hf
  refine lv_istore_n (lv' := [(2, .int x2), (0, .ref a0), (1, .int p1)]) hx hb d_Flash_erase_6 rfl hl (by decide) rfl (fun ls hl => ?_)
  refine lv_iload_n hx hb d_Flash_erase_7 rfl (lv_at hl 0 rfl) ?_
  refine lv_istore_n (lv' := [(3, .int x2), (2, .int x2), (0, .ref a0), (1, .int p1)]) hx hb d_Flash_erase_8 rfl hl (by decide) rfl (fun ls hl => ?_)
  have hl := lv_sub hl (l' := [(0, .ref a0), (1, .int p1), (2, .int x2), (3, .int x2)]) [2, 3, 1, 0] rfl
  exact k_9 64 p1 x2 x2 u hf _ _ hP hD hS ls hl
def f_Flash_makePlace_45 (s1 : Int32) (u : S_Flash) : Option (Int32 × S_Flash) := ca (f_Flash_sectorBehind s1 u) (fun r8 w9 => (if r8 = (-1 : Int32) then some ((-1 : Int32), w9) else cv (f_Flash_erase r8 w9) (fun w11 => bd (r8 * (3 : Int32)) (fun x12 : Int32 => some (x12, w11)))))
def f_Flash_makePlace_26 (u : S_Flash) : Option (Int32 × S_Flash) := (if u.2.2.2.1 = (-1 : Int32) then f_Flash_makePlace_45 (3 : Int32) u else bd (u.2.2.2.1 / (3 : Int32)) (fun x7 : Int32 => f_Flash_makePlace_45 x7 u))
def f_Flash_makePlace (u : S_Flash) : Option (Int32 × S_Flash) := (if u.2.2.2.1 = (-1 : Int32) then f_Flash_makePlace_26 u else bd (u.2.2.2.1 + (1 : Int32)) (fun x2 : Int32 => bd (x2 - x2 / (3 : Int32) * (3 : Int32)) (fun x3 : Int32 => (if x3 = 0 then f_Flash_makePlace_26 u else bd (u.2.2.2.1 + (1 : Int32)) (fun x5 : Int32 => some (x5, u))))))
set_option maxHeartbeats 4000000 in
set_option maxRecDepth 100000 in
theorem c_Flash_makePlace (l : Launch) (dC : Nat → ClassId) (dI : Nat → Nat → Nat) (cI cL cD : ClassId) (a0 a1 a2 a3 : Nat) (sz : Nat) (u : S_Flash) (res : Int32 × S_Flash) (hf : f_Flash_makePlace u = some res) : Met l y_Flash_makePlace w_Flash_makePlace ({ frames := 1, cells := 0, slots := 0, locals := 23 }) (va_Pc [.ref a0] (fun U => U.heap.size = sz ∧ va_P (dC, dI) CL [(a0, .inr (1, [.ref a1, .ref a2, .ref a3, .int u.2.2.2.1, .int u.2.2.2.2])), (a1, .inl (cL, 72, .inr (.inl (u.1)))), (a2, .inl (cI, 4, .inl (u.2.1))), (a3, .inl (cL, 6, .inr (.inl (u.2.2.1))))] U.heap ∧ va_K (dC, dI) CL [(cI, .int), (cL, .long), (cD, .double)] U ∧ va_D (fun _ => True) [(a0, .inr (1, [.ref a1, .ref a2, .ref a3, .int u.2.2.2.1, .int u.2.2.2.2])), (a1, .inl (cL, 72, .inr (.inl (u.1)))), (a2, .inl (cI, 4, .inl (u.2.1))), (a3, .inl (cL, 6, .inr (.inl (u.2.2.1))))] ∧ NWs U)) (va_Qi (fun (r : Int32) (w : S_Flash) => r = res.1 ∧ w = res.2) (fun (w : S_Flash) t => va_P (dC, dI) CL [(a0, .inr (1, [.ref a1, .ref a2, .ref a3, .int w.2.2.2.1, .int w.2.2.2.2])), (a1, .inl (cL, 72, .inr (.inl (w.1)))), (a2, .inl (cI, 4, .inl (w.2.1))), (a3, .inl (cL, 6, .inr (.inl (w.2.2.1))))] t.heap ∧ va_K (dC, dI) CL [(cI, .int), (cL, .long), (cD, .double)] t ∧ va_D (va_A [(a0, .inr (1, [.ref a1, .ref a2, .ref a3, .int u.2.2.2.1, .int u.2.2.2.2])), (a1, .inl (cL, 72, .inr (.inl (u.1)))), (a2, .inl (cI, 4, .inl (u.2.1))), (a3, .inl (cL, 6, .inr (.inl (u.2.2.1))))] sz) [(a0, .inr (1, [.ref a1, .ref a2, .ref a3, .int w.2.2.2.1, .int w.2.2.2.2])), (a1, .inl (cL, 72, .inr (.inl (w.1)))), (a2, .inl (cI, 4, .inl (w.2.1))), (a3, .inl (cL, 6, .inr (.inl (w.2.2.1))))]) (va_A [(a0, .inr (1, [.ref a1, .ref a2, .ref a3, .int u.2.2.2.1, .int u.2.2.2.2])), (a1, .inl (cL, 72, .inr (.inl (u.1)))), (a2, .inl (cI, 4, .inl (u.2.1))), (a3, .inl (cL, 6, .inr (.inl (u.2.2.1))))] sz)) 0 0 (va_A [(a0, .inr (1, [.ref a1, .ref a2, .ref a3, .int u.2.2.2.1, .int u.2.2.2.2])), (a1, .inl (cL, 72, .inr (.inl (u.1)))), (a2, .inl (cI, 4, .inl (u.2.1))), (a3, .inl (cL, 6, .inr (.inl (u.2.2.1))))] sz) := by
  refine Met.ofW (cc := b_Flash_makePlace) (maxL := 2) (ret := (some .int)) (by decide) rfl ?_
  intro p e s m args below meth c s₁ B hml hv
  obtain ⟨rfl, hsz, hP, hK, hD0, hN⟩ := hv
  have hx := B.exec
  have hb := B.bytes
  have hr := B.returns
  have hts : ∀ w ∈ TB, w.before _ s = true := fun w h => atoms_spec (ws := w_Flash_makePlace) B.pre w (List.mem_cons_of_mem _ h)
  have hown : s.vm.findClass R_Flash = some m.cls := findClass_of_methodNamed B.named
  have hlocks := B.notSynchronized
  subst hsz
  have hD := hD0.self (sz := s.heap.size)
  generalize hAe : va_A [(a0, .inr (1, [.ref a1, .ref a2, .ref a3, .int u.2.2.2.1, .int u.2.2.2.2])), (a1, .inl (cL, 72, .inr (.inl (u.1)))), (a2, .inl (cI, 4, .inl (u.2.1))), (a3, .inl (cL, 6, .inr (.inl (u.2.2.1))))] s.heap.size = A at hD ⊢
  have hA : ∀ q : Nat, s.heap.size ≤ q → A q := fun q h => by rw [← hAe]; exact Or.inr h
  have hS : va_S A s.heap s.heap [] := va_S.rf
  have hl := lv_entry ([.ref a0]) (n := 2) (Nat.le_of_ble_eq_true rfl)
  rw [lg_entry_eq]
  generalize (lg_sl ([.ref a0]) ++ List.replicate (2 - (lg_sl ([.ref a0])).length) Slot.unset).toArray = ls at hl ⊢
  have hl : lv_has ls 2 [(0, .ref a0)] := hl
  refine nameQ (fun Q hQe => ?_)
  have k_45 : ∀ (s1 : Int32) (u : S_Flash), f_Flash_makePlace_45 s1 u = some res → ∀ (H : Heap) (locs : List Loc), va_P (dC, dI) CL [(a0, .inr (1, [.ref a1, .ref a2, .ref a3, .int u.2.2.2.1, .int u.2.2.2.2])), (a1, .inl (cL, 72, .inr (.inl (u.1)))), (a2, .inl (cI, 4, .inl (u.2.1))), (a3, .inl (cL, 6, .inr (.inl (u.2.2.1))))] H → va_D A [(a0, .inr (1, [.ref a1, .ref a2, .ref a3, .int u.2.2.2.1, .int u.2.2.2.2])), (a1, .inl (cL, 72, .inr (.inl (u.1)))), (a2, .inl (cI, 4, .inl (u.2.1))), (a3, .inl (cL, 6, .inr (.inl (u.2.2.1))))] → va_S A s.heap H locs → ∀ (ls : Array Slot), lv_has ls 2 [(0, .ref a0)] → W p l e (headSpec w_Flash_makePlace ({ frames := 1, cells := 0, slots := 0, locals := 23 })).room s m ([.ref a0] : List Value).toArray below meth c H locs 0 0 Q (F0 m 45 ls [.int s1, .ref a0]) := by
    intro s1 u hf H locs hP hD hS ls hl
    rw [f_Flash_makePlace_45] at hf
    obtain ⟨r8, w9, hc, hf⟩ := ca_t hf
    have hPc := hP.sub (ws' := [(a0, .inr (1, [.ref a1, .ref a2, .ref a3, .int u.2.2.2.1, .int u.2.2.2.2])), (a1, .inl (cL, 72, .inr (.inl (u.1)))), (a2, .inl (cI, 4, .inl (u.2.1))), (a3, .inl (cL, 6, .inr (.inl (u.2.2.1))))]) [0, 1, 2, 3] rfl
    have hDc := hD.sub (ws' := [(a0, .inr (1, [.ref a1, .ref a2, .ref a3, .int u.2.2.2.1, .int u.2.2.2.2])), (a1, .inl (cL, 72, .inr (.inl (u.1)))), (a2, .inl (cI, 4, .inl (u.2.1))), (a3, .inl (cL, 6, .inr (.inl (u.2.2.1))))]) [0, 1, 2, 3] (by decide) rfl
    have hFc := va_free (wc := [(a0, .inr (1, [.ref a1, .ref a2, .ref a3, .int u.2.2.2.1, .int u.2.2.2.2])), (a1, .inl (cL, 72, .inr (.inl (u.1)))), (a2, .inl (cI, 4, .inl (u.2.1))), (a3, .inl (cL, 6, .inr (.inl (u.2.2.1))))]) hD hS hA [0, 1, 2, 3] rfl
    refine va_calli (va_runV (As := [.int s1]) (rest := []) ⟨hx, hb, hml, hown, hts⟩ (c_Flash_sectorBehind l dC dI cI cL cD a0 a1 a2 a3 H.size s1 u (r8, w9) hc) (cwV 1 hts (gV t_404 t_406 t_6 t_43 t_407) rfl rfl rfl (by decide +kernel) ⟨(Nat.le_of_ble_eq_true rfl), (Nat.le_of_ble_eq_true rfl)⟩) ⟨fun a U g mk q => by obtain ⟨q0, q1, qP, qK, qD, qN⟩ := q; exact ⟨q0, q1, qP, va_K.moved (u := U) (U := U.calling g mk a) (Vm.Alike.refl U.vm) qK, qD, NWs.same (u := U) (U := U.calling g mk a) rfl qN⟩, va_recv hK hPc (ci := 1) (q0 := 0) rfl rfl, fun U hU hW => ⟨rfl, by rw [hU], by rw [hU]; exact hPc, va_K.moved hW.alike hK, hDc.weaken (fun _ _ _ _ => trivial), hN.warm hW⟩⟩ rfl rfl hl.1 rfl (lv_room (Nat.le_of_ble_eq_true rfl)) d_Flash_makePlace_45 ⟨(Nat.le_of_ble_eq_true rfl), (Nat.le_of_ble_eq_true rfl)⟩) hS (fun q _ h => hFc q h) hFc (fun rZ wZ t H1 locs ht hvm hw hB hz1 hk1 hS => ?_)
    obtain ⟨eY, eZ⟩ := hw
    replace eY : r8 = rZ := eY.symm
    replace eZ : w9 = wZ := eZ.symm
    subst eY
    subst eZ
    obtain ⟨hP1, hK1, hD1⟩ := hB
    rw [ht] at hP1
    obtain ⟨hP, hD⟩ := va_join (wr := []) (w1 := [(a0, .inr (1, [.ref a1, .ref a2, .ref a3, .int w9.2.2.2.1, .int w9.2.2.2.2])), (a1, .inl (cL, 72, .inr (.inl (w9.1)))), (a2, .inl (cI, 4, .inl (w9.2.1))), (a3, .inl (cL, 6, .inr (.inl (w9.2.2.1))))]) hP hD [0, 1, 2, 3] [] rfl rfl (by decide) (by decide) hk1 hFc hP1 hD1
    generalize H1 = H at hP hS ⊢
    have hP := hP.sub (ws' := [(a0, .inr (1, [.ref a1, .ref a2, .ref a3, .int w9.2.2.2.1, .int w9.2.2.2.2])), (a1, .inl (cL, 72, .inr (.inl (w9.1)))), (a2, .inl (cI, 4, .inl (w9.2.1))), (a3, .inl (cL, 6, .inr (.inl (w9.2.2.1))))]) [0, 1, 2, 3] rfl
    have hD := hD.sub (ws' := [(a0, .inr (1, [.ref a1, .ref a2, .ref a3, .int w9.2.2.2.1, .int w9.2.2.2.2])), (a1, .inl (cL, 72, .inr (.inl (w9.1)))), (a2, .inl (cI, 4, .inl (w9.2.1))), (a3, .inl (cL, 6, .inr (.inl (w9.2.2.1))))]) [0, 1, 2, 3] (by decide) rfl
    refine lv_istore_n (lv' := [(1, .int r8), (0, .ref a0)]) hx hb d_Flash_makePlace_48 rfl hl (by decide) rfl (fun ls hl => ?_)
    refine lv_iload_n hx hb d_Flash_makePlace_49 rfl (lv_at hl 0 rfl) ?_
    refine lv_iconst (v := -1) hx hb d_Flash_makePlace_50 (by decide) ?_
    refine lv_icmp_ne (tgt := 56) hx hb d_Flash_makePlace_51 (by decide) (fun c10 => ?_) (fun c10 => ?_)
    · have hf := ite_f c10 hf
      refine lv_aload_n hx hb d_Flash_makePlace_56 rfl (lv_at hl 1 rfl) ?_
      refine lv_iload_n hx hb d_Flash_makePlace_57 rfl (lv_at hl 0 rfl) ?_
      obtain ⟨w11, hc, hf⟩ := cv_t hf
      have hPc := hP.sub (ws' := [(a0, .inr (1, [.ref a1, .ref a2, .ref a3, .int w9.2.2.2.1, .int w9.2.2.2.2])), (a1, .inl (cL, 72, .inr (.inl (w9.1)))), (a2, .inl (cI, 4, .inl (w9.2.1))), (a3, .inl (cL, 6, .inr (.inl (w9.2.2.1))))]) [0, 1, 2, 3] rfl
      have hDc := hD.sub (ws' := [(a0, .inr (1, [.ref a1, .ref a2, .ref a3, .int w9.2.2.2.1, .int w9.2.2.2.2])), (a1, .inl (cL, 72, .inr (.inl (w9.1)))), (a2, .inl (cI, 4, .inl (w9.2.1))), (a3, .inl (cL, 6, .inr (.inl (w9.2.2.1))))]) [0, 1, 2, 3] (by decide) rfl
      have hFc := va_free (wc := [(a0, .inr (1, [.ref a1, .ref a2, .ref a3, .int w9.2.2.2.1, .int w9.2.2.2.2])), (a1, .inl (cL, 72, .inr (.inl (w9.1)))), (a2, .inl (cI, 4, .inl (w9.2.1))), (a3, .inl (cL, 6, .inr (.inl (w9.2.2.1))))]) hD hS hA [0, 1, 2, 3] rfl
      refine va_callv (va_runV (As := [.int r8]) (rest := []) ⟨hx, hb, hml, hown, hts⟩ (c_Flash_erase l dC dI cI cL cD a0 a1 a2 a3 H.size r8 w9 w11 hc) (cwV 1 hts (gV t_408 t_410 t_7 t_43 t_411) rfl rfl rfl (by decide +kernel) ⟨(Nat.le_of_ble_eq_true rfl), (Nat.le_of_ble_eq_true rfl)⟩) ⟨fun a U g mk q => by obtain ⟨q0, q1, qP, qK, qD, qN⟩ := q; exact ⟨q0, q1, qP, va_K.moved (u := U) (U := U.calling g mk a) (Vm.Alike.refl U.vm) qK, qD, NWs.same (u := U) (U := U.calling g mk a) rfl qN⟩, va_recv hK hPc (ci := 1) (q0 := 0) rfl rfl, fun U hU hW => ⟨rfl, by rw [hU], by rw [hU]; exact hPc, va_K.moved hW.alike hK, hDc.weaken (fun _ _ _ _ => trivial), hN.warm hW⟩⟩ rfl rfl hl.1 rfl (lv_room (Nat.le_of_ble_eq_true rfl)) d_Flash_makePlace_58 ⟨(Nat.le_of_ble_eq_true rfl), (Nat.le_of_ble_eq_true rfl)⟩) hS (fun q _ h => hFc q h) hFc (fun wZ t H1 locs ht hvm hw hB hz1 hk1 hS => ?_)
      replace hw : w11 = wZ := hw.symm
      subst hw
      obtain ⟨hP1, hK1, hD1⟩ := hB
      rw [ht] at hP1
      obtain ⟨hP, hD⟩ := va_join (wr := []) (w1 := [(a0, .inr (1, [.ref a1, .ref a2, .ref a3, .int w11.2.2.2.1, .int w11.2.2.2.2])), (a1, .inl (cL, 72, .inr (.inl (w11.1)))), (a2, .inl (cI, 4, .inl (w11.2.1))), (a3, .inl (cL, 6, .inr (.inl (w11.2.2.1))))]) hP hD [0, 1, 2, 3] [] rfl rfl (by decide) (by decide) hk1 hFc hP1 hD1
      generalize H1 = H at hP hS ⊢
      have hP := hP.sub (ws' := [(a0, .inr (1, [.ref a1, .ref a2, .ref a3, .int w11.2.2.2.1, .int w11.2.2.2.2])), (a1, .inl (cL, 72, .inr (.inl (w11.1)))), (a2, .inl (cI, 4, .inl (w11.2.1))), (a3, .inl (cL, 6, .inr (.inl (w11.2.2.1))))]) [0, 1, 2, 3] rfl
      have hD := hD.sub (ws' := [(a0, .inr (1, [.ref a1, .ref a2, .ref a3, .int w11.2.2.2.1, .int w11.2.2.2.2])), (a1, .inl (cL, 72, .inr (.inl (w11.1)))), (a2, .inl (cI, 4, .inl (w11.2.1))), (a3, .inl (cL, 6, .inr (.inl (w11.2.2.1))))]) [0, 1, 2, 3] (by decide) rfl
      refine lv_iload_n hx hb d_Flash_makePlace_61 rfl (lv_at hl 0 rfl) ?_
      refine lv_iconst (v := 3) hx hb d_Flash_makePlace_62 (by decide) ?_
      refine lv_imul hx hb d_Flash_makePlace_63 ?_
      refine lv_topi (fun x12 ex12 => ?_)
      have hf := bd_t ex12 hf
      have hf := Option.some.inj hf
      rw [hQe]
      exact W.iret (v := x12) hx hb hr (fun t ht hW => ⟨⟨x12, w11, rfl, ⟨congrArg Prod.fst hf, congrArg Prod.snd hf⟩, by rw [ht]; exact hP, va_K.moved hW.alike hK, hD⟩, hS.F ht⟩) hS.2.2 d_Flash_makePlace_64
    · have hf := ite_t c10 hf
      refine lv_iconst (v := -1) hx hb d_Flash_makePlace_54 (by decide) ?_
      have hf := Option.some.inj hf
      rw [hQe]
      exact W.iret (v := (-1 : Int32)) hx hb hr (fun t ht hW => ⟨⟨(-1 : Int32), w9, rfl, ⟨congrArg Prod.fst hf, congrArg Prod.snd hf⟩, by rw [ht]; exact hP, va_K.moved hW.alike hK, hD⟩, hS.F ht⟩) hS.2.2 d_Flash_makePlace_55
  have k_26 : ∀  (u : S_Flash), f_Flash_makePlace_26  u = some res → ∀ (H : Heap) (locs : List Loc), va_P (dC, dI) CL [(a0, .inr (1, [.ref a1, .ref a2, .ref a3, .int u.2.2.2.1, .int u.2.2.2.2])), (a1, .inl (cL, 72, .inr (.inl (u.1)))), (a2, .inl (cI, 4, .inl (u.2.1))), (a3, .inl (cL, 6, .inr (.inl (u.2.2.1))))] H → va_D A [(a0, .inr (1, [.ref a1, .ref a2, .ref a3, .int u.2.2.2.1, .int u.2.2.2.2])), (a1, .inl (cL, 72, .inr (.inl (u.1)))), (a2, .inl (cI, 4, .inl (u.2.1))), (a3, .inl (cL, 6, .inr (.inl (u.2.2.1))))] → va_S A s.heap H locs → ∀ (ls : Array Slot), lv_has ls 2 [(0, .ref a0)] → W p l e (headSpec w_Flash_makePlace ({ frames := 1, cells := 0, slots := 0, locals := 23 })).room s m ([.ref a0] : List Value).toArray below meth c H locs 0 0 Q (F0 m 26 ls []) := by
    intro u hf H locs hP hD hS ls hl
    rw [f_Flash_makePlace_26] at hf
    refine lv_aload_n hx hb d_Flash_makePlace_26 rfl (lv_at hl 0 rfl) ?_
    refine lv_aload_n hx hb d_Flash_makePlace_27 rfl (lv_at hl 0 rfl) ?_
    refine va_get (D := (dC, dI)) (ci := 1) (v := .int u.2.2.2.1) (C := R_Flash) (T := T_Flash) (N := 5) hx hb hts in_Flash hown hK hP 0 rfl rfl 3 (by decide) (hts _ t_151) (fun _ h9 => h9) rfl d_Flash_makePlace_28 ?_
    refine lv_iconst (v := -1) hx hb d_Flash_makePlace_31 (by decide) ?_
    refine lv_icmp_ne (tgt := 39) hx hb d_Flash_makePlace_32 (by decide) (fun c6 => ?_) (fun c6 => ?_)
    · have hf := ite_f c6 hf
      refine lv_aload_n hx hb d_Flash_makePlace_39 rfl (lv_at hl 0 rfl) ?_
      refine va_get (D := (dC, dI)) (ci := 1) (v := .int u.2.2.2.1) (C := R_Flash) (T := T_Flash) (N := 5) hx hb hts in_Flash hown hK hP 0 rfl rfl 3 (by decide) (hts _ t_151) (fun _ h9 => h9) rfl d_Flash_makePlace_40 ?_
      refine lv_iconst (v := 3) hx hb d_Flash_makePlace_43 (by decide) ?_
      refine lv_idiv hx hb d_Flash_makePlace_44 (by decide) ?_
      refine lv_topi (fun x7 ex7 => ?_)
      have hf := bd_t ex7 hf
      have hl := lv_sub hl (l' := [(0, .ref a0)]) [0] rfl
      exact k_45 x7 u hf _ _ hP hD hS ls hl
    · have hf := ite_t c6 hf
      refine lv_iconst (v := 3) hx hb d_Flash_makePlace_35 (by decide) ?_
      refine lv_goto (tgt := 45) hx hb d_Flash_makePlace_36 (by decide) ?_
      have hl := lv_sub hl (l' := [(0, .ref a0)]) [0] rfl
      exact k_45 (3 : Int32) u hf _ _ hP hD hS ls hl
  rw [f_Flash_makePlace] at hf
  refine lv_aload_n hx hb d_Flash_makePlace_0 rfl (lv_at hl 0 rfl) ?_
  refine va_get (D := (dC, dI)) (ci := 1) (v := .int u.2.2.2.1) (C := R_Flash) (T := T_Flash) (N := 5) hx hb hts in_Flash hown hK hP 0 rfl rfl 3 (by decide) (hts _ t_151) (fun _ h9 => h9) rfl d_Flash_makePlace_1 ?_
  refine lv_iconst (v := -1) hx hb d_Flash_makePlace_4 (by decide) ?_
  refine lv_icmp_eq (tgt := 26) hx hb d_Flash_makePlace_5 (by decide) (fun c1 => ?_) (fun c1 => ?_)
  · have hf := ite_t c1 hf
    have hl := lv_sub hl (l' := [(0, .ref a0)]) [0] rfl
    exact k_26 u hf _ _ hP hD hS ls hl
  · have hf := ite_f c1 hf
    refine lv_aload_n hx hb d_Flash_makePlace_8 rfl (lv_at hl 0 rfl) ?_
    refine va_get (D := (dC, dI)) (ci := 1) (v := .int u.2.2.2.1) (C := R_Flash) (T := T_Flash) (N := 5) hx hb hts in_Flash hown hK hP 0 rfl rfl 3 (by decide) (hts _ t_151) (fun _ h9 => h9) rfl d_Flash_makePlace_9 ?_
    refine lv_iconst (v := 1) hx hb d_Flash_makePlace_12 (by decide) ?_
    refine lv_iadd hx hb d_Flash_makePlace_13 ?_
    refine lv_topi (fun x2 ex2 => ?_)
    have hf := bd_t ex2 hf
    refine lv_iconst (v := 3) hx hb d_Flash_makePlace_14 (by decide) ?_
    refine lv_irem hx hb d_Flash_makePlace_15 (by decide) ?_
    refine lv_topi (fun x3 ex3 => ?_)
    have hf := bd_t ex3 hf
    refine lv_if_eq (tgt := 26) hx hb d_Flash_makePlace_16 (by decide) (fun c4 => ?_) (fun c4 => ?_)
    · have hf := ite_t c4 hf
      have hl := lv_sub hl (l' := [(0, .ref a0)]) [0] rfl
      exact k_26 u hf _ _ hP hD hS ls hl
    · have hf := ite_f c4 hf
      refine lv_aload_n hx hb d_Flash_makePlace_19 rfl (lv_at hl 0 rfl) ?_
      refine va_get (D := (dC, dI)) (ci := 1) (v := .int u.2.2.2.1) (C := R_Flash) (T := T_Flash) (N := 5) hx hb hts in_Flash hown hK hP 0 rfl rfl 3 (by decide) (hts _ t_151) (fun _ h9 => h9) rfl d_Flash_makePlace_20 ?_
      refine lv_iconst (v := 1) hx hb d_Flash_makePlace_23 (by decide) ?_
      refine lv_iadd hx hb d_Flash_makePlace_24 ?_
      refine lv_topi (fun x5 ex5 => ?_)
      have hf := bd_t ex5 hf
      have hf := Option.some.inj hf
      rw [hQe]
      exact W.iret (v := x5) hx hb hr (fun t ht hW => ⟨⟨x5, u, rfl, ⟨congrArg Prod.fst hf, congrArg Prod.snd hf⟩, by rw [ht]; exact hP, va_K.moved hW.alike hK, hD⟩, hS.F ht⟩) hS.2.2 d_Flash_makePlace_25
def f_Flash_write_63 (v1 : Int32) (v4 : Int32) (s1 : Int32) (s3 : Int32) (s4 : Int32) (u : S_Flash) : Option (Int32 × S_Flash) := gc s1 s3 s4 6 72 (bd (va_cpy u.2.2.1 u.1 s1.toNatClampNeg s3.toNatClampNeg s4.toNatClampNeg) (fun F11 : Nat → Int64 => gb v4 (some (v4, (F11, u.2.1, u.2.2.1, v1, (-1 : Int32))))))
def f_Flash_write_34 (v1 : Int32) (s0 : Int32) (u : S_Flash) : Option (Int32 × S_Flash) := bd (v1 * (6 : Int32)) (fun x8 : Int32 => (if s0 = 0 then f_Flash_write_63 v1 s0 (0 : Int32) x8 u.2.2.2.2 u else f_Flash_write_63 v1 s0 (0 : Int32) x8 (6 : Int32) u))
def f_Flash_write (p1 : Int32) (p2 : Int64) (u : S_Flash) : Option (Int32 × S_Flash) := gi (0 : Int32) 6 (bd (vp_updL u.2.2.1 (0 : Int32).toNatClampNeg p2) (fun F2 : Nat → Int64 => ca (f_Flash_sumOf 6 (0 : Int32) F2) (fun r3 w4 => gi (5 : Int32) 6 (bd (vp_updL w4 (5 : Int32).toNatClampNeg r3) (fun F6 : Nat → Int64 => (if u.2.2.2.2 = (-1 : Int32) then f_Flash_write_34 p1 (1 : Int32) (u.1, u.2.1, F6, u.2.2.2.1, u.2.2.2.2) else f_Flash_write_34 p1 (0 : Int32) (u.1, u.2.1, F6, u.2.2.2.1, u.2.2.2.2)))))))
set_option maxHeartbeats 4000000 in
set_option maxRecDepth 100000 in
theorem c_Flash_write (l : Launch) (dC : Nat → ClassId) (dI : Nat → Nat → Nat) (cI cL cD : ClassId) (a0 a1 a2 a3 : Nat) (sz : Nat) (p1 : Int32) (p2 : Int64) (u : S_Flash) (res : Int32 × S_Flash) (hf : f_Flash_write p1 p2 u = some res) : Met l y_Flash_write w_Flash_write ({ frames := 1, cells := 0, slots := 0, locals := 64 }) (va_Pc [.ref a0, .int p1, .long p2] (fun U => U.heap.size = sz ∧ va_P (dC, dI) CL [(a0, .inr (1, [.ref a1, .ref a2, .ref a3, .int u.2.2.2.1, .int u.2.2.2.2])), (a1, .inl (cL, 72, .inr (.inl (u.1)))), (a2, .inl (cI, 4, .inl (u.2.1))), (a3, .inl (cL, 6, .inr (.inl (u.2.2.1))))] U.heap ∧ va_K (dC, dI) CL [(cI, .int), (cL, .long), (cD, .double)] U ∧ va_D (fun _ => True) [(a0, .inr (1, [.ref a1, .ref a2, .ref a3, .int u.2.2.2.1, .int u.2.2.2.2])), (a1, .inl (cL, 72, .inr (.inl (u.1)))), (a2, .inl (cI, 4, .inl (u.2.1))), (a3, .inl (cL, 6, .inr (.inl (u.2.2.1))))] ∧ NWs U)) (va_Qi (fun (r : Int32) (w : S_Flash) => r = res.1 ∧ w = res.2) (fun (w : S_Flash) t => va_P (dC, dI) CL [(a0, .inr (1, [.ref a1, .ref a2, .ref a3, .int w.2.2.2.1, .int w.2.2.2.2])), (a1, .inl (cL, 72, .inr (.inl (w.1)))), (a2, .inl (cI, 4, .inl (w.2.1))), (a3, .inl (cL, 6, .inr (.inl (w.2.2.1))))] t.heap ∧ va_K (dC, dI) CL [(cI, .int), (cL, .long), (cD, .double)] t ∧ va_D (va_A [(a0, .inr (1, [.ref a1, .ref a2, .ref a3, .int u.2.2.2.1, .int u.2.2.2.2])), (a1, .inl (cL, 72, .inr (.inl (u.1)))), (a2, .inl (cI, 4, .inl (u.2.1))), (a3, .inl (cL, 6, .inr (.inl (u.2.2.1))))] sz) [(a0, .inr (1, [.ref a1, .ref a2, .ref a3, .int w.2.2.2.1, .int w.2.2.2.2])), (a1, .inl (cL, 72, .inr (.inl (w.1)))), (a2, .inl (cI, 4, .inl (w.2.1))), (a3, .inl (cL, 6, .inr (.inl (w.2.2.1))))]) (va_A [(a0, .inr (1, [.ref a1, .ref a2, .ref a3, .int u.2.2.2.1, .int u.2.2.2.2])), (a1, .inl (cL, 72, .inr (.inl (u.1)))), (a2, .inl (cI, 4, .inl (u.2.1))), (a3, .inl (cL, 6, .inr (.inl (u.2.2.1))))] sz)) 0 0 (va_A [(a0, .inr (1, [.ref a1, .ref a2, .ref a3, .int u.2.2.2.1, .int u.2.2.2.2])), (a1, .inl (cL, 72, .inr (.inl (u.1)))), (a2, .inl (cI, 4, .inl (u.2.1))), (a3, .inl (cL, 6, .inr (.inl (u.2.2.1))))] sz) := by
  refine Met.ofW (cc := b_Flash_write) (maxL := 5) (ret := (some .boolean)) (by decide) rfl ?_
  intro p e s m args below meth c s₁ B hml hv
  obtain ⟨rfl, hsz, hP, hK, hD0, hN⟩ := hv
  have hx := B.exec
  have hb := B.bytes
  have hr := B.returns
  have hts : ∀ w ∈ TB, w.before _ s = true := fun w h => atoms_spec (ws := w_Flash_write) B.pre w (List.mem_cons_of_mem _ h)
  have hown : s.vm.findClass R_Flash = some m.cls := findClass_of_methodNamed B.named
  have hlocks := B.notSynchronized
  subst hsz
  have hD := hD0.self (sz := s.heap.size)
  generalize hAe : va_A [(a0, .inr (1, [.ref a1, .ref a2, .ref a3, .int u.2.2.2.1, .int u.2.2.2.2])), (a1, .inl (cL, 72, .inr (.inl (u.1)))), (a2, .inl (cI, 4, .inl (u.2.1))), (a3, .inl (cL, 6, .inr (.inl (u.2.2.1))))] s.heap.size = A at hD ⊢
  have hA : ∀ q : Nat, s.heap.size ≤ q → A q := fun q h => by rw [← hAe]; exact Or.inr h
  have hS : va_S A s.heap s.heap [] := va_S.rf
  have hl := lv_entry ([.ref a0, .int p1, .long p2]) (n := 5) (Nat.le_of_ble_eq_true rfl)
  rw [lg_entry_eq]
  generalize (lg_sl ([.ref a0, .int p1, .long p2]) ++ List.replicate (5 - (lg_sl ([.ref a0, .int p1, .long p2])).length) Slot.unset).toArray = ls at hl ⊢
  have hl : lv_has ls 5 [(0, .ref a0), (1, .int p1), (2, .long p2)] := hl
  refine nameQ (fun Q hQe => ?_)
  have k_63 : ∀ (v1 : Int32) (v4 : Int32) (s1 : Int32) (s3 : Int32) (s4 : Int32) (u : S_Flash), f_Flash_write_63 v1 v4 s1 s3 s4 u = some res → ∀ (H : Heap) (locs : List Loc), va_P (dC, dI) CL [(a0, .inr (1, [.ref a1, .ref a2, .ref a3, .int u.2.2.2.1, .int u.2.2.2.2])), (a1, .inl (cL, 72, .inr (.inl (u.1)))), (a2, .inl (cI, 4, .inl (u.2.1))), (a3, .inl (cL, 6, .inr (.inl (u.2.2.1))))] H → va_D A [(a0, .inr (1, [.ref a1, .ref a2, .ref a3, .int u.2.2.2.1, .int u.2.2.2.2])), (a1, .inl (cL, 72, .inr (.inl (u.1)))), (a2, .inl (cI, 4, .inl (u.2.1))), (a3, .inl (cL, 6, .inr (.inl (u.2.2.1))))] → va_S A s.heap H locs → ∀ (ls : Array Slot), lv_has ls 5 [(0, .ref a0), (1, .int v1), (4, .int v4)] → W p l e (headSpec w_Flash_write ({ frames := 1, cells := 0, slots := 0, locals := 64 })).room s m ([.ref a0, .int p1, .long p2] : List Value).toArray below meth c H locs 0 0 Q (F0 m 63 ls [.int s4, .int s3, .ref a1, .int s1, .ref a3]) := by
    intro v1 v4 s1 s3 s4 u hf H locs hP hD hS ls hl
    rw [f_Flash_write_63] at hf
    obtain ⟨h10, hf⟩ := gc_t hf
    refine va_copyl hx hb (by rw [hml]; exact hl.1.symm) hown (hts _ t_427) (hts _ t_353) (hts _ t_352) (hts _ t_51) hK hP hD hS 3 1 1 1 rfl rfl rfl rfl rfl h10.1 h10.2.1 h10.2.2.1 h10.2.2.2.1 h10.2.2.2.2 (fun _ _ => rfl) (Nat.le_of_ble_eq_true rfl) (Nat.le_of_ble_eq_true rfl) d_Flash_write_63 (fun H locs hP hD hS => ?_)
    obtain ⟨F11, eF11⟩ : ∃ y : Nat → Int64, y = va_cpy u.2.2.1 u.1 s1.toNatClampNeg s3.toNatClampNeg s4.toNatClampNeg := ⟨_, rfl⟩
    have hf := bd_t eF11 hf
    have hP : va_P (dC, dI) CL [(a0, .inr (1, [.ref a1, .ref a2, .ref a3, .int u.2.2.2.1, .int u.2.2.2.2])), (a1, .inl (cL, 72, .inr (.inl (F11)))), (a2, .inl (cI, 4, .inl (u.2.1))), (a3, .inl (cL, 6, .inr (.inl (u.2.2.1))))] H := by rw [eF11]; exact hP
    have hD : va_D A [(a0, .inr (1, [.ref a1, .ref a2, .ref a3, .int u.2.2.2.1, .int u.2.2.2.2])), (a1, .inl (cL, 72, .inr (.inl (F11)))), (a2, .inl (cI, 4, .inl (u.2.1))), (a3, .inl (cL, 6, .inr (.inl (u.2.2.1))))] := by rw [eF11]; exact hD
    refine lv_aload_n hx hb d_Flash_write_66 rfl (lv_at hl 0 rfl) ?_
    refine lv_iload_n hx hb d_Flash_write_67 rfl (lv_at hl 1 rfl) ?_
    refine va_put (D := (dC, dI)) (ci := 1) (v := .int v1) (ty := .int) (C := R_Flash) (T := T_Flash) (N := 5) hx hb hts in_Flash ty_Flash ty_Flash_ok nm_Flash hown hK hP hD hS 0 rfl rfl 3 (by decide) (hts _ t_151) (fun _ h9 => h9) rfl (by decide +kernel) rfl rfl (Nat.le_of_ble_eq_true rfl) d_Flash_write_68 (fun H locs hP hD hS => ?_)
    have hP : va_P (dC, dI) CL [(a0, .inr (1, [.ref a1, .ref a2, .ref a3, .int v1, .int u.2.2.2.2])), (a1, .inl (cL, 72, .inr (.inl (F11)))), (a2, .inl (cI, 4, .inl (u.2.1))), (a3, .inl (cL, 6, .inr (.inl (u.2.2.1))))] H := hP
    have hD : va_D A [(a0, .inr (1, [.ref a1, .ref a2, .ref a3, .int v1, .int u.2.2.2.2])), (a1, .inl (cL, 72, .inr (.inl (F11)))), (a2, .inl (cI, 4, .inl (u.2.1))), (a3, .inl (cL, 6, .inr (.inl (u.2.2.1))))] := hD
    refine lv_aload_n hx hb d_Flash_write_71 rfl (lv_at hl 0 rfl) ?_
    refine lv_iconst (v := -1) hx hb d_Flash_write_72 (by decide) ?_
    refine va_put (D := (dC, dI)) (ci := 1) (v := .int (-1 : Int32)) (ty := .int) (C := R_Flash) (T := T_Flash) (N := 5) hx hb hts in_Flash ty_Flash ty_Flash_ok nm_Flash hown hK hP hD hS 0 rfl rfl 4 (by decide) (hts _ t_153) (fun _ h9 => h9) rfl (by decide +kernel) rfl rfl (Nat.le_of_ble_eq_true rfl) d_Flash_write_73 (fun H locs hP hD hS => ?_)
    have hP : va_P (dC, dI) CL [(a0, .inr (1, [.ref a1, .ref a2, .ref a3, .int v1, .int (-1 : Int32)])), (a1, .inl (cL, 72, .inr (.inl (F11)))), (a2, .inl (cI, 4, .inl (u.2.1))), (a3, .inl (cL, 6, .inr (.inl (u.2.2.1))))] H := hP
    have hD : va_D A [(a0, .inr (1, [.ref a1, .ref a2, .ref a3, .int v1, .int (-1 : Int32)])), (a1, .inl (cL, 72, .inr (.inl (F11)))), (a2, .inl (cI, 4, .inl (u.2.1))), (a3, .inl (cL, 6, .inr (.inl (u.2.2.1))))] := hD
    refine lv_iload hx hb d_Flash_write_76 (lv_at hl 2 rfl) ?_
    obtain ⟨h12, hf⟩ := gb_t hf
    have hf := Option.some.inj hf
    rw [hQe]
    exact W.zret (v := v4) hx hb hr (nb_t h12) (fun t ht hW => ⟨⟨v4, (F11, u.2.1, u.2.2.1, v1, (-1 : Int32)), rfl, ⟨congrArg Prod.fst hf, congrArg Prod.snd hf⟩, by rw [ht]; exact hP, va_K.moved hW.alike hK, hD⟩, hS.F ht⟩) hS.2.2 d_Flash_write_78
  have k_34 : ∀ (v1 : Int32) (s0 : Int32) (u : S_Flash), f_Flash_write_34 v1 s0 u = some res → ∀ (H : Heap) (locs : List Loc), va_P (dC, dI) CL [(a0, .inr (1, [.ref a1, .ref a2, .ref a3, .int u.2.2.2.1, .int u.2.2.2.2])), (a1, .inl (cL, 72, .inr (.inl (u.1)))), (a2, .inl (cI, 4, .inl (u.2.1))), (a3, .inl (cL, 6, .inr (.inl (u.2.2.1))))] H → va_D A [(a0, .inr (1, [.ref a1, .ref a2, .ref a3, .int u.2.2.2.1, .int u.2.2.2.2])), (a1, .inl (cL, 72, .inr (.inl (u.1)))), (a2, .inl (cI, 4, .inl (u.2.1))), (a3, .inl (cL, 6, .inr (.inl (u.2.2.1))))] → va_S A s.heap H locs → ∀ (ls : Array Slot), lv_has ls 5 [(0, .ref a0), (1, .int v1)] → W p l e (headSpec w_Flash_write ({ frames := 1, cells := 0, slots := 0, locals := 64 })).room s m ([.ref a0, .int p1, .long p2] : List Value).toArray below meth c H locs 0 0 Q (F0 m 34 ls [.int s0]) := by
    intro v1 s0 u hf H locs hP hD hS ls hl
    rw [f_Flash_write_34] at hf
    refine lv_istore (lv' := [(4, .int s0), (0, .ref a0), (1, .int v1)]) hx hb d_Flash_write_34 hl (by decide) rfl (fun ls hl => ?_)
    refine lv_aload_n hx hb d_Flash_write_36 rfl (lv_at hl 1 rfl) ?_
    refine va_get (D := (dC, dI)) (ci := 1) (v := .ref a3) (C := R_Flash) (T := T_Flash) (N := 5) hx hb hts in_Flash hown hK hP 0 rfl rfl 2 (by decide) (hts _ t_149) (fun _ h9 => h9) rfl d_Flash_write_37 ?_
    refine lv_iconst (v := 0) hx hb d_Flash_write_40 (by decide) ?_
    refine lv_aload_n hx hb d_Flash_write_41 rfl (lv_at hl 1 rfl) ?_
    refine va_get (D := (dC, dI)) (ci := 1) (v := .ref a1) (C := R_Flash) (T := T_Flash) (N := 5) hx hb hts in_Flash hown hK hP 0 rfl rfl 0 (by decide) (hts _ t_146) (fun _ h9 => h9) rfl d_Flash_write_42 ?_
    refine lv_iload_n hx hb d_Flash_write_45 rfl (lv_at hl 2 rfl) ?_
    refine lv_bipush (v := 6) hx hb d_Flash_write_46 (by decide) ?_
    refine lv_imul hx hb d_Flash_write_48 ?_
    refine lv_topi (fun x8 ex8 => ?_)
    have hf := bd_t ex8 hf
    refine lv_iload hx hb d_Flash_write_49 (lv_at hl 0 rfl) ?_
    refine lv_if_eq (tgt := 59) hx hb d_Flash_write_51 (by decide) (fun c9 => ?_) (fun c9 => ?_)
    · have hf := ite_t c9 hf
      refine lv_aload_n hx hb d_Flash_write_59 rfl (lv_at hl 1 rfl) ?_
      refine va_get (D := (dC, dI)) (ci := 1) (v := .int u.2.2.2.2) (C := R_Flash) (T := T_Flash) (N := 5) hx hb hts in_Flash hown hK hP 0 rfl rfl 4 (by decide) (hts _ t_153) (fun _ h9 => h9) rfl d_Flash_write_60 ?_
      have hl := lv_sub hl (l' := [(0, .ref a0), (1, .int v1), (4, .int s0)]) [1, 2, 0] rfl
      exact k_63 v1 s0 (0 : Int32) x8 u.2.2.2.2 u hf _ _ hP hD hS ls hl
    · have hf := ite_f c9 hf
      refine lv_bipush (v := 6) hx hb d_Flash_write_54 (by decide) ?_
      refine lv_goto (tgt := 63) hx hb d_Flash_write_56 (by decide) ?_
      have hl := lv_sub hl (l' := [(0, .ref a0), (1, .int v1), (4, .int s0)]) [1, 2, 0] rfl
      exact k_63 v1 s0 (0 : Int32) x8 (6 : Int32) u hf _ _ hP hD hS ls hl
  rw [f_Flash_write] at hf
  refine lv_aload_n hx hb d_Flash_write_0 rfl (lv_at hl 0 rfl) ?_
  refine va_get (D := (dC, dI)) (ci := 1) (v := .ref a3) (C := R_Flash) (T := T_Flash) (N := 5) hx hb hts in_Flash hown hK hP 0 rfl rfl 2 (by decide) (hts _ t_149) (fun _ h9 => h9) rfl d_Flash_write_1 ?_
  refine lv_iconst (v := 0) hx hb d_Flash_write_4 (by decide) ?_
  refine lv_lload_n hx hb d_Flash_write_5 rfl (lv_at hl 2 rfl) ?_
  obtain ⟨h1, hf⟩ := gi_t hf
  refine va_last hx hb hK hP hD hS 3 1 rfl rfl h1 d_Flash_write_6 (fun H locs hP hD hS => ?_)
  obtain ⟨F2, eF2⟩ : ∃ y : Nat → Int64, y = vp_updL u.2.2.1 (0 : Int32).toNatClampNeg p2 := ⟨_, rfl⟩
  have hf := bd_t eF2 hf
  have hP : va_P (dC, dI) CL [(a0, .inr (1, [.ref a1, .ref a2, .ref a3, .int u.2.2.2.1, .int u.2.2.2.2])), (a1, .inl (cL, 72, .inr (.inl (u.1)))), (a2, .inl (cI, 4, .inl (u.2.1))), (a3, .inl (cL, 6, .inr (.inl (F2))))] H := by rw [eF2]; exact hP
  have hD : va_D A [(a0, .inr (1, [.ref a1, .ref a2, .ref a3, .int u.2.2.2.1, .int u.2.2.2.2])), (a1, .inl (cL, 72, .inr (.inl (u.1)))), (a2, .inl (cI, 4, .inl (u.2.1))), (a3, .inl (cL, 6, .inr (.inl (F2))))] := by rw [eF2]; exact hD
  refine lv_aload_n hx hb d_Flash_write_7 rfl (lv_at hl 0 rfl) ?_
  refine va_get (D := (dC, dI)) (ci := 1) (v := .ref a3) (C := R_Flash) (T := T_Flash) (N := 5) hx hb hts in_Flash hown hK hP 0 rfl rfl 2 (by decide) (hts _ t_149) (fun _ h9 => h9) rfl d_Flash_write_8 ?_
  refine lv_iconst (v := 5) hx hb d_Flash_write_11 (by decide) ?_
  refine lv_aload_n hx hb d_Flash_write_12 rfl (lv_at hl 0 rfl) ?_
  refine va_get (D := (dC, dI)) (ci := 1) (v := .ref a3) (C := R_Flash) (T := T_Flash) (N := 5) hx hb hts in_Flash hown hK hP 0 rfl rfl 2 (by decide) (hts _ t_149) (fun _ h9 => h9) rfl d_Flash_write_13 ?_
  refine lv_iconst (v := 0) hx hb d_Flash_write_16 (by decide) ?_
  obtain ⟨r3, w4, hc, hf⟩ := ca_t hf
  have hPc := hP.sub (ws' := [(a3, .inl (cL, 6, .inr (.inl (F2))))]) [3] rfl
  have hDc := hD.sub (ws' := [(a3, .inl (cL, 6, .inr (.inl (F2))))]) [3] (by decide) rfl
  have hFc := va_free (wc := [(a3, .inl (cL, 6, .inr (.inl (F2))))]) hD hS hA [3] rfl
  refine va_calll (va_runS (As := [.ref a3, .int (0 : Int32)]) (rest := [.int (5 : Int32), .ref a3]) ⟨hx, hb, hml, hown, hts⟩ (c_Flash_sumOf l dC dI cI cL cD a3 6 H.size (0 : Int32) F2 (r3, w4) hc) (va_cwS 2 hts (gS t_388 t_389 t_43 t_390) rfl rfl rfl (by decide +kernel) ⟨(Nat.le_of_ble_eq_true rfl), (Nat.le_of_ble_eq_true rfl)⟩) ⟨fun a U g mk q => by obtain ⟨q0, q1, qP, qK, qD, qN⟩ := q; exact ⟨q0, q1, qP, va_K.moved (u := U) (U := U.calling g mk a) (Vm.Alike.refl U.vm) qK, qD, NWs.same (u := U) (U := U.calling g mk a) rfl qN⟩, fun U hU hW => ⟨rfl, by rw [hU], by rw [hU]; exact hPc, va_K.moved hW.alike hK, hDc.weaken (fun _ _ _ _ => trivial), hN.warm hW⟩⟩ rfl rfl hl.1 rfl (lv_room (Nat.le_of_ble_eq_true rfl)) d_Flash_write_17 ⟨(Nat.le_of_ble_eq_true rfl), (Nat.le_of_ble_eq_true rfl)⟩) hS (fun q _ h => hFc q h) hFc (fun rZ wZ t H1 locs ht hvm hw hB hz1 hk1 hS => ?_)
  obtain ⟨eY, eZ⟩ := hw
  replace eY : r3 = rZ := eY.symm
  replace eZ : w4 = wZ := eZ.symm
  subst eY
  subst eZ
  obtain ⟨hP1, hK1, hD1⟩ := hB
  rw [ht] at hP1
  obtain ⟨hP, hD⟩ := va_join (wr := [(a0, .inr (1, [.ref a1, .ref a2, .ref a3, .int u.2.2.2.1, .int u.2.2.2.2])), (a1, .inl (cL, 72, .inr (.inl (u.1)))), (a2, .inl (cI, 4, .inl (u.2.1)))]) (w1 := [(a3, .inl (cL, 6, .inr (.inl (w4))))]) hP hD [3] [0, 1, 2] rfl rfl (by decide) (by decide) hk1 hFc hP1 hD1
  generalize H1 = H at hP hS ⊢
  have hP := hP.sub (ws' := [(a0, .inr (1, [.ref a1, .ref a2, .ref a3, .int u.2.2.2.1, .int u.2.2.2.2])), (a1, .inl (cL, 72, .inr (.inl (u.1)))), (a2, .inl (cI, 4, .inl (u.2.1))), (a3, .inl (cL, 6, .inr (.inl (w4))))]) [0, 1, 2, 3] rfl
  have hD := hD.sub (ws' := [(a0, .inr (1, [.ref a1, .ref a2, .ref a3, .int u.2.2.2.1, .int u.2.2.2.2])), (a1, .inl (cL, 72, .inr (.inl (u.1)))), (a2, .inl (cI, 4, .inl (u.2.1))), (a3, .inl (cL, 6, .inr (.inl (w4))))]) [0, 1, 2, 3] (by decide) rfl
  obtain ⟨h5, hf⟩ := gi_t hf
  refine va_last hx hb hK hP hD hS 3 1 rfl rfl h5 d_Flash_write_20 (fun H locs hP hD hS => ?_)
  obtain ⟨F6, eF6⟩ : ∃ y : Nat → Int64, y = vp_updL w4 (5 : Int32).toNatClampNeg r3 := ⟨_, rfl⟩
  have hf := bd_t eF6 hf
  have hP : va_P (dC, dI) CL [(a0, .inr (1, [.ref a1, .ref a2, .ref a3, .int u.2.2.2.1, .int u.2.2.2.2])), (a1, .inl (cL, 72, .inr (.inl (u.1)))), (a2, .inl (cI, 4, .inl (u.2.1))), (a3, .inl (cL, 6, .inr (.inl (F6))))] H := by rw [eF6]; exact hP
  have hD : va_D A [(a0, .inr (1, [.ref a1, .ref a2, .ref a3, .int u.2.2.2.1, .int u.2.2.2.2])), (a1, .inl (cL, 72, .inr (.inl (u.1)))), (a2, .inl (cI, 4, .inl (u.2.1))), (a3, .inl (cL, 6, .inr (.inl (F6))))] := by rw [eF6]; exact hD
  refine lv_aload_n hx hb d_Flash_write_21 rfl (lv_at hl 0 rfl) ?_
  refine va_get (D := (dC, dI)) (ci := 1) (v := .int u.2.2.2.2) (C := R_Flash) (T := T_Flash) (N := 5) hx hb hts in_Flash hown hK hP 0 rfl rfl 4 (by decide) (hts _ t_153) (fun _ h9 => h9) rfl d_Flash_write_22 ?_
  refine lv_iconst (v := -1) hx hb d_Flash_write_25 (by decide) ?_
  refine lv_icmp_ne (tgt := 33) hx hb d_Flash_write_26 (by decide) (fun c7 => ?_) (fun c7 => ?_)
  · have hf := ite_f c7 hf
    refine lv_iconst (v := 0) hx hb d_Flash_write_33 (by decide) ?_
    have hl := lv_sub hl (l' := [(0, .ref a0), (1, .int p1)]) [0, 1] rfl
    exact k_34 p1 (0 : Int32) (u.1, u.2.1, F6, u.2.2.2.1, u.2.2.2.2) hf _ _ hP hD hS ls hl
  · have hf := ite_t c7 hf
    refine lv_iconst (v := 1) hx hb d_Flash_write_29 (by decide) ?_
    refine lv_goto (tgt := 34) hx hb d_Flash_write_30 (by decide) ?_
    have hl := lv_sub hl (l' := [(0, .ref a0), (1, .int p1)]) [0, 1] rfl
    exact k_34 p1 (1 : Int32) (u.1, u.2.1, F6, u.2.2.2.1, u.2.2.2.2) hf _ _ hP hD hS ls hl
