def f_Line_giveUp (u : S_Line) : Option (S_Line) := some (u.1, u.2.1, u.2.2.1, u.2.2.2.1, u.2.2.2.2.1, (0 : Int32), (0 : Int32))
set_option maxHeartbeats 4000000 in
set_option maxRecDepth 100000 in
theorem c_Line_giveUp (l : Launch) (dC : Nat → ClassId) (dI : Nat → Nat → Nat) (cI cL cD : ClassId) (a0 a1 a2 a3 : Nat) (sz : Nat) (u : S_Line) (res : S_Line) (hf : f_Line_giveUp u = some res) : Met l y_Line_giveUp w_Line_giveUp ({ frames := 0, cells := 0, slots := 0, locals := 0 }) (va_Pc [.ref a0] (fun U => U.heap.size = sz ∧ va_P (dC, dI) CL [(a0, .inr (2, [.ref a1, .ref a2, .ref a3, .int u.2.2.2.1, .int u.2.2.2.2.1, .int u.2.2.2.2.2.1, .int u.2.2.2.2.2.2])), (a1, .inl (cI, 12, .inl (u.1))), (a2, .inl (cI, 11, .inl (u.2.1))), (a3, .inl (cI, 24, .inl (u.2.2.1)))] U.heap ∧ va_K (dC, dI) CL [(cI, .int), (cL, .long), (cD, .double)] U ∧ va_D (fun _ => True) [(a0, .inr (2, [.ref a1, .ref a2, .ref a3, .int u.2.2.2.1, .int u.2.2.2.2.1, .int u.2.2.2.2.2.1, .int u.2.2.2.2.2.2])), (a1, .inl (cI, 12, .inl (u.1))), (a2, .inl (cI, 11, .inl (u.2.1))), (a3, .inl (cI, 24, .inl (u.2.2.1)))] ∧ NWs U)) (va_Qv (fun (w : S_Line) => w = res) (fun (w : S_Line) t => va_P (dC, dI) CL [(a0, .inr (2, [.ref a1, .ref a2, .ref a3, .int w.2.2.2.1, .int w.2.2.2.2.1, .int w.2.2.2.2.2.1, .int w.2.2.2.2.2.2])), (a1, .inl (cI, 12, .inl (w.1))), (a2, .inl (cI, 11, .inl (w.2.1))), (a3, .inl (cI, 24, .inl (w.2.2.1)))] t.heap ∧ va_K (dC, dI) CL [(cI, .int), (cL, .long), (cD, .double)] t ∧ va_D (va_A [(a0, .inr (2, [.ref a1, .ref a2, .ref a3, .int u.2.2.2.1, .int u.2.2.2.2.1, .int u.2.2.2.2.2.1, .int u.2.2.2.2.2.2])), (a1, .inl (cI, 12, .inl (u.1))), (a2, .inl (cI, 11, .inl (u.2.1))), (a3, .inl (cI, 24, .inl (u.2.2.1)))] sz) [(a0, .inr (2, [.ref a1, .ref a2, .ref a3, .int w.2.2.2.1, .int w.2.2.2.2.1, .int w.2.2.2.2.2.1, .int w.2.2.2.2.2.2])), (a1, .inl (cI, 12, .inl (w.1))), (a2, .inl (cI, 11, .inl (w.2.1))), (a3, .inl (cI, 24, .inl (w.2.2.1)))]) (va_A [(a0, .inr (2, [.ref a1, .ref a2, .ref a3, .int u.2.2.2.1, .int u.2.2.2.2.1, .int u.2.2.2.2.2.1, .int u.2.2.2.2.2.2])), (a1, .inl (cI, 12, .inl (u.1))), (a2, .inl (cI, 11, .inl (u.2.1))), (a3, .inl (cI, 24, .inl (u.2.2.1)))] sz)) 0 0 (va_A [(a0, .inr (2, [.ref a1, .ref a2, .ref a3, .int u.2.2.2.1, .int u.2.2.2.2.1, .int u.2.2.2.2.2.1, .int u.2.2.2.2.2.2])), (a1, .inl (cI, 12, .inl (u.1))), (a2, .inl (cI, 11, .inl (u.2.1))), (a3, .inl (cI, 24, .inl (u.2.2.1)))] sz) := by
  refine Met.ofW (cc := b_Line_giveUp) (maxL := 1) (ret := none) (by decide) rfl ?_
  intro p e s m args below meth c s₁ B hml hv
  obtain ⟨rfl, hsz, hP, hK, hD0, hN⟩ := hv
  have hx := B.exec
  have hb := B.bytes
  have hr := B.returns
  have hts : ∀ w ∈ TB, w.before _ s = true := fun w h => atoms_spec (ws := w_Line_giveUp) B.pre w (List.mem_cons_of_mem _ h)
  have hown : s.vm.findClass R_Line = some m.cls := findClass_of_methodNamed B.named
  have hlocks := B.notSynchronized
  subst hsz
  have hD := hD0.self (sz := s.heap.size)
  generalize hAe : va_A [(a0, .inr (2, [.ref a1, .ref a2, .ref a3, .int u.2.2.2.1, .int u.2.2.2.2.1, .int u.2.2.2.2.2.1, .int u.2.2.2.2.2.2])), (a1, .inl (cI, 12, .inl (u.1))), (a2, .inl (cI, 11, .inl (u.2.1))), (a3, .inl (cI, 24, .inl (u.2.2.1)))] s.heap.size = A at hD ⊢
  have hA : ∀ q : Nat, s.heap.size ≤ q → A q := fun q h => by rw [← hAe]; exact Or.inr h
  have hS : va_S A s.heap s.heap [] := va_S.rf
  have hl := lv_entry ([.ref a0]) (n := 1) (Nat.le_of_ble_eq_true rfl)
  rw [lg_entry_eq]
  generalize (lg_sl ([.ref a0]) ++ List.replicate (1 - (lg_sl ([.ref a0])).length) Slot.unset).toArray = ls at hl ⊢
  have hl : lv_has ls 1 [(0, .ref a0)] := hl
  refine nameQ (fun Q hQe => ?_)
  rw [f_Line_giveUp] at hf
  refine lv_aload_n hx hb d_Line_giveUp_0 rfl (lv_at hl 0 rfl) ?_
  refine lv_iconst (v := 0) hx hb d_Line_giveUp_1 (by decide) ?_
  refine va_put (D := (dC, dI)) (ci := 2) (v := .int (0 : Int32)) (ty := .boolean) (C := R_Line) (T := T_Line) (N := 7) hx hb hts in_Line ty_Line ty_Line_ok nm_Line hown hK hP hD hS 0 rfl rfl 5 (by decide) (hts _ t_179) (fun _ h9 => h9) rfl (by decide +kernel) (by decide) (by decide) (Nat.le_of_ble_eq_true rfl) d_Line_giveUp_2 (fun H locs hP hD hS => ?_)
  have hP : va_P (dC, dI) CL [(a0, .inr (2, [.ref a1, .ref a2, .ref a3, .int u.2.2.2.1, .int u.2.2.2.2.1, .int (0 : Int32), .int u.2.2.2.2.2.2])), (a1, .inl (cI, 12, .inl (u.1))), (a2, .inl (cI, 11, .inl (u.2.1))), (a3, .inl (cI, 24, .inl (u.2.2.1)))] H := hP
  have hD : va_D A [(a0, .inr (2, [.ref a1, .ref a2, .ref a3, .int u.2.2.2.1, .int u.2.2.2.2.1, .int (0 : Int32), .int u.2.2.2.2.2.2])), (a1, .inl (cI, 12, .inl (u.1))), (a2, .inl (cI, 11, .inl (u.2.1))), (a3, .inl (cI, 24, .inl (u.2.2.1)))] := hD
  refine lv_aload_n hx hb d_Line_giveUp_5 rfl (lv_at hl 0 rfl) ?_
  refine lv_iconst (v := 0) hx hb d_Line_giveUp_6 (by decide) ?_
  refine va_put (D := (dC, dI)) (ci := 2) (v := .int (0 : Int32)) (ty := .boolean) (C := R_Line) (T := T_Line) (N := 7) hx hb hts in_Line ty_Line ty_Line_ok nm_Line hown hK hP hD hS 0 rfl rfl 6 (by decide) (hts _ t_180) (fun _ h9 => h9) rfl (by decide +kernel) (by decide) (by decide) (Nat.le_of_ble_eq_true rfl) d_Line_giveUp_7 (fun H locs hP hD hS => ?_)
  have hP : va_P (dC, dI) CL [(a0, .inr (2, [.ref a1, .ref a2, .ref a3, .int u.2.2.2.1, .int u.2.2.2.2.1, .int (0 : Int32), .int (0 : Int32)])), (a1, .inl (cI, 12, .inl (u.1))), (a2, .inl (cI, 11, .inl (u.2.1))), (a3, .inl (cI, 24, .inl (u.2.2.1)))] H := hP
  have hD : va_D A [(a0, .inr (2, [.ref a1, .ref a2, .ref a3, .int u.2.2.2.1, .int u.2.2.2.2.1, .int (0 : Int32), .int (0 : Int32)])), (a1, .inl (cI, 12, .inl (u.1))), (a2, .inl (cI, 11, .inl (u.2.1))), (a3, .inl (cI, 24, .inl (u.2.2.1)))] := hD
  have hf := Option.some.inj hf
  rw [hQe]
  exact W.vret hx hb hr (fun t ht hW => ⟨⟨(u.1, u.2.1, u.2.2.1, u.2.2.2.1, u.2.2.2.2.1, (0 : Int32), (0 : Int32)), rfl, hf, by rw [ht]; exact hP, va_K.moved hW.alike hK, hD⟩, hS.F ht⟩) hS.2.2 d_Line_giveUp_10
def f_Line_keepByte_19 (u : S_Line) : Option (S_Line) := (if (12 : Int32) < u.2.2.2.1 then some u else bd (u.2.2.2.1 + (1 : Int32)) (fun x5 : Int32 => some (u.1, u.2.1, u.2.2.1, x5, u.2.2.2.2.1, u.2.2.2.2.2.1, u.2.2.2.2.2.2)))
def f_Line_keepByte (p1 : Int32) (u : S_Line) : Option (S_Line) := (if (12 : Int32) ≤ u.2.2.2.1 then f_Line_keepByte_19 u else gi u.2.2.2.1 12 (bd (upd u.1 u.2.2.2.1.toNatClampNeg p1) (fun F3 : Nat → Int32 => f_Line_keepByte_19 (F3, u.2.1, u.2.2.1, u.2.2.2.1, u.2.2.2.2.1, u.2.2.2.2.2.1, u.2.2.2.2.2.2))))
set_option maxHeartbeats 4000000 in
set_option maxRecDepth 100000 in
theorem c_Line_keepByte (l : Launch) (dC : Nat → ClassId) (dI : Nat → Nat → Nat) (cI cL cD : ClassId) (a0 a1 a2 a3 : Nat) (sz : Nat) (p1 : Int32) (u : S_Line) (res : S_Line) (hf : f_Line_keepByte p1 u = some res) : Met l y_Line_keepByte w_Line_keepByte ({ frames := 0, cells := 0, slots := 0, locals := 0 }) (va_Pc [.ref a0, .int p1] (fun U => U.heap.size = sz ∧ va_P (dC, dI) CL [(a0, .inr (2, [.ref a1, .ref a2, .ref a3, .int u.2.2.2.1, .int u.2.2.2.2.1, .int u.2.2.2.2.2.1, .int u.2.2.2.2.2.2])), (a1, .inl (cI, 12, .inl (u.1))), (a2, .inl (cI, 11, .inl (u.2.1))), (a3, .inl (cI, 24, .inl (u.2.2.1)))] U.heap ∧ va_K (dC, dI) CL [(cI, .int), (cL, .long), (cD, .double)] U ∧ va_D (fun _ => True) [(a0, .inr (2, [.ref a1, .ref a2, .ref a3, .int u.2.2.2.1, .int u.2.2.2.2.1, .int u.2.2.2.2.2.1, .int u.2.2.2.2.2.2])), (a1, .inl (cI, 12, .inl (u.1))), (a2, .inl (cI, 11, .inl (u.2.1))), (a3, .inl (cI, 24, .inl (u.2.2.1)))] ∧ NWs U)) (va_Qv (fun (w : S_Line) => w = res) (fun (w : S_Line) t => va_P (dC, dI) CL [(a0, .inr (2, [.ref a1, .ref a2, .ref a3, .int w.2.2.2.1, .int w.2.2.2.2.1, .int w.2.2.2.2.2.1, .int w.2.2.2.2.2.2])), (a1, .inl (cI, 12, .inl (w.1))), (a2, .inl (cI, 11, .inl (w.2.1))), (a3, .inl (cI, 24, .inl (w.2.2.1)))] t.heap ∧ va_K (dC, dI) CL [(cI, .int), (cL, .long), (cD, .double)] t ∧ va_D (va_A [(a0, .inr (2, [.ref a1, .ref a2, .ref a3, .int u.2.2.2.1, .int u.2.2.2.2.1, .int u.2.2.2.2.2.1, .int u.2.2.2.2.2.2])), (a1, .inl (cI, 12, .inl (u.1))), (a2, .inl (cI, 11, .inl (u.2.1))), (a3, .inl (cI, 24, .inl (u.2.2.1)))] sz) [(a0, .inr (2, [.ref a1, .ref a2, .ref a3, .int w.2.2.2.1, .int w.2.2.2.2.1, .int w.2.2.2.2.2.1, .int w.2.2.2.2.2.2])), (a1, .inl (cI, 12, .inl (w.1))), (a2, .inl (cI, 11, .inl (w.2.1))), (a3, .inl (cI, 24, .inl (w.2.2.1)))]) (va_A [(a0, .inr (2, [.ref a1, .ref a2, .ref a3, .int u.2.2.2.1, .int u.2.2.2.2.1, .int u.2.2.2.2.2.1, .int u.2.2.2.2.2.2])), (a1, .inl (cI, 12, .inl (u.1))), (a2, .inl (cI, 11, .inl (u.2.1))), (a3, .inl (cI, 24, .inl (u.2.2.1)))] sz)) 0 0 (va_A [(a0, .inr (2, [.ref a1, .ref a2, .ref a3, .int u.2.2.2.1, .int u.2.2.2.2.1, .int u.2.2.2.2.2.1, .int u.2.2.2.2.2.2])), (a1, .inl (cI, 12, .inl (u.1))), (a2, .inl (cI, 11, .inl (u.2.1))), (a3, .inl (cI, 24, .inl (u.2.2.1)))] sz) := by
  refine Met.ofW (cc := b_Line_keepByte) (maxL := 2) (ret := none) (by decide) rfl ?_
  intro p e s m args below meth c s₁ B hml hv
  obtain ⟨rfl, hsz, hP, hK, hD0, hN⟩ := hv
  have hx := B.exec
  have hb := B.bytes
  have hr := B.returns
  have hts : ∀ w ∈ TB, w.before _ s = true := fun w h => atoms_spec (ws := w_Line_keepByte) B.pre w (List.mem_cons_of_mem _ h)
  have hown : s.vm.findClass R_Line = some m.cls := findClass_of_methodNamed B.named
  have hlocks := B.notSynchronized
  subst hsz
  have hD := hD0.self (sz := s.heap.size)
  generalize hAe : va_A [(a0, .inr (2, [.ref a1, .ref a2, .ref a3, .int u.2.2.2.1, .int u.2.2.2.2.1, .int u.2.2.2.2.2.1, .int u.2.2.2.2.2.2])), (a1, .inl (cI, 12, .inl (u.1))), (a2, .inl (cI, 11, .inl (u.2.1))), (a3, .inl (cI, 24, .inl (u.2.2.1)))] s.heap.size = A at hD ⊢
  have hA : ∀ q : Nat, s.heap.size ≤ q → A q := fun q h => by rw [← hAe]; exact Or.inr h
  have hS : va_S A s.heap s.heap [] := va_S.rf
  have hl := lv_entry ([.ref a0, .int p1]) (n := 2) (Nat.le_of_ble_eq_true rfl)
  rw [lg_entry_eq]
  generalize (lg_sl ([.ref a0, .int p1]) ++ List.replicate (2 - (lg_sl ([.ref a0, .int p1])).length) Slot.unset).toArray = ls at hl ⊢
  have hl : lv_has ls 2 [(0, .ref a0), (1, .int p1)] := hl
  refine nameQ (fun Q hQe => ?_)
  have k_19 : ∀  (u : S_Line), f_Line_keepByte_19  u = some res → ∀ (H : Heap) (locs : List Loc), va_P (dC, dI) CL [(a0, .inr (2, [.ref a1, .ref a2, .ref a3, .int u.2.2.2.1, .int u.2.2.2.2.1, .int u.2.2.2.2.2.1, .int u.2.2.2.2.2.2])), (a1, .inl (cI, 12, .inl (u.1))), (a2, .inl (cI, 11, .inl (u.2.1))), (a3, .inl (cI, 24, .inl (u.2.2.1)))] H → va_D A [(a0, .inr (2, [.ref a1, .ref a2, .ref a3, .int u.2.2.2.1, .int u.2.2.2.2.1, .int u.2.2.2.2.2.1, .int u.2.2.2.2.2.2])), (a1, .inl (cI, 12, .inl (u.1))), (a2, .inl (cI, 11, .inl (u.2.1))), (a3, .inl (cI, 24, .inl (u.2.2.1)))] → va_S A s.heap H locs → ∀ (ls : Array Slot), lv_has ls 2 [(0, .ref a0)] → W p l e (headSpec w_Line_keepByte ({ frames := 0, cells := 0, slots := 0, locals := 0 })).room s m ([.ref a0, .int p1] : List Value).toArray below meth c H locs 0 0 Q (F0 m 19 ls []) := by
    intro u hf H locs hP hD hS ls hl
    rw [f_Line_keepByte_19] at hf
    refine lv_aload_n hx hb d_Line_keepByte_19 rfl (lv_at hl 0 rfl) ?_
    refine va_get (D := (dC, dI)) (ci := 2) (v := .int u.2.2.2.1) (C := R_Line) (T := T_Line) (N := 7) hx hb hts in_Line hown hK hP 0 rfl rfl 3 (by decide) (hts _ t_176) (fun _ h9 => h9) rfl d_Line_keepByte_20 ?_
    refine lv_bipush (v := 12) hx hb d_Line_keepByte_23 (by decide) ?_
    refine lv_icmp_gt (tgt := 38) hx hb d_Line_keepByte_25 (by decide) (fun c4 => ?_) (fun c4 => ?_)
    · have hf := ite_t c4 hf
      have hf := Option.some.inj hf
      rw [hQe]
      exact W.vret hx hb hr (fun t ht hW => ⟨⟨u, rfl, hf, by rw [ht]; exact hP, va_K.moved hW.alike hK, hD⟩, hS.F ht⟩) hS.2.2 d_Line_keepByte_38
    · have hf := ite_f c4 hf
      refine lv_aload_n hx hb d_Line_keepByte_28 rfl (lv_at hl 0 rfl) ?_
      refine lv_dup hx hb d_Line_keepByte_29 rfl ?_
      refine va_get (D := (dC, dI)) (ci := 2) (v := .int u.2.2.2.1) (C := R_Line) (T := T_Line) (N := 7) hx hb hts in_Line hown hK hP 0 rfl rfl 3 (by decide) (hts _ t_176) (fun _ h9 => h9) rfl d_Line_keepByte_30 ?_
      refine lv_iconst (v := 1) hx hb d_Line_keepByte_33 (by decide) ?_
      refine lv_iadd hx hb d_Line_keepByte_34 ?_
      refine lv_topi (fun x5 ex5 => ?_)
      have hf := bd_t ex5 hf
      refine va_put (D := (dC, dI)) (ci := 2) (v := .int x5) (ty := .int) (C := R_Line) (T := T_Line) (N := 7) hx hb hts in_Line ty_Line ty_Line_ok nm_Line hown hK hP hD hS 0 rfl rfl 3 (by decide) (hts _ t_176) (fun _ h9 => h9) rfl (by decide +kernel) rfl rfl (Nat.le_of_ble_eq_true rfl) d_Line_keepByte_35 (fun H locs hP hD hS => ?_)
      have hP : va_P (dC, dI) CL [(a0, .inr (2, [.ref a1, .ref a2, .ref a3, .int x5, .int u.2.2.2.2.1, .int u.2.2.2.2.2.1, .int u.2.2.2.2.2.2])), (a1, .inl (cI, 12, .inl (u.1))), (a2, .inl (cI, 11, .inl (u.2.1))), (a3, .inl (cI, 24, .inl (u.2.2.1)))] H := hP
      have hD : va_D A [(a0, .inr (2, [.ref a1, .ref a2, .ref a3, .int x5, .int u.2.2.2.2.1, .int u.2.2.2.2.2.1, .int u.2.2.2.2.2.2])), (a1, .inl (cI, 12, .inl (u.1))), (a2, .inl (cI, 11, .inl (u.2.1))), (a3, .inl (cI, 24, .inl (u.2.2.1)))] := hD
      have hf := Option.some.inj hf
      rw [hQe]
      exact W.vret hx hb hr (fun t ht hW => ⟨⟨(u.1, u.2.1, u.2.2.1, x5, u.2.2.2.2.1, u.2.2.2.2.2.1, u.2.2.2.2.2.2), rfl, hf, by rw [ht]; exact hP, va_K.moved hW.alike hK, hD⟩, hS.F ht⟩) hS.2.2 d_Line_keepByte_38
  rw [f_Line_keepByte] at hf
  refine lv_aload_n hx hb d_Line_keepByte_0 rfl (lv_at hl 0 rfl) ?_
  refine va_get (D := (dC, dI)) (ci := 2) (v := .int u.2.2.2.1) (C := R_Line) (T := T_Line) (N := 7) hx hb hts in_Line hown hK hP 0 rfl rfl 3 (by decide) (hts _ t_176) (fun _ h9 => h9) rfl d_Line_keepByte_1 ?_
  refine lv_bipush (v := 12) hx hb d_Line_keepByte_4 (by decide) ?_
  refine lv_icmp_ge (tgt := 19) hx hb d_Line_keepByte_6 (by decide) (fun c1 => ?_) (fun c1 => ?_)
  · have hf := ite_t c1 hf
    have hl := lv_sub hl (l' := [(0, .ref a0)]) [0] rfl
    exact k_19 u hf _ _ hP hD hS ls hl
  · have hf := ite_f c1 hf
    refine lv_aload_n hx hb d_Line_keepByte_9 rfl (lv_at hl 0 rfl) ?_
    refine va_get (D := (dC, dI)) (ci := 2) (v := .ref a1) (C := R_Line) (T := T_Line) (N := 7) hx hb hts in_Line hown hK hP 0 rfl rfl 0 (by decide) (hts _ t_172) (fun _ h9 => h9) rfl d_Line_keepByte_10 ?_
    refine lv_aload_n hx hb d_Line_keepByte_13 rfl (lv_at hl 0 rfl) ?_
    refine va_get (D := (dC, dI)) (ci := 2) (v := .int u.2.2.2.1) (C := R_Line) (T := T_Line) (N := 7) hx hb hts in_Line hown hK hP 0 rfl rfl 3 (by decide) (hts _ t_176) (fun _ h9 => h9) rfl d_Line_keepByte_14 ?_
    refine lv_iload_n hx hb d_Line_keepByte_17 rfl (lv_at hl 1 rfl) ?_
    obtain ⟨h2, hf⟩ := gi_t hf
    refine va_iast hx hb hK hP hD hS 1 0 rfl rfl h2 d_Line_keepByte_18 (fun H locs hP hD hS => ?_)
    obtain ⟨F3, eF3⟩ : ∃ y : Nat → Int32, y = upd u.1 u.2.2.2.1.toNatClampNeg p1 := ⟨_, rfl⟩
    have hf := bd_t eF3 hf
    have hP : va_P (dC, dI) CL [(a0, .inr (2, [.ref a1, .ref a2, .ref a3, .int u.2.2.2.1, .int u.2.2.2.2.1, .int u.2.2.2.2.2.1, .int u.2.2.2.2.2.2])), (a1, .inl (cI, 12, .inl (F3))), (a2, .inl (cI, 11, .inl (u.2.1))), (a3, .inl (cI, 24, .inl (u.2.2.1)))] H := by rw [eF3]; exact hP
    have hD : va_D A [(a0, .inr (2, [.ref a1, .ref a2, .ref a3, .int u.2.2.2.1, .int u.2.2.2.2.1, .int u.2.2.2.2.2.1, .int u.2.2.2.2.2.2])), (a1, .inl (cI, 12, .inl (F3))), (a2, .inl (cI, 11, .inl (u.2.1))), (a3, .inl (cI, 24, .inl (u.2.2.1)))] := by rw [eF3]; exact hD
    have hl := lv_sub hl (l' := [(0, .ref a0)]) [0] rfl
    exact k_19 (F3, u.2.1, u.2.2.1, u.2.2.2.1, u.2.2.2.2.1, u.2.2.2.2.2.1, u.2.2.2.2.2.2) hf _ _ hP hD hS ls hl
def f_Line_endsWith_90 (s1 : Int32) (u : S_Line) : Option (Int32 × S_Line) := gb s1 ((if s1 = 0 then some ((1 : Int32), (u.1, u.2.1, u.2.2.1, u.2.2.2.1, u.2.2.2.2.1, s1, u.2.2.2.2.2.2)) else some ((0 : Int32), (u.1, u.2.1, u.2.2.1, u.2.2.2.1, u.2.2.2.2.1, s1, u.2.2.2.2.2.2))))
def f_Line_endsWith (p1 : Int32) (u : S_Line) : Option (Int32 × S_Line) := (if u.2.2.2.2.2.1 = 0 then (if p1 = (126 : Int32) then some ((0 : Int32), (u.1, u.2.1, u.2.2.1, (0 : Int32), u.2.2.2.2.1, (1 : Int32), u.2.2.2.2.2.2)) else some ((0 : Int32), (u.1, u.2.1, u.2.2.1, (0 : Int32), u.2.2.2.2.1, (0 : Int32), u.2.2.2.2.2.2))) else (if u.2.2.2.2.2.2 = 0 then (if p1 = (125 : Int32) then some ((0 : Int32), (u.1, u.2.1, u.2.2.1, u.2.2.2.1, u.2.2.2.2.1, u.2.2.2.2.2.1, (1 : Int32))) else (if p1 = (126 : Int32) then (if u.2.2.2.1 = 0 then f_Line_endsWith_90 (1 : Int32) u else f_Line_endsWith_90 (0 : Int32) u) else cv (f_Line_keepByte p1 u) (fun w6 => some ((0 : Int32), w6)))) else bd (p1 ^^^ (32 : Int32)) (fun x7 : Int32 => cv (f_Line_keepByte x7 (u.1, u.2.1, u.2.2.1, u.2.2.2.1, u.2.2.2.2.1, u.2.2.2.2.2.1, (0 : Int32))) (fun w8 => some ((0 : Int32), w8)))))
set_option maxHeartbeats 4000000 in
set_option maxRecDepth 100000 in
theorem c_Line_endsWith (l : Launch) (dC : Nat → ClassId) (dI : Nat → Nat → Nat) (cI cL cD : ClassId) (a0 a1 a2 a3 : Nat) (sz : Nat) (p1 : Int32) (u : S_Line) (res : Int32 × S_Line) (hf : f_Line_endsWith p1 u = some res) : Met l y_Line_endsWith w_Line_endsWith ({ frames := 1, cells := 0, slots := 0, locals := 21 }) (va_Pc [.ref a0, .int p1] (fun U => U.heap.size = sz ∧ va_P (dC, dI) CL [(a0, .inr (2, [.ref a1, .ref a2, .ref a3, .int u.2.2.2.1, .int u.2.2.2.2.1, .int u.2.2.2.2.2.1, .int u.2.2.2.2.2.2])), (a1, .inl (cI, 12, .inl (u.1))), (a2, .inl (cI, 11, .inl (u.2.1))), (a3, .inl (cI, 24, .inl (u.2.2.1)))] U.heap ∧ va_K (dC, dI) CL [(cI, .int), (cL, .long), (cD, .double)] U ∧ va_D (fun _ => True) [(a0, .inr (2, [.ref a1, .ref a2, .ref a3, .int u.2.2.2.1, .int u.2.2.2.2.1, .int u.2.2.2.2.2.1, .int u.2.2.2.2.2.2])), (a1, .inl (cI, 12, .inl (u.1))), (a2, .inl (cI, 11, .inl (u.2.1))), (a3, .inl (cI, 24, .inl (u.2.2.1)))] ∧ NWs U)) (va_Qi (fun (r : Int32) (w : S_Line) => r = res.1 ∧ w = res.2) (fun (w : S_Line) t => va_P (dC, dI) CL [(a0, .inr (2, [.ref a1, .ref a2, .ref a3, .int w.2.2.2.1, .int w.2.2.2.2.1, .int w.2.2.2.2.2.1, .int w.2.2.2.2.2.2])), (a1, .inl (cI, 12, .inl (w.1))), (a2, .inl (cI, 11, .inl (w.2.1))), (a3, .inl (cI, 24, .inl (w.2.2.1)))] t.heap ∧ va_K (dC, dI) CL [(cI, .int), (cL, .long), (cD, .double)] t ∧ va_D (va_A [(a0, .inr (2, [.ref a1, .ref a2, .ref a3, .int u.2.2.2.1, .int u.2.2.2.2.1, .int u.2.2.2.2.2.1, .int u.2.2.2.2.2.2])), (a1, .inl (cI, 12, .inl (u.1))), (a2, .inl (cI, 11, .inl (u.2.1))), (a3, .inl (cI, 24, .inl (u.2.2.1)))] sz) [(a0, .inr (2, [.ref a1, .ref a2, .ref a3, .int w.2.2.2.1, .int w.2.2.2.2.1, .int w.2.2.2.2.2.1, .int w.2.2.2.2.2.2])), (a1, .inl (cI, 12, .inl (w.1))), (a2, .inl (cI, 11, .inl (w.2.1))), (a3, .inl (cI, 24, .inl (w.2.2.1)))]) (va_A [(a0, .inr (2, [.ref a1, .ref a2, .ref a3, .int u.2.2.2.1, .int u.2.2.2.2.1, .int u.2.2.2.2.2.1, .int u.2.2.2.2.2.2])), (a1, .inl (cI, 12, .inl (u.1))), (a2, .inl (cI, 11, .inl (u.2.1))), (a3, .inl (cI, 24, .inl (u.2.2.1)))] sz)) 0 0 (va_A [(a0, .inr (2, [.ref a1, .ref a2, .ref a3, .int u.2.2.2.1, .int u.2.2.2.2.1, .int u.2.2.2.2.2.1, .int u.2.2.2.2.2.2])), (a1, .inl (cI, 12, .inl (u.1))), (a2, .inl (cI, 11, .inl (u.2.1))), (a3, .inl (cI, 24, .inl (u.2.2.1)))] sz) := by
  refine Met.ofW (cc := b_Line_endsWith) (maxL := 2) (ret := (some .boolean)) (by decide) rfl ?_
  intro p e s m args below meth c s₁ B hml hv
  obtain ⟨rfl, hsz, hP, hK, hD0, hN⟩ := hv
  have hx := B.exec
  have hb := B.bytes
  have hr := B.returns
  have hts : ∀ w ∈ TB, w.before _ s = true := fun w h => atoms_spec (ws := w_Line_endsWith) B.pre w (List.mem_cons_of_mem _ h)
  have hown : s.vm.findClass R_Line = some m.cls := findClass_of_methodNamed B.named
  have hlocks := B.notSynchronized
  subst hsz
  have hD := hD0.self (sz := s.heap.size)
  generalize hAe : va_A [(a0, .inr (2, [.ref a1, .ref a2, .ref a3, .int u.2.2.2.1, .int u.2.2.2.2.1, .int u.2.2.2.2.2.1, .int u.2.2.2.2.2.2])), (a1, .inl (cI, 12, .inl (u.1))), (a2, .inl (cI, 11, .inl (u.2.1))), (a3, .inl (cI, 24, .inl (u.2.2.1)))] s.heap.size = A at hD ⊢
  have hA : ∀ q : Nat, s.heap.size ≤ q → A q := fun q h => by rw [← hAe]; exact Or.inr h
  have hS : va_S A s.heap s.heap [] := va_S.rf
  have hl := lv_entry ([.ref a0, .int p1]) (n := 2) (Nat.le_of_ble_eq_true rfl)
  rw [lg_entry_eq]
  generalize (lg_sl ([.ref a0, .int p1]) ++ List.replicate (2 - (lg_sl ([.ref a0, .int p1])).length) Slot.unset).toArray = ls at hl ⊢
  have hl : lv_has ls 2 [(0, .ref a0), (1, .int p1)] := hl
  refine nameQ (fun Q hQe => ?_)
  have k_90 : ∀ (s1 : Int32) (u : S_Line), f_Line_endsWith_90 s1 u = some res → ∀ (H : Heap) (locs : List Loc), va_P (dC, dI) CL [(a0, .inr (2, [.ref a1, .ref a2, .ref a3, .int u.2.2.2.1, .int u.2.2.2.2.1, .int u.2.2.2.2.2.1, .int u.2.2.2.2.2.2])), (a1, .inl (cI, 12, .inl (u.1))), (a2, .inl (cI, 11, .inl (u.2.1))), (a3, .inl (cI, 24, .inl (u.2.2.1)))] H → va_D A [(a0, .inr (2, [.ref a1, .ref a2, .ref a3, .int u.2.2.2.1, .int u.2.2.2.2.1, .int u.2.2.2.2.2.1, .int u.2.2.2.2.2.2])), (a1, .inl (cI, 12, .inl (u.1))), (a2, .inl (cI, 11, .inl (u.2.1))), (a3, .inl (cI, 24, .inl (u.2.2.1)))] → va_S A s.heap H locs → ∀ (ls : Array Slot), lv_has ls 2 [(0, .ref a0)] → W p l e (headSpec w_Line_endsWith ({ frames := 1, cells := 0, slots := 0, locals := 21 })).room s m ([.ref a0, .int p1] : List Value).toArray below meth c H locs 0 0 Q (F0 m 90 ls [.int s1, .ref a0]) := by
    intro s1 u hf H locs hP hD hS ls hl
    rw [f_Line_endsWith_90] at hf
    obtain ⟨h10, hf⟩ := gb_t hf
    refine va_put (D := (dC, dI)) (ci := 2) (v := .int s1) (ty := .boolean) (C := R_Line) (T := T_Line) (N := 7) hx hb hts in_Line ty_Line ty_Line_ok nm_Line hown hK hP hD hS 0 rfl rfl 5 (by decide) (hts _ t_179) (fun _ h9 => h9) rfl (by decide +kernel) (nb_t h10) (fb_t h10) (Nat.le_of_ble_eq_true rfl) d_Line_endsWith_90 (fun H locs hP hD hS => ?_)
    have hP : va_P (dC, dI) CL [(a0, .inr (2, [.ref a1, .ref a2, .ref a3, .int u.2.2.2.1, .int u.2.2.2.2.1, .int s1, .int u.2.2.2.2.2.2])), (a1, .inl (cI, 12, .inl (u.1))), (a2, .inl (cI, 11, .inl (u.2.1))), (a3, .inl (cI, 24, .inl (u.2.2.1)))] H := hP
    have hD : va_D A [(a0, .inr (2, [.ref a1, .ref a2, .ref a3, .int u.2.2.2.1, .int u.2.2.2.2.1, .int s1, .int u.2.2.2.2.2.2])), (a1, .inl (cI, 12, .inl (u.1))), (a2, .inl (cI, 11, .inl (u.2.1))), (a3, .inl (cI, 24, .inl (u.2.2.1)))] := hD
    refine lv_aload_n hx hb d_Line_endsWith_93 rfl (lv_at hl 0 rfl) ?_
    refine va_get (D := (dC, dI)) (ci := 2) (v := .int s1) (C := R_Line) (T := T_Line) (N := 7) hx hb hts in_Line hown hK hP 0 rfl rfl 5 (by decide) (hts _ t_179) (fun _ h9 => h9) rfl d_Line_endsWith_94 ?_
    refine lv_if_ne (tgt := 104) hx hb d_Line_endsWith_97 (by decide) (fun c11 => ?_) (fun c11 => ?_)
    · have hf := ite_f c11 hf
      refine lv_iconst (v := 0) hx hb d_Line_endsWith_104 (by decide) ?_
      have hf := Option.some.inj hf
      rw [hQe]
      exact W.zret (v := (0 : Int32)) hx hb hr (by decide) (fun t ht hW => ⟨⟨(0 : Int32), (u.1, u.2.1, u.2.2.1, u.2.2.2.1, u.2.2.2.2.1, s1, u.2.2.2.2.2.2), rfl, ⟨congrArg Prod.fst hf, congrArg Prod.snd hf⟩, by rw [ht]; exact hP, va_K.moved hW.alike hK, hD⟩, hS.F ht⟩) hS.2.2 d_Line_endsWith_105
    · have hf := ite_t c11 hf
      refine lv_iconst (v := 1) hx hb d_Line_endsWith_100 (by decide) ?_
      refine lv_goto (tgt := 105) hx hb d_Line_endsWith_101 (by decide) ?_
      have hf := Option.some.inj hf
      rw [hQe]
      exact W.zret (v := (1 : Int32)) hx hb hr (by decide) (fun t ht hW => ⟨⟨(1 : Int32), (u.1, u.2.1, u.2.2.1, u.2.2.2.1, u.2.2.2.2.1, s1, u.2.2.2.2.2.2), rfl, ⟨congrArg Prod.fst hf, congrArg Prod.snd hf⟩, by rw [ht]; exact hP, va_K.moved hW.alike hK, hD⟩, hS.F ht⟩) hS.2.2 d_Line_endsWith_105
  rw [f_Line_endsWith] at hf
  refine lv_aload_n hx hb d_Line_endsWith_0 rfl (lv_at hl 0 rfl) ?_
  refine va_get (D := (dC, dI)) (ci := 2) (v := .int u.2.2.2.2.2.1) (C := R_Line) (T := T_Line) (N := 7) hx hb hts in_Line hown hK hP 0 rfl rfl 5 (by decide) (hts _ t_179) (fun _ h9 => h9) rfl d_Line_endsWith_1 ?_
  refine lv_if_ne (tgt := 29) hx hb d_Line_endsWith_4 (by decide) (fun c1 => ?_) (fun c1 => ?_)
  · have hf := ite_f c1 hf
    refine lv_aload_n hx hb d_Line_endsWith_29 rfl (lv_at hl 0 rfl) ?_
    refine va_get (D := (dC, dI)) (ci := 2) (v := .int u.2.2.2.2.2.2) (C := R_Line) (T := T_Line) (N := 7) hx hb hts in_Line hown hK hP 0 rfl rfl 6 (by decide) (hts _ t_180) (fun _ h9 => h9) rfl d_Line_endsWith_30 ?_
    refine lv_if_eq (tgt := 51) hx hb d_Line_endsWith_33 (by decide) (fun c2 => ?_) (fun c2 => ?_)
    · have hf := ite_t c2 hf
      refine lv_iload_n hx hb d_Line_endsWith_51 rfl (lv_at hl 1 rfl) ?_
      refine lv_bipush (v := 125) hx hb d_Line_endsWith_52 (by decide) ?_
      refine lv_icmp_ne (tgt := 64) hx hb d_Line_endsWith_54 (by decide) (fun c3 => ?_) (fun c3 => ?_)
      · have hf := ite_f c3 hf
        refine lv_iload_n hx hb d_Line_endsWith_64 rfl (lv_at hl 1 rfl) ?_
        refine lv_bipush (v := 126) hx hb d_Line_endsWith_65 (by decide) ?_
        refine lv_icmp_eq (tgt := 77) hx hb d_Line_endsWith_67 (by decide) (fun c4 => ?_) (fun c4 => ?_)
        · have hf := ite_t c4 hf
          refine lv_aload_n hx hb d_Line_endsWith_77 rfl (lv_at hl 0 rfl) ?_
          refine lv_aload_n hx hb d_Line_endsWith_78 rfl (lv_at hl 0 rfl) ?_
          refine va_get (D := (dC, dI)) (ci := 2) (v := .int u.2.2.2.1) (C := R_Line) (T := T_Line) (N := 7) hx hb hts in_Line hown hK hP 0 rfl rfl 3 (by decide) (hts _ t_176) (fun _ h9 => h9) rfl d_Line_endsWith_79 ?_
          refine lv_if_ne (tgt := 89) hx hb d_Line_endsWith_82 (by decide) (fun c5 => ?_) (fun c5 => ?_)
          · have hf := ite_f c5 hf
            refine lv_iconst (v := 0) hx hb d_Line_endsWith_89 (by decide) ?_
            have hl := lv_sub hl (l' := [(0, .ref a0)]) [0] rfl
            exact k_90 (0 : Int32) u hf _ _ hP hD hS ls hl
          · have hf := ite_t c5 hf
            refine lv_iconst (v := 1) hx hb d_Line_endsWith_85 (by decide) ?_
            refine lv_goto (tgt := 90) hx hb d_Line_endsWith_86 (by decide) ?_
            have hl := lv_sub hl (l' := [(0, .ref a0)]) [0] rfl
            exact k_90 (1 : Int32) u hf _ _ hP hD hS ls hl
        · have hf := ite_f c4 hf
          refine lv_aload_n hx hb d_Line_endsWith_70 rfl (lv_at hl 0 rfl) ?_
          refine lv_iload_n hx hb d_Line_endsWith_71 rfl (lv_at hl 1 rfl) ?_
          obtain ⟨w6, hc, hf⟩ := cv_t hf
          have hPc := hP.sub (ws' := [(a0, .inr (2, [.ref a1, .ref a2, .ref a3, .int u.2.2.2.1, .int u.2.2.2.2.1, .int u.2.2.2.2.2.1, .int u.2.2.2.2.2.2])), (a1, .inl (cI, 12, .inl (u.1))), (a2, .inl (cI, 11, .inl (u.2.1))), (a3, .inl (cI, 24, .inl (u.2.2.1)))]) [0, 1, 2, 3] rfl
          have hDc := hD.sub (ws' := [(a0, .inr (2, [.ref a1, .ref a2, .ref a3, .int u.2.2.2.1, .int u.2.2.2.2.1, .int u.2.2.2.2.2.1, .int u.2.2.2.2.2.2])), (a1, .inl (cI, 12, .inl (u.1))), (a2, .inl (cI, 11, .inl (u.2.1))), (a3, .inl (cI, 24, .inl (u.2.2.1)))]) [0, 1, 2, 3] (by decide) rfl
          have hFc := va_free (wc := [(a0, .inr (2, [.ref a1, .ref a2, .ref a3, .int u.2.2.2.1, .int u.2.2.2.2.1, .int u.2.2.2.2.2.1, .int u.2.2.2.2.2.2])), (a1, .inl (cI, 12, .inl (u.1))), (a2, .inl (cI, 11, .inl (u.2.1))), (a3, .inl (cI, 24, .inl (u.2.2.1)))]) hD hS hA [0, 1, 2, 3] rfl
          refine va_callv (va_runV (As := [.int p1]) (rest := []) ⟨hx, hb, hml, hown, hts⟩ (c_Line_keepByte l dC dI cI cL cD a0 a1 a2 a3 s.heap.size p1 u w6 hc) (cwV 1 hts (gV t_585 t_587 t_12 t_44 t_588) rfl rfl rfl (by decide +kernel) ⟨(Nat.le_of_ble_eq_true rfl), (Nat.le_of_ble_eq_true rfl)⟩) ⟨fun a U g mk q => by obtain ⟨q0, q1, qP, qK, qD, qN⟩ := q; exact ⟨q0, q1, qP, va_K.moved (u := U) (U := U.calling g mk a) (Vm.Alike.refl U.vm) qK, qD, NWs.same (u := U) (U := U.calling g mk a) rfl qN⟩, va_recv hK hPc (ci := 2) (q0 := 0) rfl rfl, fun U hU hW => ⟨rfl, by rw [hU], by rw [hU]; exact hPc, va_K.moved hW.alike hK, hDc.weaken (fun _ _ _ _ => trivial), hN.warm hW⟩⟩ rfl rfl hl.1 rfl (lv_room (Nat.le_of_ble_eq_true rfl)) d_Line_endsWith_72 ⟨(Nat.le_of_ble_eq_true rfl), (Nat.le_of_ble_eq_true rfl)⟩) hS (fun q _ h => hFc q h) hFc (fun wZ t H1 locs ht hvm hw hB hz1 hk1 hS => ?_)
          replace hw : w6 = wZ := hw.symm
          subst hw
          obtain ⟨hP1, hK1, hD1⟩ := hB
          rw [ht] at hP1
          obtain ⟨hP, hD⟩ := va_join (wr := []) (w1 := [(a0, .inr (2, [.ref a1, .ref a2, .ref a3, .int w6.2.2.2.1, .int w6.2.2.2.2.1, .int w6.2.2.2.2.2.1, .int w6.2.2.2.2.2.2])), (a1, .inl (cI, 12, .inl (w6.1))), (a2, .inl (cI, 11, .inl (w6.2.1))), (a3, .inl (cI, 24, .inl (w6.2.2.1)))]) hP hD [0, 1, 2, 3] [] rfl rfl (by decide) (by decide) hk1 hFc hP1 hD1
          generalize H1 = H at hP hS ⊢
          have hP := hP.sub (ws' := [(a0, .inr (2, [.ref a1, .ref a2, .ref a3, .int w6.2.2.2.1, .int w6.2.2.2.2.1, .int w6.2.2.2.2.2.1, .int w6.2.2.2.2.2.2])), (a1, .inl (cI, 12, .inl (w6.1))), (a2, .inl (cI, 11, .inl (w6.2.1))), (a3, .inl (cI, 24, .inl (w6.2.2.1)))]) [0, 1, 2, 3] rfl
          have hD := hD.sub (ws' := [(a0, .inr (2, [.ref a1, .ref a2, .ref a3, .int w6.2.2.2.1, .int w6.2.2.2.2.1, .int w6.2.2.2.2.2.1, .int w6.2.2.2.2.2.2])), (a1, .inl (cI, 12, .inl (w6.1))), (a2, .inl (cI, 11, .inl (w6.2.1))), (a3, .inl (cI, 24, .inl (w6.2.2.1)))]) [0, 1, 2, 3] (by decide) rfl
          refine lv_iconst (v := 0) hx hb d_Line_endsWith_75 (by decide) ?_
          have hf := Option.some.inj hf
          rw [hQe]
          exact W.zret (v := (0 : Int32)) hx hb hr (by decide) (fun t ht hW => ⟨⟨(0 : Int32), w6, rfl, ⟨congrArg Prod.fst hf, congrArg Prod.snd hf⟩, by rw [ht]; exact hP, va_K.moved hW.alike hK, hD⟩, hS.F ht⟩) hS.2.2 d_Line_endsWith_76
      · have hf := ite_t c3 hf
        refine lv_aload_n hx hb d_Line_endsWith_57 rfl (lv_at hl 0 rfl) ?_
        refine lv_iconst (v := 1) hx hb d_Line_endsWith_58 (by decide) ?_
        refine va_put (D := (dC, dI)) (ci := 2) (v := .int (1 : Int32)) (ty := .boolean) (C := R_Line) (T := T_Line) (N := 7) hx hb hts in_Line ty_Line ty_Line_ok nm_Line hown hK hP hD hS 0 rfl rfl 6 (by decide) (hts _ t_180) (fun _ h9 => h9) rfl (by decide +kernel) (by decide) (by decide) (Nat.le_of_ble_eq_true rfl) d_Line_endsWith_59 (fun H locs hP hD hS => ?_)
        have hP : va_P (dC, dI) CL [(a0, .inr (2, [.ref a1, .ref a2, .ref a3, .int u.2.2.2.1, .int u.2.2.2.2.1, .int u.2.2.2.2.2.1, .int (1 : Int32)])), (a1, .inl (cI, 12, .inl (u.1))), (a2, .inl (cI, 11, .inl (u.2.1))), (a3, .inl (cI, 24, .inl (u.2.2.1)))] H := hP
        have hD : va_D A [(a0, .inr (2, [.ref a1, .ref a2, .ref a3, .int u.2.2.2.1, .int u.2.2.2.2.1, .int u.2.2.2.2.2.1, .int (1 : Int32)])), (a1, .inl (cI, 12, .inl (u.1))), (a2, .inl (cI, 11, .inl (u.2.1))), (a3, .inl (cI, 24, .inl (u.2.2.1)))] := hD
        refine lv_iconst (v := 0) hx hb d_Line_endsWith_62 (by decide) ?_
        have hf := Option.some.inj hf
        rw [hQe]
        exact W.zret (v := (0 : Int32)) hx hb hr (by decide) (fun t ht hW => ⟨⟨(0 : Int32), (u.1, u.2.1, u.2.2.1, u.2.2.2.1, u.2.2.2.2.1, u.2.2.2.2.2.1, (1 : Int32)), rfl, ⟨congrArg Prod.fst hf, congrArg Prod.snd hf⟩, by rw [ht]; exact hP, va_K.moved hW.alike hK, hD⟩, hS.F ht⟩) hS.2.2 d_Line_endsWith_63
    · have hf := ite_f c2 hf
      refine lv_aload_n hx hb d_Line_endsWith_36 rfl (lv_at hl 0 rfl) ?_
      refine lv_iconst (v := 0) hx hb d_Line_endsWith_37 (by decide) ?_
      refine va_put (D := (dC, dI)) (ci := 2) (v := .int (0 : Int32)) (ty := .boolean) (C := R_Line) (T := T_Line) (N := 7) hx hb hts in_Line ty_Line ty_Line_ok nm_Line hown hK hP hD hS 0 rfl rfl 6 (by decide) (hts _ t_180) (fun _ h9 => h9) rfl (by decide +kernel) (by decide) (by decide) (Nat.le_of_ble_eq_true rfl) d_Line_endsWith_38 (fun H locs hP hD hS => ?_)
      have hP : va_P (dC, dI) CL [(a0, .inr (2, [.ref a1, .ref a2, .ref a3, .int u.2.2.2.1, .int u.2.2.2.2.1, .int u.2.2.2.2.2.1, .int (0 : Int32)])), (a1, .inl (cI, 12, .inl (u.1))), (a2, .inl (cI, 11, .inl (u.2.1))), (a3, .inl (cI, 24, .inl (u.2.2.1)))] H := hP
      have hD : va_D A [(a0, .inr (2, [.ref a1, .ref a2, .ref a3, .int u.2.2.2.1, .int u.2.2.2.2.1, .int u.2.2.2.2.2.1, .int (0 : Int32)])), (a1, .inl (cI, 12, .inl (u.1))), (a2, .inl (cI, 11, .inl (u.2.1))), (a3, .inl (cI, 24, .inl (u.2.2.1)))] := hD
      refine lv_aload_n hx hb d_Line_endsWith_41 rfl (lv_at hl 0 rfl) ?_
      refine lv_iload_n hx hb d_Line_endsWith_42 rfl (lv_at hl 1 rfl) ?_
      refine lv_bipush (v := 32) hx hb d_Line_endsWith_43 (by decide) ?_
      refine lv_ixor hx hb d_Line_endsWith_45 ?_
      refine lv_topi (fun x7 ex7 => ?_)
      have hf := bd_t ex7 hf
      obtain ⟨w8, hc, hf⟩ := cv_t hf
      have hPc := hP.sub (ws' := [(a0, .inr (2, [.ref a1, .ref a2, .ref a3, .int u.2.2.2.1, .int u.2.2.2.2.1, .int u.2.2.2.2.2.1, .int (0 : Int32)])), (a1, .inl (cI, 12, .inl (u.1))), (a2, .inl (cI, 11, .inl (u.2.1))), (a3, .inl (cI, 24, .inl (u.2.2.1)))]) [0, 1, 2, 3] rfl
      have hDc := hD.sub (ws' := [(a0, .inr (2, [.ref a1, .ref a2, .ref a3, .int u.2.2.2.1, .int u.2.2.2.2.1, .int u.2.2.2.2.2.1, .int (0 : Int32)])), (a1, .inl (cI, 12, .inl (u.1))), (a2, .inl (cI, 11, .inl (u.2.1))), (a3, .inl (cI, 24, .inl (u.2.2.1)))]) [0, 1, 2, 3] (by decide) rfl
      have hFc := va_free (wc := [(a0, .inr (2, [.ref a1, .ref a2, .ref a3, .int u.2.2.2.1, .int u.2.2.2.2.1, .int u.2.2.2.2.2.1, .int (0 : Int32)])), (a1, .inl (cI, 12, .inl (u.1))), (a2, .inl (cI, 11, .inl (u.2.1))), (a3, .inl (cI, 24, .inl (u.2.2.1)))]) hD hS hA [0, 1, 2, 3] rfl
      refine va_callv (va_runV (As := [.int x7]) (rest := []) ⟨hx, hb, hml, hown, hts⟩ (c_Line_keepByte l dC dI cI cL cD a0 a1 a2 a3 H.size x7 (u.1, u.2.1, u.2.2.1, u.2.2.2.1, u.2.2.2.2.1, u.2.2.2.2.2.1, (0 : Int32)) w8 hc) (cwV 1 hts (gV t_585 t_587 t_12 t_44 t_588) rfl rfl rfl (by decide +kernel) ⟨(Nat.le_of_ble_eq_true rfl), (Nat.le_of_ble_eq_true rfl)⟩) ⟨fun a U g mk q => by obtain ⟨q0, q1, qP, qK, qD, qN⟩ := q; exact ⟨q0, q1, qP, va_K.moved (u := U) (U := U.calling g mk a) (Vm.Alike.refl U.vm) qK, qD, NWs.same (u := U) (U := U.calling g mk a) rfl qN⟩, va_recv hK hPc (ci := 2) (q0 := 0) rfl rfl, fun U hU hW => ⟨rfl, by rw [hU], by rw [hU]; exact hPc, va_K.moved hW.alike hK, hDc.weaken (fun _ _ _ _ => trivial), hN.warm hW⟩⟩ rfl rfl hl.1 rfl (lv_room (Nat.le_of_ble_eq_true rfl)) d_Line_endsWith_46 ⟨(Nat.le_of_ble_eq_true rfl), (Nat.le_of_ble_eq_true rfl)⟩) hS (fun q _ h => hFc q h) hFc (fun wZ t H1 locs ht hvm hw hB hz1 hk1 hS => ?_)
      replace hw : w8 = wZ := hw.symm
      subst hw
      obtain ⟨hP1, hK1, hD1⟩ := hB
      rw [ht] at hP1
      obtain ⟨hP, hD⟩ := va_join (wr := []) (w1 := [(a0, .inr (2, [.ref a1, .ref a2, .ref a3, .int w8.2.2.2.1, .int w8.2.2.2.2.1, .int w8.2.2.2.2.2.1, .int w8.2.2.2.2.2.2])), (a1, .inl (cI, 12, .inl (w8.1))), (a2, .inl (cI, 11, .inl (w8.2.1))), (a3, .inl (cI, 24, .inl (w8.2.2.1)))]) hP hD [0, 1, 2, 3] [] rfl rfl (by decide) (by decide) hk1 hFc hP1 hD1
      generalize H1 = H at hP hS ⊢
      have hP := hP.sub (ws' := [(a0, .inr (2, [.ref a1, .ref a2, .ref a3, .int w8.2.2.2.1, .int w8.2.2.2.2.1, .int w8.2.2.2.2.2.1, .int w8.2.2.2.2.2.2])), (a1, .inl (cI, 12, .inl (w8.1))), (a2, .inl (cI, 11, .inl (w8.2.1))), (a3, .inl (cI, 24, .inl (w8.2.2.1)))]) [0, 1, 2, 3] rfl
      have hD := hD.sub (ws' := [(a0, .inr (2, [.ref a1, .ref a2, .ref a3, .int w8.2.2.2.1, .int w8.2.2.2.2.1, .int w8.2.2.2.2.2.1, .int w8.2.2.2.2.2.2])), (a1, .inl (cI, 12, .inl (w8.1))), (a2, .inl (cI, 11, .inl (w8.2.1))), (a3, .inl (cI, 24, .inl (w8.2.2.1)))]) [0, 1, 2, 3] (by decide) rfl
      refine lv_iconst (v := 0) hx hb d_Line_endsWith_49 (by decide) ?_
      have hf := Option.some.inj hf
      rw [hQe]
      exact W.zret (v := (0 : Int32)) hx hb hr (by decide) (fun t ht hW => ⟨⟨(0 : Int32), w8, rfl, ⟨congrArg Prod.fst hf, congrArg Prod.snd hf⟩, by rw [ht]; exact hP, va_K.moved hW.alike hK, hD⟩, hS.F ht⟩) hS.2.2 d_Line_endsWith_50
  · have hf := ite_t c1 hf
    refine lv_aload_n hx hb d_Line_endsWith_7 rfl (lv_at hl 0 rfl) ?_
    refine lv_iload_n hx hb d_Line_endsWith_8 rfl (lv_at hl 1 rfl) ?_
    refine lv_bipush (v := 126) hx hb d_Line_endsWith_9 (by decide) ?_
    refine lv_icmp_ne (tgt := 18) hx hb d_Line_endsWith_11 (by decide) (fun c9 => ?_) (fun c9 => ?_)
    · have hf := ite_f c9 hf
      refine lv_iconst (v := 0) hx hb d_Line_endsWith_18 (by decide) ?_
      refine va_put (D := (dC, dI)) (ci := 2) (v := .int (0 : Int32)) (ty := .boolean) (C := R_Line) (T := T_Line) (N := 7) hx hb hts in_Line ty_Line ty_Line_ok nm_Line hown hK hP hD hS 0 rfl rfl 5 (by decide) (hts _ t_179) (fun _ h9 => h9) rfl (by decide +kernel) (by decide) (by decide) (Nat.le_of_ble_eq_true rfl) d_Line_endsWith_19 (fun H locs hP hD hS => ?_)
      have hP : va_P (dC, dI) CL [(a0, .inr (2, [.ref a1, .ref a2, .ref a3, .int u.2.2.2.1, .int u.2.2.2.2.1, .int (0 : Int32), .int u.2.2.2.2.2.2])), (a1, .inl (cI, 12, .inl (u.1))), (a2, .inl (cI, 11, .inl (u.2.1))), (a3, .inl (cI, 24, .inl (u.2.2.1)))] H := hP
      have hD : va_D A [(a0, .inr (2, [.ref a1, .ref a2, .ref a3, .int u.2.2.2.1, .int u.2.2.2.2.1, .int (0 : Int32), .int u.2.2.2.2.2.2])), (a1, .inl (cI, 12, .inl (u.1))), (a2, .inl (cI, 11, .inl (u.2.1))), (a3, .inl (cI, 24, .inl (u.2.2.1)))] := hD
      refine lv_aload_n hx hb d_Line_endsWith_22 rfl (lv_at hl 0 rfl) ?_
      refine lv_iconst (v := 0) hx hb d_Line_endsWith_23 (by decide) ?_
      refine va_put (D := (dC, dI)) (ci := 2) (v := .int (0 : Int32)) (ty := .int) (C := R_Line) (T := T_Line) (N := 7) hx hb hts in_Line ty_Line ty_Line_ok nm_Line hown hK hP hD hS 0 rfl rfl 3 (by decide) (hts _ t_176) (fun _ h9 => h9) rfl (by decide +kernel) rfl rfl (Nat.le_of_ble_eq_true rfl) d_Line_endsWith_24 (fun H locs hP hD hS => ?_)
      have hP : va_P (dC, dI) CL [(a0, .inr (2, [.ref a1, .ref a2, .ref a3, .int (0 : Int32), .int u.2.2.2.2.1, .int (0 : Int32), .int u.2.2.2.2.2.2])), (a1, .inl (cI, 12, .inl (u.1))), (a2, .inl (cI, 11, .inl (u.2.1))), (a3, .inl (cI, 24, .inl (u.2.2.1)))] H := hP
      have hD : va_D A [(a0, .inr (2, [.ref a1, .ref a2, .ref a3, .int (0 : Int32), .int u.2.2.2.2.1, .int (0 : Int32), .int u.2.2.2.2.2.2])), (a1, .inl (cI, 12, .inl (u.1))), (a2, .inl (cI, 11, .inl (u.2.1))), (a3, .inl (cI, 24, .inl (u.2.2.1)))] := hD
      refine lv_iconst (v := 0) hx hb d_Line_endsWith_27 (by decide) ?_
      have hf := Option.some.inj hf
      rw [hQe]
      exact W.zret (v := (0 : Int32)) hx hb hr (by decide) (fun t ht hW => ⟨⟨(0 : Int32), (u.1, u.2.1, u.2.2.1, (0 : Int32), u.2.2.2.2.1, (0 : Int32), u.2.2.2.2.2.2), rfl, ⟨congrArg Prod.fst hf, congrArg Prod.snd hf⟩, by rw [ht]; exact hP, va_K.moved hW.alike hK, hD⟩, hS.F ht⟩) hS.2.2 d_Line_endsWith_28
    · have hf := ite_t c9 hf
      refine lv_iconst (v := 1) hx hb d_Line_endsWith_14 (by decide) ?_
      refine lv_goto (tgt := 19) hx hb d_Line_endsWith_15 (by decide) ?_
      refine va_put (D := (dC, dI)) (ci := 2) (v := .int (1 : Int32)) (ty := .boolean) (C := R_Line) (T := T_Line) (N := 7) hx hb hts in_Line ty_Line ty_Line_ok nm_Line hown hK hP hD hS 0 rfl rfl 5 (by decide) (hts _ t_179) (fun _ h9 => h9) rfl (by decide +kernel) (by decide) (by decide) (Nat.le_of_ble_eq_true rfl) d_Line_endsWith_19 (fun H locs hP hD hS => ?_)
      have hP : va_P (dC, dI) CL [(a0, .inr (2, [.ref a1, .ref a2, .ref a3, .int u.2.2.2.1, .int u.2.2.2.2.1, .int (1 : Int32), .int u.2.2.2.2.2.2])), (a1, .inl (cI, 12, .inl (u.1))), (a2, .inl (cI, 11, .inl (u.2.1))), (a3, .inl (cI, 24, .inl (u.2.2.1)))] H := hP
      have hD : va_D A [(a0, .inr (2, [.ref a1, .ref a2, .ref a3, .int u.2.2.2.1, .int u.2.2.2.2.1, .int (1 : Int32), .int u.2.2.2.2.2.2])), (a1, .inl (cI, 12, .inl (u.1))), (a2, .inl (cI, 11, .inl (u.2.1))), (a3, .inl (cI, 24, .inl (u.2.2.1)))] := hD
      refine lv_aload_n hx hb d_Line_endsWith_22 rfl (lv_at hl 0 rfl) ?_
      refine lv_iconst (v := 0) hx hb d_Line_endsWith_23 (by decide) ?_
      refine va_put (D := (dC, dI)) (ci := 2) (v := .int (0 : Int32)) (ty := .int) (C := R_Line) (T := T_Line) (N := 7) hx hb hts in_Line ty_Line ty_Line_ok nm_Line hown hK hP hD hS 0 rfl rfl 3 (by decide) (hts _ t_176) (fun _ h9 => h9) rfl (by decide +kernel) rfl rfl (Nat.le_of_ble_eq_true rfl) d_Line_endsWith_24 (fun H locs hP hD hS => ?_)
      have hP : va_P (dC, dI) CL [(a0, .inr (2, [.ref a1, .ref a2, .ref a3, .int (0 : Int32), .int u.2.2.2.2.1, .int (1 : Int32), .int u.2.2.2.2.2.2])), (a1, .inl (cI, 12, .inl (u.1))), (a2, .inl (cI, 11, .inl (u.2.1))), (a3, .inl (cI, 24, .inl (u.2.2.1)))] H := hP
      have hD : va_D A [(a0, .inr (2, [.ref a1, .ref a2, .ref a3, .int (0 : Int32), .int u.2.2.2.2.1, .int (1 : Int32), .int u.2.2.2.2.2.2])), (a1, .inl (cI, 12, .inl (u.1))), (a2, .inl (cI, 11, .inl (u.2.1))), (a3, .inl (cI, 24, .inl (u.2.2.1)))] := hD
      refine lv_iconst (v := 0) hx hb d_Line_endsWith_27 (by decide) ?_
      have hf := Option.some.inj hf
      rw [hQe]
      exact W.zret (v := (0 : Int32)) hx hb hr (by decide) (fun t ht hW => ⟨⟨(0 : Int32), (u.1, u.2.1, u.2.2.1, (0 : Int32), u.2.2.2.2.1, (1 : Int32), u.2.2.2.2.2.2), rfl, ⟨congrArg Prod.fst hf, congrArg Prod.snd hf⟩, by rw [ht]; exact hP, va_K.moved hW.alike hK, hD⟩, hS.F ht⟩) hS.2.2 d_Line_endsWith_28
def f_Line_isLengthRight (u : S_Line) : Option (Int32 × S_Line) := (if u.2.2.2.1 < (4 : Int32) then some ((0 : Int32), u) else (if (12 : Int32) < u.2.2.2.1 then some ((0 : Int32), u) else some ((1 : Int32), u)))
set_option maxHeartbeats 4000000 in
set_option maxRecDepth 100000 in
theorem c_Line_isLengthRight (l : Launch) (dC : Nat → ClassId) (dI : Nat → Nat → Nat) (cI cL cD : ClassId) (a0 a1 a2 a3 : Nat) (sz : Nat) (u : S_Line) (res : Int32 × S_Line) (hf : f_Line_isLengthRight u = some res) : Met l y_Line_isLengthRight w_Line_isLengthRight ({ frames := 0, cells := 0, slots := 0, locals := 0 }) (va_Pc [.ref a0] (fun U => U.heap.size = sz ∧ va_P (dC, dI) CL [(a0, .inr (2, [.ref a1, .ref a2, .ref a3, .int u.2.2.2.1, .int u.2.2.2.2.1, .int u.2.2.2.2.2.1, .int u.2.2.2.2.2.2])), (a1, .inl (cI, 12, .inl (u.1))), (a2, .inl (cI, 11, .inl (u.2.1))), (a3, .inl (cI, 24, .inl (u.2.2.1)))] U.heap ∧ va_K (dC, dI) CL [(cI, .int), (cL, .long), (cD, .double)] U ∧ va_D (fun _ => True) [(a0, .inr (2, [.ref a1, .ref a2, .ref a3, .int u.2.2.2.1, .int u.2.2.2.2.1, .int u.2.2.2.2.2.1, .int u.2.2.2.2.2.2])), (a1, .inl (cI, 12, .inl (u.1))), (a2, .inl (cI, 11, .inl (u.2.1))), (a3, .inl (cI, 24, .inl (u.2.2.1)))] ∧ NWs U)) (va_Qi (fun (r : Int32) (w : S_Line) => r = res.1 ∧ w = res.2) (fun (w : S_Line) t => va_P (dC, dI) CL [(a0, .inr (2, [.ref a1, .ref a2, .ref a3, .int w.2.2.2.1, .int w.2.2.2.2.1, .int w.2.2.2.2.2.1, .int w.2.2.2.2.2.2])), (a1, .inl (cI, 12, .inl (w.1))), (a2, .inl (cI, 11, .inl (w.2.1))), (a3, .inl (cI, 24, .inl (w.2.2.1)))] t.heap ∧ va_K (dC, dI) CL [(cI, .int), (cL, .long), (cD, .double)] t ∧ va_D (va_A [(a0, .inr (2, [.ref a1, .ref a2, .ref a3, .int u.2.2.2.1, .int u.2.2.2.2.1, .int u.2.2.2.2.2.1, .int u.2.2.2.2.2.2])), (a1, .inl (cI, 12, .inl (u.1))), (a2, .inl (cI, 11, .inl (u.2.1))), (a3, .inl (cI, 24, .inl (u.2.2.1)))] sz) [(a0, .inr (2, [.ref a1, .ref a2, .ref a3, .int w.2.2.2.1, .int w.2.2.2.2.1, .int w.2.2.2.2.2.1, .int w.2.2.2.2.2.2])), (a1, .inl (cI, 12, .inl (w.1))), (a2, .inl (cI, 11, .inl (w.2.1))), (a3, .inl (cI, 24, .inl (w.2.2.1)))]) (va_A [(a0, .inr (2, [.ref a1, .ref a2, .ref a3, .int u.2.2.2.1, .int u.2.2.2.2.1, .int u.2.2.2.2.2.1, .int u.2.2.2.2.2.2])), (a1, .inl (cI, 12, .inl (u.1))), (a2, .inl (cI, 11, .inl (u.2.1))), (a3, .inl (cI, 24, .inl (u.2.2.1)))] sz)) 0 0 (va_A [(a0, .inr (2, [.ref a1, .ref a2, .ref a3, .int u.2.2.2.1, .int u.2.2.2.2.1, .int u.2.2.2.2.2.1, .int u.2.2.2.2.2.2])), (a1, .inl (cI, 12, .inl (u.1))), (a2, .inl (cI, 11, .inl (u.2.1))), (a3, .inl (cI, 24, .inl (u.2.2.1)))] sz) := by
  refine Met.ofW (cc := b_Line_isLengthRight) (maxL := 1) (ret := (some .boolean)) (by decide) rfl ?_
  intro p e s m args below meth c s₁ B hml hv
  obtain ⟨rfl, hsz, hP, hK, hD0, hN⟩ := hv
  have hx := B.exec
  have hb := B.bytes
  have hr := B.returns
  have hts : ∀ w ∈ TB, w.before _ s = true := fun w h => atoms_spec (ws := w_Line_isLengthRight) B.pre w (List.mem_cons_of_mem _ h)
  have hown : s.vm.findClass R_Line = some m.cls := findClass_of_methodNamed B.named
  have hlocks := B.notSynchronized
  subst hsz
  have hD := hD0.self (sz := s.heap.size)
  generalize hAe : va_A [(a0, .inr (2, [.ref a1, .ref a2, .ref a3, .int u.2.2.2.1, .int u.2.2.2.2.1, .int u.2.2.2.2.2.1, .int u.2.2.2.2.2.2])), (a1, .inl (cI, 12, .inl (u.1))), (a2, .inl (cI, 11, .inl (u.2.1))), (a3, .inl (cI, 24, .inl (u.2.2.1)))] s.heap.size = A at hD ⊢
  have hA : ∀ q : Nat, s.heap.size ≤ q → A q := fun q h => by rw [← hAe]; exact Or.inr h
  have hS : va_S A s.heap s.heap [] := va_S.rf
  have hl := lv_entry ([.ref a0]) (n := 1) (Nat.le_of_ble_eq_true rfl)
  rw [lg_entry_eq]
  generalize (lg_sl ([.ref a0]) ++ List.replicate (1 - (lg_sl ([.ref a0])).length) Slot.unset).toArray = ls at hl ⊢
  have hl : lv_has ls 1 [(0, .ref a0)] := hl
  refine nameQ (fun Q hQe => ?_)
  rw [f_Line_isLengthRight] at hf
  refine lv_aload_n hx hb d_Line_isLengthRight_0 rfl (lv_at hl 0 rfl) ?_
  refine va_get (D := (dC, dI)) (ci := 2) (v := .int u.2.2.2.1) (C := R_Line) (T := T_Line) (N := 7) hx hb hts in_Line hown hK hP 0 rfl rfl 3 (by decide) (hts _ t_176) (fun _ h9 => h9) rfl d_Line_isLengthRight_1 ?_
  refine lv_iconst (v := 4) hx hb d_Line_isLengthRight_4 (by decide) ?_
  refine lv_icmp_lt (tgt := 21) hx hb d_Line_isLengthRight_5 (by decide) (fun c1 => ?_) (fun c1 => ?_)
  · have hf := ite_t c1 hf
    refine lv_iconst (v := 0) hx hb d_Line_isLengthRight_21 (by decide) ?_
    have hf := Option.some.inj hf
    rw [hQe]
    exact W.zret (v := (0 : Int32)) hx hb hr (by decide) (fun t ht hW => ⟨⟨(0 : Int32), u, rfl, ⟨congrArg Prod.fst hf, congrArg Prod.snd hf⟩, by rw [ht]; exact hP, va_K.moved hW.alike hK, hD⟩, hS.F ht⟩) hS.2.2 d_Line_isLengthRight_22
  · have hf := ite_f c1 hf
    refine lv_aload_n hx hb d_Line_isLengthRight_8 rfl (lv_at hl 0 rfl) ?_
    refine va_get (D := (dC, dI)) (ci := 2) (v := .int u.2.2.2.1) (C := R_Line) (T := T_Line) (N := 7) hx hb hts in_Line hown hK hP 0 rfl rfl 3 (by decide) (hts _ t_176) (fun _ h9 => h9) rfl d_Line_isLengthRight_9 ?_
    refine lv_bipush (v := 12) hx hb d_Line_isLengthRight_12 (by decide) ?_
    refine lv_icmp_gt (tgt := 21) hx hb d_Line_isLengthRight_14 (by decide) (fun c2 => ?_) (fun c2 => ?_)
    · have hf := ite_t c2 hf
      refine lv_iconst (v := 0) hx hb d_Line_isLengthRight_21 (by decide) ?_
      have hf := Option.some.inj hf
      rw [hQe]
      exact W.zret (v := (0 : Int32)) hx hb hr (by decide) (fun t ht hW => ⟨⟨(0 : Int32), u, rfl, ⟨congrArg Prod.fst hf, congrArg Prod.snd hf⟩, by rw [ht]; exact hP, va_K.moved hW.alike hK, hD⟩, hS.F ht⟩) hS.2.2 d_Line_isLengthRight_22
    · have hf := ite_f c2 hf
      refine lv_iconst (v := 1) hx hb d_Line_isLengthRight_17 (by decide) ?_
      refine lv_goto (tgt := 22) hx hb d_Line_isLengthRight_18 (by decide) ?_
      have hf := Option.some.inj hf
      rw [hQe]
      exact W.zret (v := (1 : Int32)) hx hb hr (by decide) (fun t ht hW => ⟨⟨(1 : Int32), u, rfl, ⟨congrArg Prod.fst hf, congrArg Prod.snd hf⟩, by rw [ht]; exact hP, va_K.moved hW.alike hK, hD⟩, hS.F ht⟩) hS.2.2 d_Line_isLengthRight_22
def f_Line_fcsOf_19 (n0 : Nat) (r_5 : Int32 → Int32 → Int32 → (Nat → Int32) → Option (Int32 × ((Nat → Int32)))) : Nat → Int32 → Int32 → Int32 → Int32 → (Nat → Int32) → Option (Int32 × ((Nat → Int32)))
  | 0, _, _, _, _, _ => none
  | n + 1, v1, v2, v3, v4, u => (if (8 : Int32) ≤ v4 then bd (v3 + (1 : Int32)) (fun x7 : Int32 => r_5 v1 v2 x7 u) else bd (v2 - v2 / (2 : Int32) * (2 : Int32)) (fun x8 : Int32 => (if x8 = (1 : Int32) then bd (v2 / (2 : Int32)) (fun x12 : Int32 => bd (x12 ^^^ (33800 : Int32)) (fun x13 : Int32 => bd (v4 + (1 : Int32)) (fun x14 : Int32 => (f_Line_fcsOf_19 n0 r_5 n) v1 x13 v3 x14 u))) else bd (v2 / (2 : Int32)) (fun x10 : Int32 => bd (v4 + (1 : Int32)) (fun x11 : Int32 => (f_Line_fcsOf_19 n0 r_5 n) v1 x10 v3 x11 u)))))
def f_Line_fcsOf_5 (n0 : Nat) : Nat → Int32 → Int32 → Int32 → (Nat → Int32) → Option (Int32 × ((Nat → Int32)))
  | 0, _, _, _, _ => none
  | n + 1, v1, v2, v3, u => (if v1 ≤ v3 then bd ((65535 : Int32) - v2) (fun x2 : Int32 => some (x2, u)) else gi v3 n0 (bd (u v3.toNatClampNeg) (fun x4 : Int32 => bd (v2 ^^^ x4) (fun x5 : Int32 => f_Line_fcsOf_19 n0 (f_Line_fcsOf_5 n0 n) 64 v1 x5 v3 (0 : Int32) u))))
def f_Line_fcsOf (n0 : Nat) (p1 : Int32) (u : (Nat → Int32)) : Option (Int32 × ((Nat → Int32))) := f_Line_fcsOf_5 n0 64 p1 (65535 : Int32) (0 : Int32) u
set_option maxHeartbeats 4000000 in
set_option maxRecDepth 100000 in
theorem c_Line_fcsOf (l : Launch) (dC : Nat → ClassId) (dI : Nat → Nat → Nat) (cI cL cD : ClassId) (a0 : Nat) (n0 : Nat) (sz : Nat) (p1 : Int32) (u : (Nat → Int32)) (res : Int32 × ((Nat → Int32))) (hf : f_Line_fcsOf n0 p1 u = some res) : Met l y_Line_fcsOf w_Line_fcsOf ({ frames := 0, cells := 0, slots := 0, locals := 0 }) (va_Pc [.ref a0, .int p1] (fun U => U.heap.size = sz ∧ va_P (dC, dI) CL [(a0, .inl (cI, n0, .inl (u)))] U.heap ∧ va_K (dC, dI) CL [(cI, .int), (cL, .long), (cD, .double)] U ∧ va_D (fun _ => True) [(a0, .inl (cI, n0, .inl (u)))] ∧ NWs U)) (va_Qi (fun (r : Int32) (w : (Nat → Int32)) => r = res.1 ∧ w = res.2) (fun (w : (Nat → Int32)) t => va_P (dC, dI) CL [(a0, .inl (cI, n0, .inl (w)))] t.heap ∧ va_K (dC, dI) CL [(cI, .int), (cL, .long), (cD, .double)] t ∧ va_D (va_A [(a0, .inl (cI, n0, .inl (u)))] sz) [(a0, .inl (cI, n0, .inl (w)))]) (va_A [(a0, .inl (cI, n0, .inl (u)))] sz)) 0 0 (va_A [(a0, .inl (cI, n0, .inl (u)))] sz) := by
  refine Met.ofW (cc := b_Line_fcsOf) (maxL := 5) (ret := (some .int)) (by decide) rfl ?_
  intro p e s m args below meth c s₁ B hml hv
  obtain ⟨rfl, hsz, hP, hK, hD0, hN⟩ := hv
  have hx := B.exec
  have hb := B.bytes
  have hr := B.returns
  have hts : ∀ w ∈ TB, w.before _ s = true := fun w h => atoms_spec (ws := w_Line_fcsOf) B.pre w (List.mem_cons_of_mem _ h)
  have hown : s.vm.findClass R_Line = some m.cls := findClass_of_methodNamed B.named
  have hlocks := B.notSynchronized
  subst hsz
  have hD := hD0.self (sz := s.heap.size)
  generalize hAe : va_A [(a0, .inl (cI, n0, .inl (u)))] s.heap.size = A at hD ⊢
  have hA : ∀ q : Nat, s.heap.size ≤ q → A q := fun q h => by rw [← hAe]; exact Or.inr h
  have hS : va_S A s.heap s.heap [] := va_S.rf
  have hl := lv_entry ([.ref a0, .int p1]) (n := 5) (Nat.le_of_ble_eq_true rfl)
  rw [lg_entry_eq]
  generalize (lg_sl ([.ref a0, .int p1]) ++ List.replicate (5 - (lg_sl ([.ref a0, .int p1])).length) Slot.unset).toArray = ls at hl ⊢
  have hl : lv_has ls 5 [(0, .ref a0), (1, .int p1)] := hl
  refine nameQ (fun Q hQe => ?_)
  have k_19 : ∀ (r_5 : Int32 → Int32 → Int32 → (Nat → Int32) → Option (Int32 × ((Nat → Int32)))) (k_5 : ∀ (v1 : Int32) (v2 : Int32) (v3 : Int32) (u : (Nat → Int32)), r_5 v1 v2 v3 u = some res → ∀ (H : Heap) (locs : List Loc), va_P (dC, dI) CL [(a0, .inl (cI, n0, .inl (u)))] H → va_D A [(a0, .inl (cI, n0, .inl (u)))] → va_S A s.heap H locs → ∀ (ls : Array Slot), lv_has ls 5 [(0, .ref a0), (1, .int v1), (2, .int v2), (3, .int v3)] → W p l e (headSpec w_Line_fcsOf ({ frames := 0, cells := 0, slots := 0, locals := 0 })).room s m ([.ref a0, .int p1] : List Value).toArray below meth c H locs 0 0 Q (F0 m 5 ls [])), ∀ (n : Nat), ∀ (v1 : Int32) (v2 : Int32) (v3 : Int32) (v4 : Int32) (u : (Nat → Int32)), f_Line_fcsOf_19 n0 r_5 n v1 v2 v3 v4 u = some res → ∀ (H : Heap) (locs : List Loc), va_P (dC, dI) CL [(a0, .inl (cI, n0, .inl (u)))] H → va_D A [(a0, .inl (cI, n0, .inl (u)))] → va_S A s.heap H locs → ∀ (ls : Array Slot), lv_has ls 5 [(0, .ref a0), (1, .int v1), (2, .int v2), (3, .int v3), (4, .int v4)] → W p l e (headSpec w_Line_fcsOf ({ frames := 0, cells := 0, slots := 0, locals := 0 })).room s m ([.ref a0, .int p1] : List Value).toArray below meth c H locs 0 0 Q (F0 m 19 ls []) := by
    intro r_5 k_5 n
    induction n with
    | zero =>
      intro v1 v2 v3 v4 u hf
      simp [f_Line_fcsOf_19] at hf
    | succ n k_19 =>
      intro v1 v2 v3 v4 u hf H locs hP hD hS ls hl
      rw [f_Line_fcsOf_19] at hf
      refine lv_iload hx hb d_Line_fcsOf_19 (lv_at hl 4 rfl) ?_
      refine lv_bipush (v := 8) hx hb d_Line_fcsOf_21 (by decide) ?_
      refine lv_icmp_ge (tgt := 52) hx hb d_Line_fcsOf_23 (by decide) (fun c6 => ?_) (fun c6 => ?_)
      · have hf := ite_t c6 hf
        obtain ⟨x7, ex7⟩ : ∃ y : Int32, y = v3 + (1 : Int32) := ⟨_, rfl⟩
        have hf := bd_t ex7 hf
        refine lv_iinc (v := x7) (lv' := [(3, .int x7), (0, .ref a0), (1, .int v1), (2, .int v2), (4, .int v4)]) hx hb d_Line_fcsOf_52 hl (k := 3) rfl (by rw [ex7]; rfl) (by decide) rfl (fun ls hl => ?_)
        refine lv_goto (tgt := 5) hx hb d_Line_fcsOf_55 (by decide) ?_
        have hl := lv_sub hl (l' := [(0, .ref a0), (1, .int v1), (2, .int v2), (3, .int x7)]) [1, 2, 3, 0] rfl
        exact k_5 v1 v2 x7 u hf _ _ hP hD hS ls hl
      · have hf := ite_f c6 hf
        refine lv_iload_n hx hb d_Line_fcsOf_26 rfl (lv_at hl 2 rfl) ?_
        refine lv_iconst (v := 2) hx hb d_Line_fcsOf_27 (by decide) ?_
        refine lv_irem hx hb d_Line_fcsOf_28 (by decide) ?_
        refine lv_topi (fun x8 ex8 => ?_)
        have hf := bd_t ex8 hf
        refine lv_iconst (v := 1) hx hb d_Line_fcsOf_29 (by decide) ?_
        refine lv_icmp_ne (tgt := 42) hx hb d_Line_fcsOf_30 (by decide) (fun c9 => ?_) (fun c9 => ?_)
        · have hf := ite_f c9 hf
          refine lv_iload_n hx hb d_Line_fcsOf_42 rfl (lv_at hl 2 rfl) ?_
          refine lv_iconst (v := 2) hx hb d_Line_fcsOf_43 (by decide) ?_
          refine lv_idiv hx hb d_Line_fcsOf_44 (by decide) ?_
          refine lv_topi (fun x10 ex10 => ?_)
          have hf := bd_t ex10 hf
          refine lv_istore_n (lv' := [(2, .int x10), (0, .ref a0), (1, .int v1), (3, .int v3), (4, .int v4)]) hx hb d_Line_fcsOf_45 rfl hl (by decide) rfl (fun ls hl => ?_)
          obtain ⟨x11, ex11⟩ : ∃ y : Int32, y = v4 + (1 : Int32) := ⟨_, rfl⟩
          have hf := bd_t ex11 hf
          refine lv_iinc (v := x11) (lv' := [(4, .int x11), (2, .int x10), (0, .ref a0), (1, .int v1), (3, .int v3)]) hx hb d_Line_fcsOf_46 hl (k := 4) rfl (by rw [ex11]; rfl) (by decide) rfl (fun ls hl => ?_)
          refine lv_goto (tgt := 19) hx hb d_Line_fcsOf_49 (by decide) ?_
          have hl := lv_sub hl (l' := [(0, .ref a0), (1, .int v1), (2, .int x10), (3, .int v3), (4, .int x11)]) [2, 3, 1, 4, 0] rfl
          exact k_19 v1 x10 v3 x11 u hf _ _ hP hD hS ls hl
        · have hf := ite_t c9 hf
          refine lv_iload_n hx hb d_Line_fcsOf_33 rfl (lv_at hl 2 rfl) ?_
          refine lv_iconst (v := 2) hx hb d_Line_fcsOf_34 (by decide) ?_
          refine lv_idiv hx hb d_Line_fcsOf_35 (by decide) ?_
          refine lv_topi (fun x12 ex12 => ?_)
          have hf := bd_t ex12 hf
          refine lv_ldc (v := 33800) hx hb hown (hts _ t_602) d_Line_fcsOf_36 ?_
          refine lv_ixor hx hb d_Line_fcsOf_38 ?_
          refine lv_topi (fun x13 ex13 => ?_)
          have hf := bd_t ex13 hf
          refine lv_goto (tgt := 45) hx hb d_Line_fcsOf_39 (by decide) ?_
          refine lv_istore_n (lv' := [(2, .int x13), (0, .ref a0), (1, .int v1), (3, .int v3), (4, .int v4)]) hx hb d_Line_fcsOf_45 rfl hl (by decide) rfl (fun ls hl => ?_)
          obtain ⟨x14, ex14⟩ : ∃ y : Int32, y = v4 + (1 : Int32) := ⟨_, rfl⟩
          have hf := bd_t ex14 hf
          refine lv_iinc (v := x14) (lv' := [(4, .int x14), (2, .int x13), (0, .ref a0), (1, .int v1), (3, .int v3)]) hx hb d_Line_fcsOf_46 hl (k := 4) rfl (by rw [ex14]; rfl) (by decide) rfl (fun ls hl => ?_)
          refine lv_goto (tgt := 19) hx hb d_Line_fcsOf_49 (by decide) ?_
          have hl := lv_sub hl (l' := [(0, .ref a0), (1, .int v1), (2, .int x13), (3, .int v3), (4, .int x14)]) [2, 3, 1, 4, 0] rfl
          exact k_19 v1 x13 v3 x14 u hf _ _ hP hD hS ls hl
  have k_5 : ∀ (n : Nat), ∀ (v1 : Int32) (v2 : Int32) (v3 : Int32) (u : (Nat → Int32)), f_Line_fcsOf_5 n0 n v1 v2 v3 u = some res → ∀ (H : Heap) (locs : List Loc), va_P (dC, dI) CL [(a0, .inl (cI, n0, .inl (u)))] H → va_D A [(a0, .inl (cI, n0, .inl (u)))] → va_S A s.heap H locs → ∀ (ls : Array Slot), lv_has ls 5 [(0, .ref a0), (1, .int v1), (2, .int v2), (3, .int v3)] → W p l e (headSpec w_Line_fcsOf ({ frames := 0, cells := 0, slots := 0, locals := 0 })).room s m ([.ref a0, .int p1] : List Value).toArray below meth c H locs 0 0 Q (F0 m 5 ls []) := by
    intro n
    induction n with
    | zero =>
      intro v1 v2 v3 u hf
      simp [f_Line_fcsOf_5] at hf
    | succ n k_5 =>
      intro v1 v2 v3 u hf H locs hP hD hS ls hl
      rw [f_Line_fcsOf_5] at hf
      refine lv_iload_n hx hb d_Line_fcsOf_5 rfl (lv_at hl 3 rfl) ?_
      refine lv_iload_n hx hb d_Line_fcsOf_6 rfl (lv_at hl 1 rfl) ?_
      refine lv_icmp_ge (tgt := 58) hx hb d_Line_fcsOf_7 (by decide) (fun c1 => ?_) (fun c1 => ?_)
      · have hf := ite_t c1 hf
        refine lv_ldc (v := 65535) hx hb hown (hts _ t_601) d_Line_fcsOf_58 ?_
        refine lv_iload_n hx hb d_Line_fcsOf_60 rfl (lv_at hl 2 rfl) ?_
        refine lv_isub hx hb d_Line_fcsOf_61 ?_
        refine lv_topi (fun x2 ex2 => ?_)
        have hf := bd_t ex2 hf
        have hf := Option.some.inj hf
        rw [hQe]
        exact W.iret (v := x2) hx hb hr (fun t ht hW => ⟨⟨x2, u, rfl, ⟨congrArg Prod.fst hf, congrArg Prod.snd hf⟩, by rw [ht]; exact hP, va_K.moved hW.alike hK, hD⟩, hS.F ht⟩) hS.2.2 d_Line_fcsOf_62
      · have hf := ite_f c1 hf
        refine lv_iload_n hx hb d_Line_fcsOf_10 rfl (lv_at hl 2 rfl) ?_
        refine lv_aload_n hx hb d_Line_fcsOf_11 rfl (lv_at hl 0 rfl) ?_
        refine lv_iload_n hx hb d_Line_fcsOf_12 rfl (lv_at hl 3 rfl) ?_
        obtain ⟨h3, hf⟩ := gi_t hf
        refine va_iald hx hb hK hP 0 0 rfl rfl h3 d_Line_fcsOf_13 ?_
        refine lv_topi (fun x4 ex4 => ?_)
        have hf := bd_t ex4 hf
        refine lv_ixor hx hb d_Line_fcsOf_14 ?_
        refine lv_topi (fun x5 ex5 => ?_)
        have hf := bd_t ex5 hf
        refine lv_istore_n (lv' := [(2, .int x5), (0, .ref a0), (1, .int v1), (3, .int v3)]) hx hb d_Line_fcsOf_15 rfl hl (by decide) rfl (fun ls hl => ?_)
        refine lv_iconst (v := 0) hx hb d_Line_fcsOf_16 (by decide) ?_
        refine lv_istore (lv' := [(4, .int (0 : Int32)), (2, .int x5), (0, .ref a0), (1, .int v1), (3, .int v3)]) hx hb d_Line_fcsOf_17 hl (by decide) rfl (fun ls hl => ?_)
        have hl := lv_sub hl (l' := [(0, .ref a0), (1, .int v1), (2, .int x5), (3, .int v3), (4, .int (0 : Int32))]) [2, 3, 1, 4, 0] rfl
        exact k_19 (f_Line_fcsOf_5 n0 n) k_5 64 v1 x5 v3 (0 : Int32) u hf _ _ hP hD hS ls hl
  rw [f_Line_fcsOf] at hf
  refine lv_ldc (v := 65535) hx hb hown (hts _ t_601) d_Line_fcsOf_0 ?_
  refine lv_istore_n (lv' := [(2, .int (65535 : Int32)), (0, .ref a0), (1, .int p1)]) hx hb d_Line_fcsOf_2 rfl hl (by decide) rfl (fun ls hl => ?_)
  refine lv_iconst (v := 0) hx hb d_Line_fcsOf_3 (by decide) ?_
  refine lv_istore_n (lv' := [(3, .int (0 : Int32)), (2, .int (65535 : Int32)), (0, .ref a0), (1, .int p1)]) hx hb d_Line_fcsOf_4 rfl hl (by decide) rfl (fun ls hl => ?_)
  have hl := lv_sub hl (l' := [(0, .ref a0), (1, .int p1), (2, .int (65535 : Int32)), (3, .int (0 : Int32))]) [2, 3, 1, 0] rfl
  exact k_5 64 p1 (65535 : Int32) (0 : Int32) u hf _ _ hP hD hS ls hl
def f_Line_isFcsRight (u : S_Line) : Option (Int32 × S_Line) := bd (u.2.2.2.1 - (2 : Int32)) (fun x1 : Int32 => ca (f_Line_fcsOf 12 x1 u.1) (fun r2 w3 => bd (u.2.2.2.1 - (2 : Int32)) (fun x4 : Int32 => gi x4 12 (bd (w3 x4.toNatClampNeg) (fun x6 : Int32 => bd (r2 - r2 / (256 : Int32) * (256 : Int32)) (fun x7 : Int32 => (if x6 = x7 then bd (u.2.2.2.1 - (1 : Int32)) (fun x9 : Int32 => gi x9 12 (bd (w3 x9.toNatClampNeg) (fun x11 : Int32 => bd (r2 / (256 : Int32)) (fun x12 : Int32 => (if x11 = x12 then some ((1 : Int32), (w3, u.2.1, u.2.2.1, u.2.2.2.1, u.2.2.2.2.1, u.2.2.2.2.2.1, u.2.2.2.2.2.2)) else some ((0 : Int32), (w3, u.2.1, u.2.2.1, u.2.2.2.1, u.2.2.2.2.1, u.2.2.2.2.2.1, u.2.2.2.2.2.2))))))) else some ((0 : Int32), (w3, u.2.1, u.2.2.1, u.2.2.2.1, u.2.2.2.2.1, u.2.2.2.2.2.1, u.2.2.2.2.2.2)))))))))
set_option maxHeartbeats 4000000 in
set_option maxRecDepth 100000 in
theorem c_Line_isFcsRight (l : Launch) (dC : Nat → ClassId) (dI : Nat → Nat → Nat) (cI cL cD : ClassId) (a0 a1 a2 a3 : Nat) (sz : Nat) (u : S_Line) (res : Int32 × S_Line) (hf : f_Line_isFcsRight u = some res) : Met l y_Line_isFcsRight w_Line_isFcsRight ({ frames := 1, cells := 0, slots := 0, locals := 24 }) (va_Pc [.ref a0] (fun U => U.heap.size = sz ∧ va_P (dC, dI) CL [(a0, .inr (2, [.ref a1, .ref a2, .ref a3, .int u.2.2.2.1, .int u.2.2.2.2.1, .int u.2.2.2.2.2.1, .int u.2.2.2.2.2.2])), (a1, .inl (cI, 12, .inl (u.1))), (a2, .inl (cI, 11, .inl (u.2.1))), (a3, .inl (cI, 24, .inl (u.2.2.1)))] U.heap ∧ va_K (dC, dI) CL [(cI, .int), (cL, .long), (cD, .double)] U ∧ va_D (fun _ => True) [(a0, .inr (2, [.ref a1, .ref a2, .ref a3, .int u.2.2.2.1, .int u.2.2.2.2.1, .int u.2.2.2.2.2.1, .int u.2.2.2.2.2.2])), (a1, .inl (cI, 12, .inl (u.1))), (a2, .inl (cI, 11, .inl (u.2.1))), (a3, .inl (cI, 24, .inl (u.2.2.1)))] ∧ NWs U)) (va_Qi (fun (r : Int32) (w : S_Line) => r = res.1 ∧ w = res.2) (fun (w : S_Line) t => va_P (dC, dI) CL [(a0, .inr (2, [.ref a1, .ref a2, .ref a3, .int w.2.2.2.1, .int w.2.2.2.2.1, .int w.2.2.2.2.2.1, .int w.2.2.2.2.2.2])), (a1, .inl (cI, 12, .inl (w.1))), (a2, .inl (cI, 11, .inl (w.2.1))), (a3, .inl (cI, 24, .inl (w.2.2.1)))] t.heap ∧ va_K (dC, dI) CL [(cI, .int), (cL, .long), (cD, .double)] t ∧ va_D (va_A [(a0, .inr (2, [.ref a1, .ref a2, .ref a3, .int u.2.2.2.1, .int u.2.2.2.2.1, .int u.2.2.2.2.2.1, .int u.2.2.2.2.2.2])), (a1, .inl (cI, 12, .inl (u.1))), (a2, .inl (cI, 11, .inl (u.2.1))), (a3, .inl (cI, 24, .inl (u.2.2.1)))] sz) [(a0, .inr (2, [.ref a1, .ref a2, .ref a3, .int w.2.2.2.1, .int w.2.2.2.2.1, .int w.2.2.2.2.2.1, .int w.2.2.2.2.2.2])), (a1, .inl (cI, 12, .inl (w.1))), (a2, .inl (cI, 11, .inl (w.2.1))), (a3, .inl (cI, 24, .inl (w.2.2.1)))]) (va_A [(a0, .inr (2, [.ref a1, .ref a2, .ref a3, .int u.2.2.2.1, .int u.2.2.2.2.1, .int u.2.2.2.2.2.1, .int u.2.2.2.2.2.2])), (a1, .inl (cI, 12, .inl (u.1))), (a2, .inl (cI, 11, .inl (u.2.1))), (a3, .inl (cI, 24, .inl (u.2.2.1)))] sz)) 0 0 (va_A [(a0, .inr (2, [.ref a1, .ref a2, .ref a3, .int u.2.2.2.1, .int u.2.2.2.2.1, .int u.2.2.2.2.2.1, .int u.2.2.2.2.2.2])), (a1, .inl (cI, 12, .inl (u.1))), (a2, .inl (cI, 11, .inl (u.2.1))), (a3, .inl (cI, 24, .inl (u.2.2.1)))] sz) := by
  refine Met.ofW (cc := b_Line_isFcsRight) (maxL := 2) (ret := (some .boolean)) (by decide) rfl ?_
  intro p e s m args below meth c s₁ B hml hv
  obtain ⟨rfl, hsz, hP, hK, hD0, hN⟩ := hv
  have hx := B.exec
  have hb := B.bytes
  have hr := B.returns
  have hts : ∀ w ∈ TB, w.before _ s = true := fun w h => atoms_spec (ws := w_Line_isFcsRight) B.pre w (List.mem_cons_of_mem _ h)
  have hown : s.vm.findClass R_Line = some m.cls := findClass_of_methodNamed B.named
  have hlocks := B.notSynchronized
  subst hsz
  have hD := hD0.self (sz := s.heap.size)
  generalize hAe : va_A [(a0, .inr (2, [.ref a1, .ref a2, .ref a3, .int u.2.2.2.1, .int u.2.2.2.2.1, .int u.2.2.2.2.2.1, .int u.2.2.2.2.2.2])), (a1, .inl (cI, 12, .inl (u.1))), (a2, .inl (cI, 11, .inl (u.2.1))), (a3, .inl (cI, 24, .inl (u.2.2.1)))] s.heap.size = A at hD ⊢
  have hA : ∀ q : Nat, s.heap.size ≤ q → A q := fun q h => by rw [← hAe]; exact Or.inr h
  have hS : va_S A s.heap s.heap [] := va_S.rf
  have hl := lv_entry ([.ref a0]) (n := 2) (Nat.le_of_ble_eq_true rfl)
  rw [lg_entry_eq]
  generalize (lg_sl ([.ref a0]) ++ List.replicate (2 - (lg_sl ([.ref a0])).length) Slot.unset).toArray = ls at hl ⊢
  have hl : lv_has ls 2 [(0, .ref a0)] := hl
  refine nameQ (fun Q hQe => ?_)
  rw [f_Line_isFcsRight] at hf
  refine lv_aload_n hx hb d_Line_isFcsRight_0 rfl (lv_at hl 0 rfl) ?_
  refine va_get (D := (dC, dI)) (ci := 2) (v := .ref a1) (C := R_Line) (T := T_Line) (N := 7) hx hb hts in_Line hown hK hP 0 rfl rfl 0 (by decide) (hts _ t_172) (fun _ h9 => h9) rfl d_Line_isFcsRight_1 ?_
  refine lv_aload_n hx hb d_Line_isFcsRight_4 rfl (lv_at hl 0 rfl) ?_
  refine va_get (D := (dC, dI)) (ci := 2) (v := .int u.2.2.2.1) (C := R_Line) (T := T_Line) (N := 7) hx hb hts in_Line hown hK hP 0 rfl rfl 3 (by decide) (hts _ t_176) (fun _ h9 => h9) rfl d_Line_isFcsRight_5 ?_
  refine lv_iconst (v := 2) hx hb d_Line_isFcsRight_8 (by decide) ?_
  refine lv_isub hx hb d_Line_isFcsRight_9 ?_
  refine lv_topi (fun x1 ex1 => ?_)
  have hf := bd_t ex1 hf
  obtain ⟨r2, w3, hc, hf⟩ := ca_t hf
  have hPc := hP.sub (ws' := [(a1, .inl (cI, 12, .inl (u.1)))]) [1] rfl
  have hDc := hD.sub (ws' := [(a1, .inl (cI, 12, .inl (u.1)))]) [1] (by decide) rfl
  have hFc := va_free (wc := [(a1, .inl (cI, 12, .inl (u.1)))]) hD hS hA [1] rfl
  refine va_calli (va_runS (As := [.ref a1, .int x1]) (rest := []) ⟨hx, hb, hml, hown, hts⟩ (c_Line_fcsOf l dC dI cI cL cD a1 12 s.heap.size x1 u.1 (r2, w3) hc) (va_cwS 2 hts (gS t_598 t_599 t_44 t_600) rfl rfl rfl (by decide +kernel) ⟨(Nat.le_of_ble_eq_true rfl), (Nat.le_of_ble_eq_true rfl)⟩) ⟨fun a U g mk q => by obtain ⟨q0, q1, qP, qK, qD, qN⟩ := q; exact ⟨q0, q1, qP, va_K.moved (u := U) (U := U.calling g mk a) (Vm.Alike.refl U.vm) qK, qD, NWs.same (u := U) (U := U.calling g mk a) rfl qN⟩, fun U hU hW => ⟨rfl, by rw [hU], by rw [hU]; exact hPc, va_K.moved hW.alike hK, hDc.weaken (fun _ _ _ _ => trivial), hN.warm hW⟩⟩ rfl rfl hl.1 rfl (lv_room (Nat.le_of_ble_eq_true rfl)) d_Line_isFcsRight_10 ⟨(Nat.le_of_ble_eq_true rfl), (Nat.le_of_ble_eq_true rfl)⟩) hS (fun q _ h => hFc q h) hFc (fun rZ wZ t H1 locs ht hvm hw hB hz1 hk1 hS => ?_)
  obtain ⟨eY, eZ⟩ := hw
  replace eY : r2 = rZ := eY.symm
  replace eZ : w3 = wZ := eZ.symm
  subst eY
  subst eZ
  obtain ⟨hP1, hK1, hD1⟩ := hB
  rw [ht] at hP1
  obtain ⟨hP, hD⟩ := va_join (wr := [(a0, .inr (2, [.ref a1, .ref a2, .ref a3, .int u.2.2.2.1, .int u.2.2.2.2.1, .int u.2.2.2.2.2.1, .int u.2.2.2.2.2.2])), (a2, .inl (cI, 11, .inl (u.2.1))), (a3, .inl (cI, 24, .inl (u.2.2.1)))]) (w1 := [(a1, .inl (cI, 12, .inl (w3)))]) hP hD [1] [0, 2, 3] rfl rfl (by decide) (by decide) hk1 hFc hP1 hD1
  generalize H1 = H at hP hS ⊢
  have hP := hP.sub (ws' := [(a0, .inr (2, [.ref a1, .ref a2, .ref a3, .int u.2.2.2.1, .int u.2.2.2.2.1, .int u.2.2.2.2.2.1, .int u.2.2.2.2.2.2])), (a1, .inl (cI, 12, .inl (w3))), (a2, .inl (cI, 11, .inl (u.2.1))), (a3, .inl (cI, 24, .inl (u.2.2.1)))]) [0, 3, 1, 2] rfl
  have hD := hD.sub (ws' := [(a0, .inr (2, [.ref a1, .ref a2, .ref a3, .int u.2.2.2.1, .int u.2.2.2.2.1, .int u.2.2.2.2.2.1, .int u.2.2.2.2.2.2])), (a1, .inl (cI, 12, .inl (w3))), (a2, .inl (cI, 11, .inl (u.2.1))), (a3, .inl (cI, 24, .inl (u.2.2.1)))]) [0, 3, 1, 2] (by decide) rfl
  refine lv_istore_n (lv' := [(1, .int r2), (0, .ref a0)]) hx hb d_Line_isFcsRight_13 rfl hl (by decide) rfl (fun ls hl => ?_)
  refine lv_aload_n hx hb d_Line_isFcsRight_14 rfl (lv_at hl 1 rfl) ?_
  refine va_get (D := (dC, dI)) (ci := 2) (v := .ref a1) (C := R_Line) (T := T_Line) (N := 7) hx hb hts in_Line hown hK hP 0 rfl rfl 0 (by decide) (hts _ t_172) (fun _ h9 => h9) rfl d_Line_isFcsRight_15 ?_
  refine lv_aload_n hx hb d_Line_isFcsRight_18 rfl (lv_at hl 1 rfl) ?_
  refine va_get (D := (dC, dI)) (ci := 2) (v := .int u.2.2.2.1) (C := R_Line) (T := T_Line) (N := 7) hx hb hts in_Line hown hK hP 0 rfl rfl 3 (by decide) (hts _ t_176) (fun _ h9 => h9) rfl d_Line_isFcsRight_19 ?_
  refine lv_iconst (v := 2) hx hb d_Line_isFcsRight_22 (by decide) ?_
  refine lv_isub hx hb d_Line_isFcsRight_23 ?_
  refine lv_topi (fun x4 ex4 => ?_)
  have hf := bd_t ex4 hf
  obtain ⟨h5, hf⟩ := gi_t hf
  refine va_iald hx hb hK hP 1 0 rfl rfl h5 d_Line_isFcsRight_24 ?_
  refine lv_topi (fun x6 ex6 => ?_)
  have hf := bd_t ex6 hf
  refine lv_iload_n hx hb d_Line_isFcsRight_25 rfl (lv_at hl 0 rfl) ?_
  refine lv_sipush (v := 256) hx hb d_Line_isFcsRight_26 (by decide) ?_
  refine lv_irem hx hb d_Line_isFcsRight_29 (by decide) ?_
  refine lv_topi (fun x7 ex7 => ?_)
  have hf := bd_t ex7 hf
  refine lv_icmp_ne (tgt := 56) hx hb d_Line_isFcsRight_30 (by decide) (fun c8 => ?_) (fun c8 => ?_)
  · have hf := ite_f c8 hf
    refine lv_iconst (v := 0) hx hb d_Line_isFcsRight_56 (by decide) ?_
    have hf := Option.some.inj hf
    rw [hQe]
    exact W.zret (v := (0 : Int32)) hx hb hr (by decide) (fun t ht hW => ⟨⟨(0 : Int32), (w3, u.2.1, u.2.2.1, u.2.2.2.1, u.2.2.2.2.1, u.2.2.2.2.2.1, u.2.2.2.2.2.2), rfl, ⟨congrArg Prod.fst hf, congrArg Prod.snd hf⟩, by rw [ht]; exact hP, va_K.moved hW.alike hK, hD⟩, hS.F ht⟩) hS.2.2 d_Line_isFcsRight_57
  · have hf := ite_t c8 hf
    refine lv_aload_n hx hb d_Line_isFcsRight_33 rfl (lv_at hl 1 rfl) ?_
    refine va_get (D := (dC, dI)) (ci := 2) (v := .ref a1) (C := R_Line) (T := T_Line) (N := 7) hx hb hts in_Line hown hK hP 0 rfl rfl 0 (by decide) (hts _ t_172) (fun _ h9 => h9) rfl d_Line_isFcsRight_34 ?_
    refine lv_aload_n hx hb d_Line_isFcsRight_37 rfl (lv_at hl 1 rfl) ?_
    refine va_get (D := (dC, dI)) (ci := 2) (v := .int u.2.2.2.1) (C := R_Line) (T := T_Line) (N := 7) hx hb hts in_Line hown hK hP 0 rfl rfl 3 (by decide) (hts _ t_176) (fun _ h9 => h9) rfl d_Line_isFcsRight_38 ?_
    refine lv_iconst (v := 1) hx hb d_Line_isFcsRight_41 (by decide) ?_
    refine lv_isub hx hb d_Line_isFcsRight_42 ?_
    refine lv_topi (fun x9 ex9 => ?_)
    have hf := bd_t ex9 hf
    obtain ⟨h10, hf⟩ := gi_t hf
    refine va_iald hx hb hK hP 1 0 rfl rfl h10 d_Line_isFcsRight_43 ?_
    refine lv_topi (fun x11 ex11 => ?_)
    have hf := bd_t ex11 hf
    refine lv_iload_n hx hb d_Line_isFcsRight_44 rfl (lv_at hl 0 rfl) ?_
    refine lv_sipush (v := 256) hx hb d_Line_isFcsRight_45 (by decide) ?_
    refine lv_idiv hx hb d_Line_isFcsRight_48 (by decide) ?_
    refine lv_topi (fun x12 ex12 => ?_)
    have hf := bd_t ex12 hf
    refine lv_icmp_ne (tgt := 56) hx hb d_Line_isFcsRight_49 (by decide) (fun c13 => ?_) (fun c13 => ?_)
    · have hf := ite_f c13 hf
      refine lv_iconst (v := 0) hx hb d_Line_isFcsRight_56 (by decide) ?_
      have hf := Option.some.inj hf
      rw [hQe]
      exact W.zret (v := (0 : Int32)) hx hb hr (by decide) (fun t ht hW => ⟨⟨(0 : Int32), (w3, u.2.1, u.2.2.1, u.2.2.2.1, u.2.2.2.2.1, u.2.2.2.2.2.1, u.2.2.2.2.2.2), rfl, ⟨congrArg Prod.fst hf, congrArg Prod.snd hf⟩, by rw [ht]; exact hP, va_K.moved hW.alike hK, hD⟩, hS.F ht⟩) hS.2.2 d_Line_isFcsRight_57
    · have hf := ite_t c13 hf
      refine lv_iconst (v := 1) hx hb d_Line_isFcsRight_52 (by decide) ?_
      refine lv_goto (tgt := 57) hx hb d_Line_isFcsRight_53 (by decide) ?_
      have hf := Option.some.inj hf
      rw [hQe]
      exact W.zret (v := (1 : Int32)) hx hb hr (by decide) (fun t ht hW => ⟨⟨(1 : Int32), (w3, u.2.1, u.2.2.1, u.2.2.2.1, u.2.2.2.2.1, u.2.2.2.2.2.1, u.2.2.2.2.2.2), rfl, ⟨congrArg Prod.fst hf, congrArg Prod.snd hf⟩, by rw [ht]; exact hP, va_K.moved hW.alike hK, hD⟩, hS.F ht⟩) hS.2.2 d_Line_isFcsRight_57
def f_Line_command (u : S_Line) : Option (Int32 × S_Line) := gi (0 : Int32) 12 (bd (u.1 (0 : Int32).toNatClampNeg) (fun x2 : Int32 => some (x2, u)))
set_option maxHeartbeats 4000000 in
set_option maxRecDepth 100000 in
theorem c_Line_command (l : Launch) (dC : Nat → ClassId) (dI : Nat → Nat → Nat) (cI cL cD : ClassId) (a0 a1 a2 a3 : Nat) (sz : Nat) (u : S_Line) (res : Int32 × S_Line) (hf : f_Line_command u = some res) : Met l y_Line_command w_Line_command ({ frames := 0, cells := 0, slots := 0, locals := 0 }) (va_Pc [.ref a0] (fun U => U.heap.size = sz ∧ va_P (dC, dI) CL [(a0, .inr (2, [.ref a1, .ref a2, .ref a3, .int u.2.2.2.1, .int u.2.2.2.2.1, .int u.2.2.2.2.2.1, .int u.2.2.2.2.2.2])), (a1, .inl (cI, 12, .inl (u.1))), (a2, .inl (cI, 11, .inl (u.2.1))), (a3, .inl (cI, 24, .inl (u.2.2.1)))] U.heap ∧ va_K (dC, dI) CL [(cI, .int), (cL, .long), (cD, .double)] U ∧ va_D (fun _ => True) [(a0, .inr (2, [.ref a1, .ref a2, .ref a3, .int u.2.2.2.1, .int u.2.2.2.2.1, .int u.2.2.2.2.2.1, .int u.2.2.2.2.2.2])), (a1, .inl (cI, 12, .inl (u.1))), (a2, .inl (cI, 11, .inl (u.2.1))), (a3, .inl (cI, 24, .inl (u.2.2.1)))] ∧ NWs U)) (va_Qi (fun (r : Int32) (w : S_Line) => r = res.1 ∧ w = res.2) (fun (w : S_Line) t => va_P (dC, dI) CL [(a0, .inr (2, [.ref a1, .ref a2, .ref a3, .int w.2.2.2.1, .int w.2.2.2.2.1, .int w.2.2.2.2.2.1, .int w.2.2.2.2.2.2])), (a1, .inl (cI, 12, .inl (w.1))), (a2, .inl (cI, 11, .inl (w.2.1))), (a3, .inl (cI, 24, .inl (w.2.2.1)))] t.heap ∧ va_K (dC, dI) CL [(cI, .int), (cL, .long), (cD, .double)] t ∧ va_D (va_A [(a0, .inr (2, [.ref a1, .ref a2, .ref a3, .int u.2.2.2.1, .int u.2.2.2.2.1, .int u.2.2.2.2.2.1, .int u.2.2.2.2.2.2])), (a1, .inl (cI, 12, .inl (u.1))), (a2, .inl (cI, 11, .inl (u.2.1))), (a3, .inl (cI, 24, .inl (u.2.2.1)))] sz) [(a0, .inr (2, [.ref a1, .ref a2, .ref a3, .int w.2.2.2.1, .int w.2.2.2.2.1, .int w.2.2.2.2.2.1, .int w.2.2.2.2.2.2])), (a1, .inl (cI, 12, .inl (w.1))), (a2, .inl (cI, 11, .inl (w.2.1))), (a3, .inl (cI, 24, .inl (w.2.2.1)))]) (va_A [(a0, .inr (2, [.ref a1, .ref a2, .ref a3, .int u.2.2.2.1, .int u.2.2.2.2.1, .int u.2.2.2.2.2.1, .int u.2.2.2.2.2.2])), (a1, .inl (cI, 12, .inl (u.1))), (a2, .inl (cI, 11, .inl (u.2.1))), (a3, .inl (cI, 24, .inl (u.2.2.1)))] sz)) 0 0 (va_A [(a0, .inr (2, [.ref a1, .ref a2, .ref a3, .int u.2.2.2.1, .int u.2.2.2.2.1, .int u.2.2.2.2.2.1, .int u.2.2.2.2.2.2])), (a1, .inl (cI, 12, .inl (u.1))), (a2, .inl (cI, 11, .inl (u.2.1))), (a3, .inl (cI, 24, .inl (u.2.2.1)))] sz) := by
  refine Met.ofW (cc := b_Line_command) (maxL := 1) (ret := (some .int)) (by decide) rfl ?_
  intro p e s m args below meth c s₁ B hml hv
  obtain ⟨rfl, hsz, hP, hK, hD0, hN⟩ := hv
  have hx := B.exec
  have hb := B.bytes
  have hr := B.returns
  have hts : ∀ w ∈ TB, w.before _ s = true := fun w h => atoms_spec (ws := w_Line_command) B.pre w (List.mem_cons_of_mem _ h)
  have hown : s.vm.findClass R_Line = some m.cls := findClass_of_methodNamed B.named
  have hlocks := B.notSynchronized
  subst hsz
  have hD := hD0.self (sz := s.heap.size)
  generalize hAe : va_A [(a0, .inr (2, [.ref a1, .ref a2, .ref a3, .int u.2.2.2.1, .int u.2.2.2.2.1, .int u.2.2.2.2.2.1, .int u.2.2.2.2.2.2])), (a1, .inl (cI, 12, .inl (u.1))), (a2, .inl (cI, 11, .inl (u.2.1))), (a3, .inl (cI, 24, .inl (u.2.2.1)))] s.heap.size = A at hD ⊢
  have hA : ∀ q : Nat, s.heap.size ≤ q → A q := fun q h => by rw [← hAe]; exact Or.inr h
  have hS : va_S A s.heap s.heap [] := va_S.rf
  have hl := lv_entry ([.ref a0]) (n := 1) (Nat.le_of_ble_eq_true rfl)
  rw [lg_entry_eq]
  generalize (lg_sl ([.ref a0]) ++ List.replicate (1 - (lg_sl ([.ref a0])).length) Slot.unset).toArray = ls at hl ⊢
  have hl : lv_has ls 1 [(0, .ref a0)] := hl
  refine nameQ (fun Q hQe => ?_)
  rw [f_Line_command] at hf
  refine lv_aload_n hx hb d_Line_command_0 rfl (lv_at hl 0 rfl) ?_
  refine va_get (D := (dC, dI)) (ci := 2) (v := .ref a1) (C := R_Line) (T := T_Line) (N := 7) hx hb hts in_Line hown hK hP 0 rfl rfl 0 (by decide) (hts _ t_172) (fun _ h9 => h9) rfl d_Line_command_1 ?_
  refine lv_iconst (v := 0) hx hb d_Line_command_4 (by decide) ?_
  obtain ⟨h1, hf⟩ := gi_t hf
  refine va_iald hx hb hK hP 1 0 rfl rfl h1 d_Line_command_5 ?_
  refine lv_topi (fun x2 ex2 => ?_)
  have hf := bd_t ex2 hf
  have hf := Option.some.inj hf
  rw [hQe]
  exact W.iret (v := x2) hx hb hr (fun t ht hW => ⟨⟨x2, u, rfl, ⟨congrArg Prod.fst hf, congrArg Prod.snd hf⟩, by rw [ht]; exact hP, va_K.moved hW.alike hK, hD⟩, hS.F ht⟩) hS.2.2 d_Line_command_6
def f_Line_argument (u : S_Line) : Option (Int32 × S_Line) := gi (1 : Int32) 12 (bd (u.1 (1 : Int32).toNatClampNeg) (fun x2 : Int32 => some (x2, u)))
set_option maxHeartbeats 4000000 in
set_option maxRecDepth 100000 in
theorem c_Line_argument (l : Launch) (dC : Nat → ClassId) (dI : Nat → Nat → Nat) (cI cL cD : ClassId) (a0 a1 a2 a3 : Nat) (sz : Nat) (u : S_Line) (res : Int32 × S_Line) (hf : f_Line_argument u = some res) : Met l y_Line_argument w_Line_argument ({ frames := 0, cells := 0, slots := 0, locals := 0 }) (va_Pc [.ref a0] (fun U => U.heap.size = sz ∧ va_P (dC, dI) CL [(a0, .inr (2, [.ref a1, .ref a2, .ref a3, .int u.2.2.2.1, .int u.2.2.2.2.1, .int u.2.2.2.2.2.1, .int u.2.2.2.2.2.2])), (a1, .inl (cI, 12, .inl (u.1))), (a2, .inl (cI, 11, .inl (u.2.1))), (a3, .inl (cI, 24, .inl (u.2.2.1)))] U.heap ∧ va_K (dC, dI) CL [(cI, .int), (cL, .long), (cD, .double)] U ∧ va_D (fun _ => True) [(a0, .inr (2, [.ref a1, .ref a2, .ref a3, .int u.2.2.2.1, .int u.2.2.2.2.1, .int u.2.2.2.2.2.1, .int u.2.2.2.2.2.2])), (a1, .inl (cI, 12, .inl (u.1))), (a2, .inl (cI, 11, .inl (u.2.1))), (a3, .inl (cI, 24, .inl (u.2.2.1)))] ∧ NWs U)) (va_Qi (fun (r : Int32) (w : S_Line) => r = res.1 ∧ w = res.2) (fun (w : S_Line) t => va_P (dC, dI) CL [(a0, .inr (2, [.ref a1, .ref a2, .ref a3, .int w.2.2.2.1, .int w.2.2.2.2.1, .int w.2.2.2.2.2.1, .int w.2.2.2.2.2.2])), (a1, .inl (cI, 12, .inl (w.1))), (a2, .inl (cI, 11, .inl (w.2.1))), (a3, .inl (cI, 24, .inl (w.2.2.1)))] t.heap ∧ va_K (dC, dI) CL [(cI, .int), (cL, .long), (cD, .double)] t ∧ va_D (va_A [(a0, .inr (2, [.ref a1, .ref a2, .ref a3, .int u.2.2.2.1, .int u.2.2.2.2.1, .int u.2.2.2.2.2.1, .int u.2.2.2.2.2.2])), (a1, .inl (cI, 12, .inl (u.1))), (a2, .inl (cI, 11, .inl (u.2.1))), (a3, .inl (cI, 24, .inl (u.2.2.1)))] sz) [(a0, .inr (2, [.ref a1, .ref a2, .ref a3, .int w.2.2.2.1, .int w.2.2.2.2.1, .int w.2.2.2.2.2.1, .int w.2.2.2.2.2.2])), (a1, .inl (cI, 12, .inl (w.1))), (a2, .inl (cI, 11, .inl (w.2.1))), (a3, .inl (cI, 24, .inl (w.2.2.1)))]) (va_A [(a0, .inr (2, [.ref a1, .ref a2, .ref a3, .int u.2.2.2.1, .int u.2.2.2.2.1, .int u.2.2.2.2.2.1, .int u.2.2.2.2.2.2])), (a1, .inl (cI, 12, .inl (u.1))), (a2, .inl (cI, 11, .inl (u.2.1))), (a3, .inl (cI, 24, .inl (u.2.2.1)))] sz)) 0 0 (va_A [(a0, .inr (2, [.ref a1, .ref a2, .ref a3, .int u.2.2.2.1, .int u.2.2.2.2.1, .int u.2.2.2.2.2.1, .int u.2.2.2.2.2.2])), (a1, .inl (cI, 12, .inl (u.1))), (a2, .inl (cI, 11, .inl (u.2.1))), (a3, .inl (cI, 24, .inl (u.2.2.1)))] sz) := by
  refine Met.ofW (cc := b_Line_argument) (maxL := 1) (ret := (some .int)) (by decide) rfl ?_
  intro p e s m args below meth c s₁ B hml hv
  obtain ⟨rfl, hsz, hP, hK, hD0, hN⟩ := hv
  have hx := B.exec
  have hb := B.bytes
  have hr := B.returns
  have hts : ∀ w ∈ TB, w.before _ s = true := fun w h => atoms_spec (ws := w_Line_argument) B.pre w (List.mem_cons_of_mem _ h)
  have hown : s.vm.findClass R_Line = some m.cls := findClass_of_methodNamed B.named
  have hlocks := B.notSynchronized
  subst hsz
  have hD := hD0.self (sz := s.heap.size)
  generalize hAe : va_A [(a0, .inr (2, [.ref a1, .ref a2, .ref a3, .int u.2.2.2.1, .int u.2.2.2.2.1, .int u.2.2.2.2.2.1, .int u.2.2.2.2.2.2])), (a1, .inl (cI, 12, .inl (u.1))), (a2, .inl (cI, 11, .inl (u.2.1))), (a3, .inl (cI, 24, .inl (u.2.2.1)))] s.heap.size = A at hD ⊢
  have hA : ∀ q : Nat, s.heap.size ≤ q → A q := fun q h => by rw [← hAe]; exact Or.inr h
  have hS : va_S A s.heap s.heap [] := va_S.rf
  have hl := lv_entry ([.ref a0]) (n := 1) (Nat.le_of_ble_eq_true rfl)
  rw [lg_entry_eq]
  generalize (lg_sl ([.ref a0]) ++ List.replicate (1 - (lg_sl ([.ref a0])).length) Slot.unset).toArray = ls at hl ⊢
  have hl : lv_has ls 1 [(0, .ref a0)] := hl
  refine nameQ (fun Q hQe => ?_)
  rw [f_Line_argument] at hf
  refine lv_aload_n hx hb d_Line_argument_0 rfl (lv_at hl 0 rfl) ?_
  refine va_get (D := (dC, dI)) (ci := 2) (v := .ref a1) (C := R_Line) (T := T_Line) (N := 7) hx hb hts in_Line hown hK hP 0 rfl rfl 0 (by decide) (hts _ t_172) (fun _ h9 => h9) rfl d_Line_argument_1 ?_
  refine lv_iconst (v := 1) hx hb d_Line_argument_4 (by decide) ?_
  obtain ⟨h1, hf⟩ := gi_t hf
  refine va_iald hx hb hK hP 1 0 rfl rfl h1 d_Line_argument_5 ?_
  refine lv_topi (fun x2 ex2 => ?_)
  have hf := bd_t ex2 hf
  have hf := Option.some.inj hf
  rw [hQe]
  exact W.iret (v := x2) hx hb hr (fun t ht hW => ⟨⟨x2, u, rfl, ⟨congrArg Prod.fst hf, congrArg Prod.snd hf⟩, by rw [ht]; exact hP, va_K.moved hW.alike hK, hD⟩, hS.F ht⟩) hS.2.2 d_Line_argument_6
def f_Line_frameAnswer_40 (r_12 : Int32 → Int32 → S_Line → Option (S_Line)) (v1 : Int32) (v2 : Int32) (v3 : Int32) (u : S_Line) : Option (S_Line) := gi v1 24 (bd (upd u.2.2.1 v1.toNatClampNeg (125 : Int32)) (fun F16 : Nat → Int32 => bd (v1 + (1 : Int32)) (fun x17 : Int32 => bd (v3 ^^^ (32 : Int32)) (fun x18 : Int32 => gi x17 24 (bd (upd F16 x17.toNatClampNeg x18) (fun F20 : Nat → Int32 => bd (x17 + (1 : Int32)) (fun x21 : Int32 => bd (v2 + (1 : Int32)) (fun x22 : Int32 => r_12 x21 x22 (u.1, u.2.1, F20, u.2.2.2.1, u.2.2.2.2.1, u.2.2.2.2.2.1, u.2.2.2.2.2.2)))))))))
def f_Line_frameAnswer_12 : Nat → Int32 → Int32 → S_Line → Option (S_Line)
  | 0, _, _, _ => none
  | n + 1, v1, v2, u => (if (11 : Int32) ≤ v2 then gi v1 24 (bd (upd u.2.2.1 v1.toNatClampNeg (126 : Int32)) (fun F5 : Nat → Int32 => bd (v1 + (1 : Int32)) (fun x6 : Int32 => some (u.1, u.2.1, F5, u.2.2.2.1, x6, u.2.2.2.2.2.1, u.2.2.2.2.2.2)))) else gi v2 11 (bd (u.2.1 v2.toNatClampNeg) (fun x8 : Int32 => (if x8 = (126 : Int32) then f_Line_frameAnswer_40 (f_Line_frameAnswer_12 n) v1 v2 x8 u else (if x8 = (125 : Int32) then f_Line_frameAnswer_40 (f_Line_frameAnswer_12 n) v1 v2 x8 u else gi v1 24 (bd (upd u.2.2.1 v1.toNatClampNeg x8) (fun F12 : Nat → Int32 => bd (v1 + (1 : Int32)) (fun x13 : Int32 => bd (v2 + (1 : Int32)) (fun x14 : Int32 => (f_Line_frameAnswer_12 n) x13 x14 (u.1, u.2.1, F12, u.2.2.2.1, u.2.2.2.2.1, u.2.2.2.2.2.1, u.2.2.2.2.2.2))))))))))
def f_Line_frameAnswer (u : S_Line) : Option (S_Line) := gi (0 : Int32) 24 (bd (upd u.2.2.1 (0 : Int32).toNatClampNeg (126 : Int32)) (fun F2 : Nat → Int32 => f_Line_frameAnswer_12 64 (1 : Int32) (0 : Int32) (u.1, u.2.1, F2, u.2.2.2.1, u.2.2.2.2.1, u.2.2.2.2.2.1, u.2.2.2.2.2.2)))
set_option maxHeartbeats 4000000 in
set_option maxRecDepth 100000 in
theorem c_Line_frameAnswer (l : Launch) (dC : Nat → ClassId) (dI : Nat → Nat → Nat) (cI cL cD : ClassId) (a0 a1 a2 a3 : Nat) (sz : Nat) (u : S_Line) (res : S_Line) (hf : f_Line_frameAnswer u = some res) : Met l y_Line_frameAnswer w_Line_frameAnswer ({ frames := 0, cells := 0, slots := 0, locals := 0 }) (va_Pc [.ref a0] (fun U => U.heap.size = sz ∧ va_P (dC, dI) CL [(a0, .inr (2, [.ref a1, .ref a2, .ref a3, .int u.2.2.2.1, .int u.2.2.2.2.1, .int u.2.2.2.2.2.1, .int u.2.2.2.2.2.2])), (a1, .inl (cI, 12, .inl (u.1))), (a2, .inl (cI, 11, .inl (u.2.1))), (a3, .inl (cI, 24, .inl (u.2.2.1)))] U.heap ∧ va_K (dC, dI) CL [(cI, .int), (cL, .long), (cD, .double)] U ∧ va_D (fun _ => True) [(a0, .inr (2, [.ref a1, .ref a2, .ref a3, .int u.2.2.2.1, .int u.2.2.2.2.1, .int u.2.2.2.2.2.1, .int u.2.2.2.2.2.2])), (a1, .inl (cI, 12, .inl (u.1))), (a2, .inl (cI, 11, .inl (u.2.1))), (a3, .inl (cI, 24, .inl (u.2.2.1)))] ∧ NWs U)) (va_Qv (fun (w : S_Line) => w = res) (fun (w : S_Line) t => va_P (dC, dI) CL [(a0, .inr (2, [.ref a1, .ref a2, .ref a3, .int w.2.2.2.1, .int w.2.2.2.2.1, .int w.2.2.2.2.2.1, .int w.2.2.2.2.2.2])), (a1, .inl (cI, 12, .inl (w.1))), (a2, .inl (cI, 11, .inl (w.2.1))), (a3, .inl (cI, 24, .inl (w.2.2.1)))] t.heap ∧ va_K (dC, dI) CL [(cI, .int), (cL, .long), (cD, .double)] t ∧ va_D (va_A [(a0, .inr (2, [.ref a1, .ref a2, .ref a3, .int u.2.2.2.1, .int u.2.2.2.2.1, .int u.2.2.2.2.2.1, .int u.2.2.2.2.2.2])), (a1, .inl (cI, 12, .inl (u.1))), (a2, .inl (cI, 11, .inl (u.2.1))), (a3, .inl (cI, 24, .inl (u.2.2.1)))] sz) [(a0, .inr (2, [.ref a1, .ref a2, .ref a3, .int w.2.2.2.1, .int w.2.2.2.2.1, .int w.2.2.2.2.2.1, .int w.2.2.2.2.2.2])), (a1, .inl (cI, 12, .inl (w.1))), (a2, .inl (cI, 11, .inl (w.2.1))), (a3, .inl (cI, 24, .inl (w.2.2.1)))]) (va_A [(a0, .inr (2, [.ref a1, .ref a2, .ref a3, .int u.2.2.2.1, .int u.2.2.2.2.1, .int u.2.2.2.2.2.1, .int u.2.2.2.2.2.2])), (a1, .inl (cI, 12, .inl (u.1))), (a2, .inl (cI, 11, .inl (u.2.1))), (a3, .inl (cI, 24, .inl (u.2.2.1)))] sz)) 0 0 (va_A [(a0, .inr (2, [.ref a1, .ref a2, .ref a3, .int u.2.2.2.1, .int u.2.2.2.2.1, .int u.2.2.2.2.2.1, .int u.2.2.2.2.2.2])), (a1, .inl (cI, 12, .inl (u.1))), (a2, .inl (cI, 11, .inl (u.2.1))), (a3, .inl (cI, 24, .inl (u.2.2.1)))] sz) := by
  refine Met.ofW (cc := b_Line_frameAnswer) (maxL := 4) (ret := none) (by decide) rfl ?_
  intro p e s m args below meth c s₁ B hml hv
  obtain ⟨rfl, hsz, hP, hK, hD0, hN⟩ := hv
  have hx := B.exec
  have hb := B.bytes
  have hr := B.returns
  have hts : ∀ w ∈ TB, w.before _ s = true := fun w h => atoms_spec (ws := w_Line_frameAnswer) B.pre w (List.mem_cons_of_mem _ h)
  have hown : s.vm.findClass R_Line = some m.cls := findClass_of_methodNamed B.named
  have hlocks := B.notSynchronized
  subst hsz
  have hD := hD0.self (sz := s.heap.size)
  generalize hAe : va_A [(a0, .inr (2, [.ref a1, .ref a2, .ref a3, .int u.2.2.2.1, .int u.2.2.2.2.1, .int u.2.2.2.2.2.1, .int u.2.2.2.2.2.2])), (a1, .inl (cI, 12, .inl (u.1))), (a2, .inl (cI, 11, .inl (u.2.1))), (a3, .inl (cI, 24, .inl (u.2.2.1)))] s.heap.size = A at hD ⊢
  have hA : ∀ q : Nat, s.heap.size ≤ q → A q := fun q h => by rw [← hAe]; exact Or.inr h
  have hS : va_S A s.heap s.heap [] := va_S.rf
  have hl := lv_entry ([.ref a0]) (n := 4) (Nat.le_of_ble_eq_true rfl)
  rw [lg_entry_eq]
  generalize (lg_sl ([.ref a0]) ++ List.replicate (4 - (lg_sl ([.ref a0])).length) Slot.unset).toArray = ls at hl ⊢
  have hl : lv_has ls 4 [(0, .ref a0)] := hl
  refine nameQ (fun Q hQe => ?_)
  have k_40 : ∀ (r_12 : Int32 → Int32 → S_Line → Option (S_Line)) (k_12 : ∀ (v1 : Int32) (v2 : Int32) (u : S_Line), r_12 v1 v2 u = some res → ∀ (H : Heap) (locs : List Loc), va_P (dC, dI) CL [(a0, .inr (2, [.ref a1, .ref a2, .ref a3, .int u.2.2.2.1, .int u.2.2.2.2.1, .int u.2.2.2.2.2.1, .int u.2.2.2.2.2.2])), (a1, .inl (cI, 12, .inl (u.1))), (a2, .inl (cI, 11, .inl (u.2.1))), (a3, .inl (cI, 24, .inl (u.2.2.1)))] H → va_D A [(a0, .inr (2, [.ref a1, .ref a2, .ref a3, .int u.2.2.2.1, .int u.2.2.2.2.1, .int u.2.2.2.2.2.1, .int u.2.2.2.2.2.2])), (a1, .inl (cI, 12, .inl (u.1))), (a2, .inl (cI, 11, .inl (u.2.1))), (a3, .inl (cI, 24, .inl (u.2.2.1)))] → va_S A s.heap H locs → ∀ (ls : Array Slot), lv_has ls 4 [(0, .ref a0), (1, .int v1), (2, .int v2)] → W p l e (headSpec w_Line_frameAnswer ({ frames := 0, cells := 0, slots := 0, locals := 0 })).room s m ([.ref a0] : List Value).toArray below meth c H locs 0 0 Q (F0 m 12 ls [])), ∀ (v1 : Int32) (v2 : Int32) (v3 : Int32) (u : S_Line), f_Line_frameAnswer_40 r_12 v1 v2 v3 u = some res → ∀ (H : Heap) (locs : List Loc), va_P (dC, dI) CL [(a0, .inr (2, [.ref a1, .ref a2, .ref a3, .int u.2.2.2.1, .int u.2.2.2.2.1, .int u.2.2.2.2.2.1, .int u.2.2.2.2.2.2])), (a1, .inl (cI, 12, .inl (u.1))), (a2, .inl (cI, 11, .inl (u.2.1))), (a3, .inl (cI, 24, .inl (u.2.2.1)))] H → va_D A [(a0, .inr (2, [.ref a1, .ref a2, .ref a3, .int u.2.2.2.1, .int u.2.2.2.2.1, .int u.2.2.2.2.2.1, .int u.2.2.2.2.2.2])), (a1, .inl (cI, 12, .inl (u.1))), (a2, .inl (cI, 11, .inl (u.2.1))), (a3, .inl (cI, 24, .inl (u.2.2.1)))] → va_S A s.heap H locs → ∀ (ls : Array Slot), lv_has ls 4 [(0, .ref a0), (1, .int v1), (2, .int v2), (3, .int v3)] → W p l e (headSpec w_Line_frameAnswer ({ frames := 0, cells := 0, slots := 0, locals := 0 })).room s m ([.ref a0] : List Value).toArray below meth c H locs 0 0 Q (F0 m 40 ls []) := by
    intro r_12 k_12 v1 v2 v3 u hf H locs hP hD hS ls hl
    rw [f_Line_frameAnswer_40] at hf
    refine lv_aload_n hx hb d_Line_frameAnswer_40 rfl (lv_at hl 0 rfl) ?_
    refine va_get (D := (dC, dI)) (ci := 2) (v := .ref a3) (C := R_Line) (T := T_Line) (N := 7) hx hb hts in_Line hown hK hP 0 rfl rfl 2 (by decide) (hts _ t_174) (fun _ h9 => h9) rfl d_Line_frameAnswer_41 ?_
    refine lv_iload_n hx hb d_Line_frameAnswer_44 rfl (lv_at hl 1 rfl) ?_
    refine lv_bipush (v := 125) hx hb d_Line_frameAnswer_45 (by decide) ?_
    obtain ⟨h15, hf⟩ := gi_t hf
    refine va_iast hx hb hK hP hD hS 3 0 rfl rfl h15 d_Line_frameAnswer_47 (fun H locs hP hD hS => ?_)
    obtain ⟨F16, eF16⟩ : ∃ y : Nat → Int32, y = upd u.2.2.1 v1.toNatClampNeg (125 : Int32) := ⟨_, rfl⟩
    have hf := bd_t eF16 hf
    have hP : va_P (dC, dI) CL [(a0, .inr (2, [.ref a1, .ref a2, .ref a3, .int u.2.2.2.1, .int u.2.2.2.2.1, .int u.2.2.2.2.2.1, .int u.2.2.2.2.2.2])), (a1, .inl (cI, 12, .inl (u.1))), (a2, .inl (cI, 11, .inl (u.2.1))), (a3, .inl (cI, 24, .inl (F16)))] H := by rw [eF16]; exact hP
    have hD : va_D A [(a0, .inr (2, [.ref a1, .ref a2, .ref a3, .int u.2.2.2.1, .int u.2.2.2.2.1, .int u.2.2.2.2.2.1, .int u.2.2.2.2.2.2])), (a1, .inl (cI, 12, .inl (u.1))), (a2, .inl (cI, 11, .inl (u.2.1))), (a3, .inl (cI, 24, .inl (F16)))] := by rw [eF16]; exact hD
    obtain ⟨x17, ex17⟩ : ∃ y : Int32, y = v1 + (1 : Int32) := ⟨_, rfl⟩
    have hf := bd_t ex17 hf
    refine lv_iinc (v := x17) (lv' := [(1, .int x17), (0, .ref a0), (2, .int v2), (3, .int v3)]) hx hb d_Line_frameAnswer_48 hl (k := 1) rfl (by rw [ex17]; rfl) (by decide) rfl (fun ls hl => ?_)
    refine lv_iload_n hx hb d_Line_frameAnswer_51 rfl (lv_at hl 3 rfl) ?_
    refine lv_bipush (v := 32) hx hb d_Line_frameAnswer_52 (by decide) ?_
    refine lv_ixor hx hb d_Line_frameAnswer_54 ?_
    refine lv_topi (fun x18 ex18 => ?_)
    have hf := bd_t ex18 hf
    refine lv_istore_n (lv' := [(3, .int x18), (1, .int x17), (0, .ref a0), (2, .int v2)]) hx hb d_Line_frameAnswer_55 rfl hl (by decide) rfl (fun ls hl => ?_)
    refine lv_aload_n hx hb d_Line_frameAnswer_56 rfl (lv_at hl 2 rfl) ?_
    refine va_get (D := (dC, dI)) (ci := 2) (v := .ref a3) (C := R_Line) (T := T_Line) (N := 7) hx hb hts in_Line hown hK hP 0 rfl rfl 2 (by decide) (hts _ t_174) (fun _ h9 => h9) rfl d_Line_frameAnswer_57 ?_
    refine lv_iload_n hx hb d_Line_frameAnswer_60 rfl (lv_at hl 1 rfl) ?_
    refine lv_iload_n hx hb d_Line_frameAnswer_61 rfl (lv_at hl 0 rfl) ?_
    obtain ⟨h19, hf⟩ := gi_t hf
    refine va_iast hx hb hK hP hD hS 3 0 rfl rfl h19 d_Line_frameAnswer_62 (fun H locs hP hD hS => ?_)
    obtain ⟨F20, eF20⟩ : ∃ y : Nat → Int32, y = upd F16 x17.toNatClampNeg x18 := ⟨_, rfl⟩
    have hf := bd_t eF20 hf
    have hP : va_P (dC, dI) CL [(a0, .inr (2, [.ref a1, .ref a2, .ref a3, .int u.2.2.2.1, .int u.2.2.2.2.1, .int u.2.2.2.2.2.1, .int u.2.2.2.2.2.2])), (a1, .inl (cI, 12, .inl (u.1))), (a2, .inl (cI, 11, .inl (u.2.1))), (a3, .inl (cI, 24, .inl (F20)))] H := by rw [eF20]; exact hP
    have hD : va_D A [(a0, .inr (2, [.ref a1, .ref a2, .ref a3, .int u.2.2.2.1, .int u.2.2.2.2.1, .int u.2.2.2.2.2.1, .int u.2.2.2.2.2.2])), (a1, .inl (cI, 12, .inl (u.1))), (a2, .inl (cI, 11, .inl (u.2.1))), (a3, .inl (cI, 24, .inl (F20)))] := by rw [eF20]; exact hD
    obtain ⟨x21, ex21⟩ : ∃ y : Int32, y = x17 + (1 : Int32) := ⟨_, rfl⟩
    have hf := bd_t ex21 hf
    refine lv_iinc (v := x21) (lv' := [(1, .int x21), (3, .int x18), (0, .ref a0), (2, .int v2)]) hx hb d_Line_frameAnswer_63 hl (k := 1) rfl (by rw [ex21]; rfl) (by decide) rfl (fun ls hl => ?_)
    obtain ⟨x22, ex22⟩ : ∃ y : Int32, y = v2 + (1 : Int32) := ⟨_, rfl⟩
    have hf := bd_t ex22 hf
    refine lv_iinc (v := x22) (lv' := [(2, .int x22), (1, .int x21), (3, .int x18), (0, .ref a0)]) hx hb d_Line_frameAnswer_66 hl (k := 3) rfl (by rw [ex22]; rfl) (by decide) rfl (fun ls hl => ?_)
    refine lv_goto (tgt := 12) hx hb d_Line_frameAnswer_69 (by decide) ?_
    have hl := lv_sub hl (l' := [(0, .ref a0), (1, .int x21), (2, .int x22)]) [3, 1, 0] rfl
    exact k_12 x21 x22 (u.1, u.2.1, F20, u.2.2.2.1, u.2.2.2.2.1, u.2.2.2.2.2.1, u.2.2.2.2.2.2) hf _ _ hP hD hS ls hl
  have k_12 : ∀ (n : Nat), ∀ (v1 : Int32) (v2 : Int32) (u : S_Line), f_Line_frameAnswer_12 n v1 v2 u = some res → ∀ (H : Heap) (locs : List Loc), va_P (dC, dI) CL [(a0, .inr (2, [.ref a1, .ref a2, .ref a3, .int u.2.2.2.1, .int u.2.2.2.2.1, .int u.2.2.2.2.2.1, .int u.2.2.2.2.2.2])), (a1, .inl (cI, 12, .inl (u.1))), (a2, .inl (cI, 11, .inl (u.2.1))), (a3, .inl (cI, 24, .inl (u.2.2.1)))] H → va_D A [(a0, .inr (2, [.ref a1, .ref a2, .ref a3, .int u.2.2.2.1, .int u.2.2.2.2.1, .int u.2.2.2.2.2.1, .int u.2.2.2.2.2.2])), (a1, .inl (cI, 12, .inl (u.1))), (a2, .inl (cI, 11, .inl (u.2.1))), (a3, .inl (cI, 24, .inl (u.2.2.1)))] → va_S A s.heap H locs → ∀ (ls : Array Slot), lv_has ls 4 [(0, .ref a0), (1, .int v1), (2, .int v2)] → W p l e (headSpec w_Line_frameAnswer ({ frames := 0, cells := 0, slots := 0, locals := 0 })).room s m ([.ref a0] : List Value).toArray below meth c H locs 0 0 Q (F0 m 12 ls []) := by
    intro n
    induction n with
    | zero =>
      intro v1 v2 u hf
      simp [f_Line_frameAnswer_12] at hf
    | succ n k_12 =>
      intro v1 v2 u hf H locs hP hD hS ls hl
      rw [f_Line_frameAnswer_12] at hf
      refine lv_iload_n hx hb d_Line_frameAnswer_12 rfl (lv_at hl 2 rfl) ?_
      refine lv_aload_n hx hb d_Line_frameAnswer_13 rfl (lv_at hl 0 rfl) ?_
      refine va_get (D := (dC, dI)) (ci := 2) (v := .ref a2) (C := R_Line) (T := T_Line) (N := 7) hx hb hts in_Line hown hK hP 0 rfl rfl 1 (by decide) (hts _ t_173) (fun _ h9 => h9) rfl d_Line_frameAnswer_14 ?_
      refine va_alen (v := 11) hx hb hK hP 2 0 rfl rfl rfl d_Line_frameAnswer_17 ?_
      refine lv_icmp_ge (tgt := 72) hx hb d_Line_frameAnswer_18 (by decide) (fun c3 => ?_) (fun c3 => ?_)
      · have hf := ite_t c3 hf
        refine lv_aload_n hx hb d_Line_frameAnswer_72 rfl (lv_at hl 0 rfl) ?_
        refine va_get (D := (dC, dI)) (ci := 2) (v := .ref a3) (C := R_Line) (T := T_Line) (N := 7) hx hb hts in_Line hown hK hP 0 rfl rfl 2 (by decide) (hts _ t_174) (fun _ h9 => h9) rfl d_Line_frameAnswer_73 ?_
        refine lv_iload_n hx hb d_Line_frameAnswer_76 rfl (lv_at hl 1 rfl) ?_
        refine lv_bipush (v := 126) hx hb d_Line_frameAnswer_77 (by decide) ?_
        obtain ⟨h4, hf⟩ := gi_t hf
        refine va_iast hx hb hK hP hD hS 3 0 rfl rfl h4 d_Line_frameAnswer_79 (fun H locs hP hD hS => ?_)
        obtain ⟨F5, eF5⟩ : ∃ y : Nat → Int32, y = upd u.2.2.1 v1.toNatClampNeg (126 : Int32) := ⟨_, rfl⟩
        have hf := bd_t eF5 hf
        have hP : va_P (dC, dI) CL [(a0, .inr (2, [.ref a1, .ref a2, .ref a3, .int u.2.2.2.1, .int u.2.2.2.2.1, .int u.2.2.2.2.2.1, .int u.2.2.2.2.2.2])), (a1, .inl (cI, 12, .inl (u.1))), (a2, .inl (cI, 11, .inl (u.2.1))), (a3, .inl (cI, 24, .inl (F5)))] H := by rw [eF5]; exact hP
        have hD : va_D A [(a0, .inr (2, [.ref a1, .ref a2, .ref a3, .int u.2.2.2.1, .int u.2.2.2.2.1, .int u.2.2.2.2.2.1, .int u.2.2.2.2.2.2])), (a1, .inl (cI, 12, .inl (u.1))), (a2, .inl (cI, 11, .inl (u.2.1))), (a3, .inl (cI, 24, .inl (F5)))] := by rw [eF5]; exact hD
        refine lv_aload_n hx hb d_Line_frameAnswer_80 rfl (lv_at hl 0 rfl) ?_
        refine lv_iload_n hx hb d_Line_frameAnswer_81 rfl (lv_at hl 1 rfl) ?_
        refine lv_iconst (v := 1) hx hb d_Line_frameAnswer_82 (by decide) ?_
        refine lv_iadd hx hb d_Line_frameAnswer_83 ?_
        refine lv_topi (fun x6 ex6 => ?_)
        have hf := bd_t ex6 hf
        refine va_put (D := (dC, dI)) (ci := 2) (v := .int x6) (ty := .int) (C := R_Line) (T := T_Line) (N := 7) hx hb hts in_Line ty_Line ty_Line_ok nm_Line hown hK hP hD hS 0 rfl rfl 4 (by decide) (hts _ t_178) (fun _ h9 => h9) rfl (by decide +kernel) rfl rfl (Nat.le_of_ble_eq_true rfl) d_Line_frameAnswer_84 (fun H locs hP hD hS => ?_)
        have hP : va_P (dC, dI) CL [(a0, .inr (2, [.ref a1, .ref a2, .ref a3, .int u.2.2.2.1, .int x6, .int u.2.2.2.2.2.1, .int u.2.2.2.2.2.2])), (a1, .inl (cI, 12, .inl (u.1))), (a2, .inl (cI, 11, .inl (u.2.1))), (a3, .inl (cI, 24, .inl (F5)))] H := hP
        have hD : va_D A [(a0, .inr (2, [.ref a1, .ref a2, .ref a3, .int u.2.2.2.1, .int x6, .int u.2.2.2.2.2.1, .int u.2.2.2.2.2.2])), (a1, .inl (cI, 12, .inl (u.1))), (a2, .inl (cI, 11, .inl (u.2.1))), (a3, .inl (cI, 24, .inl (F5)))] := hD
        have hf := Option.some.inj hf
        rw [hQe]
        exact W.vret hx hb hr (fun t ht hW => ⟨⟨(u.1, u.2.1, F5, u.2.2.2.1, x6, u.2.2.2.2.2.1, u.2.2.2.2.2.2), rfl, hf, by rw [ht]; exact hP, va_K.moved hW.alike hK, hD⟩, hS.F ht⟩) hS.2.2 d_Line_frameAnswer_87
      · have hf := ite_f c3 hf
        refine lv_aload_n hx hb d_Line_frameAnswer_21 rfl (lv_at hl 0 rfl) ?_
        refine va_get (D := (dC, dI)) (ci := 2) (v := .ref a2) (C := R_Line) (T := T_Line) (N := 7) hx hb hts in_Line hown hK hP 0 rfl rfl 1 (by decide) (hts _ t_173) (fun _ h9 => h9) rfl d_Line_frameAnswer_22 ?_
        refine lv_iload_n hx hb d_Line_frameAnswer_25 rfl (lv_at hl 2 rfl) ?_
        obtain ⟨h7, hf⟩ := gi_t hf
        refine va_iald hx hb hK hP 2 0 rfl rfl h7 d_Line_frameAnswer_26 ?_
        refine lv_topi (fun x8 ex8 => ?_)
        have hf := bd_t ex8 hf
        refine lv_istore_n (lv' := [(3, .int x8), (0, .ref a0), (1, .int v1), (2, .int v2)]) hx hb d_Line_frameAnswer_27 rfl hl (by decide) rfl (fun ls hl => ?_)
        refine lv_iload_n hx hb d_Line_frameAnswer_28 rfl (lv_at hl 0 rfl) ?_
        refine lv_bipush (v := 126) hx hb d_Line_frameAnswer_29 (by decide) ?_
        refine lv_icmp_eq (tgt := 40) hx hb d_Line_frameAnswer_31 (by decide) (fun c9 => ?_) (fun c9 => ?_)
        · have hf := ite_t c9 hf
          have hl := lv_sub hl (l' := [(0, .ref a0), (1, .int v1), (2, .int v2), (3, .int x8)]) [1, 2, 3, 0] rfl
          exact k_40 (f_Line_frameAnswer_12 n) k_12 v1 v2 x8 u hf _ _ hP hD hS ls hl
        · have hf := ite_f c9 hf
          refine lv_iload_n hx hb d_Line_frameAnswer_34 rfl (lv_at hl 0 rfl) ?_
          refine lv_bipush (v := 125) hx hb d_Line_frameAnswer_35 (by decide) ?_
          refine lv_icmp_ne (tgt := 56) hx hb d_Line_frameAnswer_37 (by decide) (fun c10 => ?_) (fun c10 => ?_)
          · have hf := ite_f c10 hf
            refine lv_aload_n hx hb d_Line_frameAnswer_56 rfl (lv_at hl 1 rfl) ?_
            refine va_get (D := (dC, dI)) (ci := 2) (v := .ref a3) (C := R_Line) (T := T_Line) (N := 7) hx hb hts in_Line hown hK hP 0 rfl rfl 2 (by decide) (hts _ t_174) (fun _ h9 => h9) rfl d_Line_frameAnswer_57 ?_
            refine lv_iload_n hx hb d_Line_frameAnswer_60 rfl (lv_at hl 2 rfl) ?_
            refine lv_iload_n hx hb d_Line_frameAnswer_61 rfl (lv_at hl 0 rfl) ?_
            obtain ⟨h11, hf⟩ := gi_t hf
            refine va_iast hx hb hK hP hD hS 3 0 rfl rfl h11 d_Line_frameAnswer_62 (fun H locs hP hD hS => ?_)
            obtain ⟨F12, eF12⟩ : ∃ y : Nat → Int32, y = upd u.2.2.1 v1.toNatClampNeg x8 := ⟨_, rfl⟩
            have hf := bd_t eF12 hf
            have hP : va_P (dC, dI) CL [(a0, .inr (2, [.ref a1, .ref a2, .ref a3, .int u.2.2.2.1, .int u.2.2.2.2.1, .int u.2.2.2.2.2.1, .int u.2.2.2.2.2.2])), (a1, .inl (cI, 12, .inl (u.1))), (a2, .inl (cI, 11, .inl (u.2.1))), (a3, .inl (cI, 24, .inl (F12)))] H := by rw [eF12]; exact hP
            have hD : va_D A [(a0, .inr (2, [.ref a1, .ref a2, .ref a3, .int u.2.2.2.1, .int u.2.2.2.2.1, .int u.2.2.2.2.2.1, .int u.2.2.2.2.2.2])), (a1, .inl (cI, 12, .inl (u.1))), (a2, .inl (cI, 11, .inl (u.2.1))), (a3, .inl (cI, 24, .inl (F12)))] := by rw [eF12]; exact hD
            obtain ⟨x13, ex13⟩ : ∃ y : Int32, y = v1 + (1 : Int32) := ⟨_, rfl⟩
            have hf := bd_t ex13 hf
            refine lv_iinc (v := x13) (lv' := [(1, .int x13), (3, .int x8), (0, .ref a0), (2, .int v2)]) hx hb d_Line_frameAnswer_63 hl (k := 2) rfl (by rw [ex13]; rfl) (by decide) rfl (fun ls hl => ?_)
            obtain ⟨x14, ex14⟩ : ∃ y : Int32, y = v2 + (1 : Int32) := ⟨_, rfl⟩
            have hf := bd_t ex14 hf
            refine lv_iinc (v := x14) (lv' := [(2, .int x14), (1, .int x13), (3, .int x8), (0, .ref a0)]) hx hb d_Line_frameAnswer_66 hl (k := 3) rfl (by rw [ex14]; rfl) (by decide) rfl (fun ls hl => ?_)
            refine lv_goto (tgt := 12) hx hb d_Line_frameAnswer_69 (by decide) ?_
            have hl := lv_sub hl (l' := [(0, .ref a0), (1, .int x13), (2, .int x14)]) [3, 1, 0] rfl
            exact k_12 x13 x14 (u.1, u.2.1, F12, u.2.2.2.1, u.2.2.2.2.1, u.2.2.2.2.2.1, u.2.2.2.2.2.2) hf _ _ hP hD hS ls hl
          · have hf := ite_t c10 hf
            have hl := lv_sub hl (l' := [(0, .ref a0), (1, .int v1), (2, .int v2), (3, .int x8)]) [1, 2, 3, 0] rfl
            exact k_40 (f_Line_frameAnswer_12 n) k_12 v1 v2 x8 u hf _ _ hP hD hS ls hl
  rw [f_Line_frameAnswer] at hf
  refine lv_aload_n hx hb d_Line_frameAnswer_0 rfl (lv_at hl 0 rfl) ?_
  refine va_get (D := (dC, dI)) (ci := 2) (v := .ref a3) (C := R_Line) (T := T_Line) (N := 7) hx hb hts in_Line hown hK hP 0 rfl rfl 2 (by decide) (hts _ t_174) (fun _ h9 => h9) rfl d_Line_frameAnswer_1 ?_
  refine lv_iconst (v := 0) hx hb d_Line_frameAnswer_4 (by decide) ?_
  refine lv_bipush (v := 126) hx hb d_Line_frameAnswer_5 (by decide) ?_
  obtain ⟨h1, hf⟩ := gi_t hf
  refine va_iast hx hb hK hP hD hS 3 0 rfl rfl h1 d_Line_frameAnswer_7 (fun H locs hP hD hS => ?_)
  obtain ⟨F2, eF2⟩ : ∃ y : Nat → Int32, y = upd u.2.2.1 (0 : Int32).toNatClampNeg (126 : Int32) := ⟨_, rfl⟩
  have hf := bd_t eF2 hf
  have hP : va_P (dC, dI) CL [(a0, .inr (2, [.ref a1, .ref a2, .ref a3, .int u.2.2.2.1, .int u.2.2.2.2.1, .int u.2.2.2.2.2.1, .int u.2.2.2.2.2.2])), (a1, .inl (cI, 12, .inl (u.1))), (a2, .inl (cI, 11, .inl (u.2.1))), (a3, .inl (cI, 24, .inl (F2)))] H := by rw [eF2]; exact hP
  have hD : va_D A [(a0, .inr (2, [.ref a1, .ref a2, .ref a3, .int u.2.2.2.1, .int u.2.2.2.2.1, .int u.2.2.2.2.2.1, .int u.2.2.2.2.2.2])), (a1, .inl (cI, 12, .inl (u.1))), (a2, .inl (cI, 11, .inl (u.2.1))), (a3, .inl (cI, 24, .inl (F2)))] := by rw [eF2]; exact hD
  refine lv_iconst (v := 1) hx hb d_Line_frameAnswer_8 (by decide) ?_
  refine lv_istore_n (lv' := [(1, .int (1 : Int32)), (0, .ref a0)]) hx hb d_Line_frameAnswer_9 rfl hl (by decide) rfl (fun ls hl => ?_)
  refine lv_iconst (v := 0) hx hb d_Line_frameAnswer_10 (by decide) ?_
  refine lv_istore_n (lv' := [(2, .int (0 : Int32)), (1, .int (1 : Int32)), (0, .ref a0)]) hx hb d_Line_frameAnswer_11 rfl hl (by decide) rfl (fun ls hl => ?_)
  have hl := lv_sub hl (l' := [(0, .ref a0), (1, .int (1 : Int32)), (2, .int (0 : Int32))]) [2, 1, 0] rfl
  exact k_12 64 (1 : Int32) (0 : Int32) (u.1, u.2.1, F2, u.2.2.2.1, u.2.2.2.2.1, u.2.2.2.2.2.1, u.2.2.2.2.2.2) hf _ _ hP hD hS ls hl
def f_Line_answer_14 : Nat → Int64 → Int32 → S_Line → Option (Int32 × S_Line)
  | 0, _, _, _ => none
  | n + 1, v2, v4, u => (if (8 : Int32) < v4 then ca (f_Line_fcsOf 11 (9 : Int32) u.2.1) (fun r5 w6 => bd (r5 - r5 / (256 : Int32) * (256 : Int32)) (fun x7 : Int32 => gi (9 : Int32) 11 (bd (upd w6 (9 : Int32).toNatClampNeg x7) (fun F9 : Nat → Int32 => bd (r5 / (256 : Int32)) (fun x10 : Int32 => gi (10 : Int32) 11 (bd (upd F9 (10 : Int32).toNatClampNeg x10) (fun F12 : Nat → Int32 => cv (f_Line_frameAnswer (u.1, F12, u.2.2.1, u.2.2.2.1, u.2.2.2.2.1, u.2.2.2.2.2.1, u.2.2.2.2.2.2)) (fun w13 => some (w13.2.2.2.2.1, w13))))))))) else bd ((8 : Int32) - v4) (fun x14 : Int32 => bd ((8 : Int32) * x14) (fun x15 : Int32 => bd (v2 >>> (x15.toInt64 &&& 63)) (fun x16 : Int64 => bd (x16.toInt32) (fun x17 : Int32 => bd (x17 &&& (255 : Int32)) (fun x18 : Int32 => gi v4 11 (bd (upd u.2.1 v4.toNatClampNeg x18) (fun F20 : Nat → Int32 => bd (v4 + (1 : Int32)) (fun x21 : Int32 => (f_Line_answer_14 n) v2 x21 (u.1, F20, u.2.2.1, u.2.2.2.1, u.2.2.2.2.1, u.2.2.2.2.2.1, u.2.2.2.2.2.2))))))))))
def f_Line_answer (p1 : Int32) (p2 : Int64) (u : S_Line) : Option (Int32 × S_Line) := bd (p1 + (128 : Int32)) (fun x1 : Int32 => gi (0 : Int32) 11 (bd (upd u.2.1 (0 : Int32).toNatClampNeg x1) (fun F3 : Nat → Int32 => f_Line_answer_14 64 p2 (1 : Int32) (u.1, F3, u.2.2.1, u.2.2.2.1, u.2.2.2.2.1, u.2.2.2.2.2.1, u.2.2.2.2.2.2))))
set_option maxHeartbeats 4000000 in
set_option maxRecDepth 100000 in
theorem c_Line_answer (l : Launch) (dC : Nat → ClassId) (dI : Nat → Nat → Nat) (cI cL cD : ClassId) (a0 a1 a2 a3 : Nat) (sz : Nat) (p1 : Int32) (p2 : Int64) (u : S_Line) (res : Int32 × S_Line) (hf : f_Line_answer p1 p2 u = some res) : Met l y_Line_answer w_Line_answer ({ frames := 1, cells := 0, slots := 0, locals := 24 }) (va_Pc [.ref a0, .int p1, .long p2] (fun U => U.heap.size = sz ∧ va_P (dC, dI) CL [(a0, .inr (2, [.ref a1, .ref a2, .ref a3, .int u.2.2.2.1, .int u.2.2.2.2.1, .int u.2.2.2.2.2.1, .int u.2.2.2.2.2.2])), (a1, .inl (cI, 12, .inl (u.1))), (a2, .inl (cI, 11, .inl (u.2.1))), (a3, .inl (cI, 24, .inl (u.2.2.1)))] U.heap ∧ va_K (dC, dI) CL [(cI, .int), (cL, .long), (cD, .double)] U ∧ va_D (fun _ => True) [(a0, .inr (2, [.ref a1, .ref a2, .ref a3, .int u.2.2.2.1, .int u.2.2.2.2.1, .int u.2.2.2.2.2.1, .int u.2.2.2.2.2.2])), (a1, .inl (cI, 12, .inl (u.1))), (a2, .inl (cI, 11, .inl (u.2.1))), (a3, .inl (cI, 24, .inl (u.2.2.1)))] ∧ NWs U)) (va_Qi (fun (r : Int32) (w : S_Line) => r = res.1 ∧ w = res.2) (fun (w : S_Line) t => va_P (dC, dI) CL [(a0, .inr (2, [.ref a1, .ref a2, .ref a3, .int w.2.2.2.1, .int w.2.2.2.2.1, .int w.2.2.2.2.2.1, .int w.2.2.2.2.2.2])), (a1, .inl (cI, 12, .inl (w.1))), (a2, .inl (cI, 11, .inl (w.2.1))), (a3, .inl (cI, 24, .inl (w.2.2.1)))] t.heap ∧ va_K (dC, dI) CL [(cI, .int), (cL, .long), (cD, .double)] t ∧ va_D (va_A [(a0, .inr (2, [.ref a1, .ref a2, .ref a3, .int u.2.2.2.1, .int u.2.2.2.2.1, .int u.2.2.2.2.2.1, .int u.2.2.2.2.2.2])), (a1, .inl (cI, 12, .inl (u.1))), (a2, .inl (cI, 11, .inl (u.2.1))), (a3, .inl (cI, 24, .inl (u.2.2.1)))] sz) [(a0, .inr (2, [.ref a1, .ref a2, .ref a3, .int w.2.2.2.1, .int w.2.2.2.2.1, .int w.2.2.2.2.2.1, .int w.2.2.2.2.2.2])), (a1, .inl (cI, 12, .inl (w.1))), (a2, .inl (cI, 11, .inl (w.2.1))), (a3, .inl (cI, 24, .inl (w.2.2.1)))]) (va_A [(a0, .inr (2, [.ref a1, .ref a2, .ref a3, .int u.2.2.2.1, .int u.2.2.2.2.1, .int u.2.2.2.2.2.1, .int u.2.2.2.2.2.2])), (a1, .inl (cI, 12, .inl (u.1))), (a2, .inl (cI, 11, .inl (u.2.1))), (a3, .inl (cI, 24, .inl (u.2.2.1)))] sz)) 0 0 (va_A [(a0, .inr (2, [.ref a1, .ref a2, .ref a3, .int u.2.2.2.1, .int u.2.2.2.2.1, .int u.2.2.2.2.2.1, .int u.2.2.2.2.2.2])), (a1, .inl (cI, 12, .inl (u.1))), (a2, .inl (cI, 11, .inl (u.2.1))), (a3, .inl (cI, 24, .inl (u.2.2.1)))] sz) := by
  refine Met.ofW (cc := b_Line_answer) (maxL := 5) (ret := (some .int)) (by decide) rfl ?_
  intro p e s m args below meth c s₁ B hml hv
  obtain ⟨rfl, hsz, hP, hK, hD0, hN⟩ := hv
  have hx := B.exec
  have hb := B.bytes
  have hr := B.returns
  have hts : ∀ w ∈ TB, w.before _ s = true := fun w h => atoms_spec (ws := w_Line_answer) B.pre w (List.mem_cons_of_mem _ h)
  have hown : s.vm.findClass R_Line = some m.cls := findClass_of_methodNamed B.named
  have hlocks := B.notSynchronized
  subst hsz
  have hD := hD0.self (sz := s.heap.size)
  generalize hAe : va_A [(a0, .inr (2, [.ref a1, .ref a2, .ref a3, .int u.2.2.2.1, .int u.2.2.2.2.1, .int u.2.2.2.2.2.1, .int u.2.2.2.2.2.2])), (a1, .inl (cI, 12, .inl (u.1))), (a2, .inl (cI, 11, .inl (u.2.1))), (a3, .inl (cI, 24, .inl (u.2.2.1)))] s.heap.size = A at hD ⊢
  have hA : ∀ q : Nat, s.heap.size ≤ q → A q := fun q h => by rw [← hAe]; exact Or.inr h
  have hS : va_S A s.heap s.heap [] := va_S.rf
  have hl := lv_entry ([.ref a0, .int p1, .long p2]) (n := 5) (Nat.le_of_ble_eq_true rfl)
  rw [lg_entry_eq]
  generalize (lg_sl ([.ref a0, .int p1, .long p2]) ++ List.replicate (5 - (lg_sl ([.ref a0, .int p1, .long p2])).length) Slot.unset).toArray = ls at hl ⊢
  have hl : lv_has ls 5 [(0, .ref a0), (1, .int p1), (2, .long p2)] := hl
  refine nameQ (fun Q hQe => ?_)
  have k_14 : ∀ (n : Nat), ∀ (v2 : Int64) (v4 : Int32) (u : S_Line), f_Line_answer_14 n v2 v4 u = some res → ∀ (H : Heap) (locs : List Loc), va_P (dC, dI) CL [(a0, .inr (2, [.ref a1, .ref a2, .ref a3, .int u.2.2.2.1, .int u.2.2.2.2.1, .int u.2.2.2.2.2.1, .int u.2.2.2.2.2.2])), (a1, .inl (cI, 12, .inl (u.1))), (a2, .inl (cI, 11, .inl (u.2.1))), (a3, .inl (cI, 24, .inl (u.2.2.1)))] H → va_D A [(a0, .inr (2, [.ref a1, .ref a2, .ref a3, .int u.2.2.2.1, .int u.2.2.2.2.1, .int u.2.2.2.2.2.1, .int u.2.2.2.2.2.2])), (a1, .inl (cI, 12, .inl (u.1))), (a2, .inl (cI, 11, .inl (u.2.1))), (a3, .inl (cI, 24, .inl (u.2.2.1)))] → va_S A s.heap H locs → ∀ (ls : Array Slot), lv_has ls 5 [(0, .ref a0), (2, .long v2), (4, .int v4)] → W p l e (headSpec w_Line_answer ({ frames := 1, cells := 0, slots := 0, locals := 24 })).room s m ([.ref a0, .int p1, .long p2] : List Value).toArray below meth c H locs 0 0 Q (F0 m 14 ls []) := by
    intro n
    induction n with
    | zero =>
      intro v2 v4 u hf
      simp [f_Line_answer_14] at hf
    | succ n k_14 =>
      intro v2 v4 u hf H locs hP hD hS ls hl
      rw [f_Line_answer_14] at hf
      refine lv_iload hx hb d_Line_answer_14 (lv_at hl 2 rfl) ?_
      refine lv_bipush (v := 8) hx hb d_Line_answer_16 (by decide) ?_
      refine lv_icmp_gt (tgt := 49) hx hb d_Line_answer_18 (by decide) (fun c4 => ?_) (fun c4 => ?_)
      · have hf := ite_t c4 hf
        refine lv_aload_n hx hb d_Line_answer_49 rfl (lv_at hl 0 rfl) ?_
        refine va_get (D := (dC, dI)) (ci := 2) (v := .ref a2) (C := R_Line) (T := T_Line) (N := 7) hx hb hts in_Line hown hK hP 0 rfl rfl 1 (by decide) (hts _ t_173) (fun _ h9 => h9) rfl d_Line_answer_50 ?_
        refine lv_bipush (v := 9) hx hb d_Line_answer_53 (by decide) ?_
        obtain ⟨r5, w6, hc, hf⟩ := ca_t hf
        have hPc := hP.sub (ws' := [(a2, .inl (cI, 11, .inl (u.2.1)))]) [2] rfl
        have hDc := hD.sub (ws' := [(a2, .inl (cI, 11, .inl (u.2.1)))]) [2] (by decide) rfl
        have hFc := va_free (wc := [(a2, .inl (cI, 11, .inl (u.2.1)))]) hD hS hA [2] rfl
        refine va_calli (va_runS (As := [.ref a2, .int (9 : Int32)]) (rest := []) ⟨hx, hb, hml, hown, hts⟩ (c_Line_fcsOf l dC dI cI cL cD a2 11 H.size (9 : Int32) u.2.1 (r5, w6) hc) (va_cwS 2 hts (gS t_598 t_599 t_44 t_600) rfl rfl rfl (by decide +kernel) ⟨(Nat.le_of_ble_eq_true rfl), (Nat.le_of_ble_eq_true rfl)⟩) ⟨fun a U g mk q => by obtain ⟨q0, q1, qP, qK, qD, qN⟩ := q; exact ⟨q0, q1, qP, va_K.moved (u := U) (U := U.calling g mk a) (Vm.Alike.refl U.vm) qK, qD, NWs.same (u := U) (U := U.calling g mk a) rfl qN⟩, fun U hU hW => ⟨rfl, by rw [hU], by rw [hU]; exact hPc, va_K.moved hW.alike hK, hDc.weaken (fun _ _ _ _ => trivial), hN.warm hW⟩⟩ rfl rfl hl.1 rfl (lv_room (Nat.le_of_ble_eq_true rfl)) d_Line_answer_55 ⟨(Nat.le_of_ble_eq_true rfl), (Nat.le_of_ble_eq_true rfl)⟩) hS (fun q _ h => hFc q h) hFc (fun rZ wZ t H1 locs ht hvm hw hB hz1 hk1 hS => ?_)
        obtain ⟨eY, eZ⟩ := hw
        replace eY : r5 = rZ := eY.symm
        replace eZ : w6 = wZ := eZ.symm
        subst eY
        subst eZ
        obtain ⟨hP1, hK1, hD1⟩ := hB
        rw [ht] at hP1
        obtain ⟨hP, hD⟩ := va_join (wr := [(a0, .inr (2, [.ref a1, .ref a2, .ref a3, .int u.2.2.2.1, .int u.2.2.2.2.1, .int u.2.2.2.2.2.1, .int u.2.2.2.2.2.2])), (a1, .inl (cI, 12, .inl (u.1))), (a3, .inl (cI, 24, .inl (u.2.2.1)))]) (w1 := [(a2, .inl (cI, 11, .inl (w6)))]) hP hD [2] [0, 1, 3] rfl rfl (by decide) (by decide) hk1 hFc hP1 hD1
        generalize H1 = H at hP hS ⊢
        have hP := hP.sub (ws' := [(a0, .inr (2, [.ref a1, .ref a2, .ref a3, .int u.2.2.2.1, .int u.2.2.2.2.1, .int u.2.2.2.2.2.1, .int u.2.2.2.2.2.2])), (a1, .inl (cI, 12, .inl (u.1))), (a2, .inl (cI, 11, .inl (w6))), (a3, .inl (cI, 24, .inl (u.2.2.1)))]) [0, 1, 3, 2] rfl
        have hD := hD.sub (ws' := [(a0, .inr (2, [.ref a1, .ref a2, .ref a3, .int u.2.2.2.1, .int u.2.2.2.2.1, .int u.2.2.2.2.2.1, .int u.2.2.2.2.2.2])), (a1, .inl (cI, 12, .inl (u.1))), (a2, .inl (cI, 11, .inl (w6))), (a3, .inl (cI, 24, .inl (u.2.2.1)))]) [0, 1, 3, 2] (by decide) rfl
        refine lv_istore (lv' := [(4, .int r5), (0, .ref a0), (2, .long v2)]) hx hb d_Line_answer_58 hl (by decide) rfl (fun ls hl => ?_)
        refine lv_aload_n hx hb d_Line_answer_60 rfl (lv_at hl 1 rfl) ?_
        refine va_get (D := (dC, dI)) (ci := 2) (v := .ref a2) (C := R_Line) (T := T_Line) (N := 7) hx hb hts in_Line hown hK hP 0 rfl rfl 1 (by decide) (hts _ t_173) (fun _ h9 => h9) rfl d_Line_answer_61 ?_
        refine lv_bipush (v := 9) hx hb d_Line_answer_64 (by decide) ?_
        refine lv_iload hx hb d_Line_answer_66 (lv_at hl 0 rfl) ?_
        refine lv_sipush (v := 256) hx hb d_Line_answer_68 (by decide) ?_
        refine lv_irem hx hb d_Line_answer_71 (by decide) ?_
        refine lv_topi (fun x7 ex7 => ?_)
        have hf := bd_t ex7 hf
        obtain ⟨h8, hf⟩ := gi_t hf
        refine va_iast hx hb hK hP hD hS 2 0 rfl rfl h8 d_Line_answer_72 (fun H locs hP hD hS => ?_)
        obtain ⟨F9, eF9⟩ : ∃ y : Nat → Int32, y = upd w6 (9 : Int32).toNatClampNeg x7 := ⟨_, rfl⟩
        have hf := bd_t eF9 hf
        have hP : va_P (dC, dI) CL [(a0, .inr (2, [.ref a1, .ref a2, .ref a3, .int u.2.2.2.1, .int u.2.2.2.2.1, .int u.2.2.2.2.2.1, .int u.2.2.2.2.2.2])), (a1, .inl (cI, 12, .inl (u.1))), (a2, .inl (cI, 11, .inl (F9))), (a3, .inl (cI, 24, .inl (u.2.2.1)))] H := by rw [eF9]; exact hP
        have hD : va_D A [(a0, .inr (2, [.ref a1, .ref a2, .ref a3, .int u.2.2.2.1, .int u.2.2.2.2.1, .int u.2.2.2.2.2.1, .int u.2.2.2.2.2.2])), (a1, .inl (cI, 12, .inl (u.1))), (a2, .inl (cI, 11, .inl (F9))), (a3, .inl (cI, 24, .inl (u.2.2.1)))] := by rw [eF9]; exact hD
        refine lv_aload_n hx hb d_Line_answer_73 rfl (lv_at hl 1 rfl) ?_
        refine va_get (D := (dC, dI)) (ci := 2) (v := .ref a2) (C := R_Line) (T := T_Line) (N := 7) hx hb hts in_Line hown hK hP 0 rfl rfl 1 (by decide) (hts _ t_173) (fun _ h9 => h9) rfl d_Line_answer_74 ?_
        refine lv_bipush (v := 10) hx hb d_Line_answer_77 (by decide) ?_
        refine lv_iload hx hb d_Line_answer_79 (lv_at hl 0 rfl) ?_
        refine lv_sipush (v := 256) hx hb d_Line_answer_81 (by decide) ?_
        refine lv_idiv hx hb d_Line_answer_84 (by decide) ?_
        refine lv_topi (fun x10 ex10 => ?_)
        have hf := bd_t ex10 hf
        obtain ⟨h11, hf⟩ := gi_t hf
        refine va_iast hx hb hK hP hD hS 2 0 rfl rfl h11 d_Line_answer_85 (fun H locs hP hD hS => ?_)
        obtain ⟨F12, eF12⟩ : ∃ y : Nat → Int32, y = upd F9 (10 : Int32).toNatClampNeg x10 := ⟨_, rfl⟩
        have hf := bd_t eF12 hf
        have hP : va_P (dC, dI) CL [(a0, .inr (2, [.ref a1, .ref a2, .ref a3, .int u.2.2.2.1, .int u.2.2.2.2.1, .int u.2.2.2.2.2.1, .int u.2.2.2.2.2.2])), (a1, .inl (cI, 12, .inl (u.1))), (a2, .inl (cI, 11, .inl (F12))), (a3, .inl (cI, 24, .inl (u.2.2.1)))] H := by rw [eF12]; exact hP
        have hD : va_D A [(a0, .inr (2, [.ref a1, .ref a2, .ref a3, .int u.2.2.2.1, .int u.2.2.2.2.1, .int u.2.2.2.2.2.1, .int u.2.2.2.2.2.2])), (a1, .inl (cI, 12, .inl (u.1))), (a2, .inl (cI, 11, .inl (F12))), (a3, .inl (cI, 24, .inl (u.2.2.1)))] := by rw [eF12]; exact hD
        refine lv_aload_n hx hb d_Line_answer_86 rfl (lv_at hl 1 rfl) ?_
        obtain ⟨w13, hc, hf⟩ := cv_t hf
        have hPc := hP.sub (ws' := [(a0, .inr (2, [.ref a1, .ref a2, .ref a3, .int u.2.2.2.1, .int u.2.2.2.2.1, .int u.2.2.2.2.2.1, .int u.2.2.2.2.2.2])), (a1, .inl (cI, 12, .inl (u.1))), (a2, .inl (cI, 11, .inl (F12))), (a3, .inl (cI, 24, .inl (u.2.2.1)))]) [0, 1, 2, 3] rfl
        have hDc := hD.sub (ws' := [(a0, .inr (2, [.ref a1, .ref a2, .ref a3, .int u.2.2.2.1, .int u.2.2.2.2.1, .int u.2.2.2.2.2.1, .int u.2.2.2.2.2.2])), (a1, .inl (cI, 12, .inl (u.1))), (a2, .inl (cI, 11, .inl (F12))), (a3, .inl (cI, 24, .inl (u.2.2.1)))]) [0, 1, 2, 3] (by decide) rfl
        have hFc := va_free (wc := [(a0, .inr (2, [.ref a1, .ref a2, .ref a3, .int u.2.2.2.1, .int u.2.2.2.2.1, .int u.2.2.2.2.2.1, .int u.2.2.2.2.2.2])), (a1, .inl (cI, 12, .inl (u.1))), (a2, .inl (cI, 11, .inl (F12))), (a3, .inl (cI, 24, .inl (u.2.2.1)))]) hD hS hA [0, 1, 2, 3] rfl
        refine va_callv (va_runV (As := []) (rest := []) ⟨hx, hb, hml, hown, hts⟩ (c_Line_frameAnswer l dC dI cI cL cD a0 a1 a2 a3 H.size (u.1, F12, u.2.2.1, u.2.2.2.1, u.2.2.2.2.1, u.2.2.2.2.2.1, u.2.2.2.2.2.2) w13 hc) (cwV 0 hts (gV t_630 t_632 t_15 t_44 t_633) rfl rfl rfl (by decide +kernel) ⟨(Nat.le_of_ble_eq_true rfl), (Nat.le_of_ble_eq_true rfl)⟩) ⟨fun a U g mk q => by obtain ⟨q0, q1, qP, qK, qD, qN⟩ := q; exact ⟨q0, q1, qP, va_K.moved (u := U) (U := U.calling g mk a) (Vm.Alike.refl U.vm) qK, qD, NWs.same (u := U) (U := U.calling g mk a) rfl qN⟩, va_recv hK hPc (ci := 2) (q0 := 0) rfl rfl, fun U hU hW => ⟨rfl, by rw [hU], by rw [hU]; exact hPc, va_K.moved hW.alike hK, hDc.weaken (fun _ _ _ _ => trivial), hN.warm hW⟩⟩ rfl rfl hl.1 rfl (lv_room (Nat.le_of_ble_eq_true rfl)) d_Line_answer_87 ⟨(Nat.le_of_ble_eq_true rfl), (Nat.le_of_ble_eq_true rfl)⟩) hS (fun q _ h => hFc q h) hFc (fun wZ t H1 locs ht hvm hw hB hz1 hk1 hS => ?_)
        replace hw : w13 = wZ := hw.symm
        subst hw
        obtain ⟨hP1, hK1, hD1⟩ := hB
        rw [ht] at hP1
        obtain ⟨hP, hD⟩ := va_join (wr := []) (w1 := [(a0, .inr (2, [.ref a1, .ref a2, .ref a3, .int w13.2.2.2.1, .int w13.2.2.2.2.1, .int w13.2.2.2.2.2.1, .int w13.2.2.2.2.2.2])), (a1, .inl (cI, 12, .inl (w13.1))), (a2, .inl (cI, 11, .inl (w13.2.1))), (a3, .inl (cI, 24, .inl (w13.2.2.1)))]) hP hD [0, 1, 2, 3] [] rfl rfl (by decide) (by decide) hk1 hFc hP1 hD1
        generalize H1 = H at hP hS ⊢
        have hP := hP.sub (ws' := [(a0, .inr (2, [.ref a1, .ref a2, .ref a3, .int w13.2.2.2.1, .int w13.2.2.2.2.1, .int w13.2.2.2.2.2.1, .int w13.2.2.2.2.2.2])), (a1, .inl (cI, 12, .inl (w13.1))), (a2, .inl (cI, 11, .inl (w13.2.1))), (a3, .inl (cI, 24, .inl (w13.2.2.1)))]) [0, 1, 2, 3] rfl
        have hD := hD.sub (ws' := [(a0, .inr (2, [.ref a1, .ref a2, .ref a3, .int w13.2.2.2.1, .int w13.2.2.2.2.1, .int w13.2.2.2.2.2.1, .int w13.2.2.2.2.2.2])), (a1, .inl (cI, 12, .inl (w13.1))), (a2, .inl (cI, 11, .inl (w13.2.1))), (a3, .inl (cI, 24, .inl (w13.2.2.1)))]) [0, 1, 2, 3] (by decide) rfl
        refine lv_aload_n hx hb d_Line_answer_90 rfl (lv_at hl 1 rfl) ?_
        refine va_get (D := (dC, dI)) (ci := 2) (v := .int w13.2.2.2.2.1) (C := R_Line) (T := T_Line) (N := 7) hx hb hts in_Line hown hK hP 0 rfl rfl 4 (by decide) (hts _ t_178) (fun _ h9 => h9) rfl d_Line_answer_91 ?_
        have hf := Option.some.inj hf
        rw [hQe]
        exact W.iret (v := w13.2.2.2.2.1) hx hb hr (fun t ht hW => ⟨⟨w13.2.2.2.2.1, w13, rfl, ⟨congrArg Prod.fst hf, congrArg Prod.snd hf⟩, by rw [ht]; exact hP, va_K.moved hW.alike hK, hD⟩, hS.F ht⟩) hS.2.2 d_Line_answer_94
      · have hf := ite_f c4 hf
        refine lv_aload_n hx hb d_Line_answer_21 rfl (lv_at hl 0 rfl) ?_
        refine va_get (D := (dC, dI)) (ci := 2) (v := .ref a2) (C := R_Line) (T := T_Line) (N := 7) hx hb hts in_Line hown hK hP 0 rfl rfl 1 (by decide) (hts _ t_173) (fun _ h9 => h9) rfl d_Line_answer_22 ?_
        refine lv_iload hx hb d_Line_answer_25 (lv_at hl 2 rfl) ?_
        refine lv_lload_n hx hb d_Line_answer_27 rfl (lv_at hl 1 rfl) ?_
        refine lv_bipush (v := 8) hx hb d_Line_answer_28 (by decide) ?_
        refine lv_bipush (v := 8) hx hb d_Line_answer_30 (by decide) ?_
        refine lv_iload hx hb d_Line_answer_32 (lv_at hl 2 rfl) ?_
        refine lv_isub hx hb d_Line_answer_34 ?_
        refine lv_topi (fun x14 ex14 => ?_)
        have hf := bd_t ex14 hf
        refine lv_imul hx hb d_Line_answer_35 ?_
        refine lv_topi (fun x15 ex15 => ?_)
        have hf := bd_t ex15 hf
        refine lv_lshr hx hb d_Line_answer_36 rfl ?_
        refine lv_topl (fun x16 ex16 => ?_)
        have hf := bd_t ex16 hf
        refine lv_l2i hx hb d_Line_answer_37 rfl ?_
        refine lv_topi (fun x17 ex17 => ?_)
        have hf := bd_t ex17 hf
        refine lv_sipush (v := 255) hx hb d_Line_answer_38 (by decide) ?_
        refine lv_iand hx hb d_Line_answer_41 ?_
        refine lv_topi (fun x18 ex18 => ?_)
        have hf := bd_t ex18 hf
        obtain ⟨h19, hf⟩ := gi_t hf
        refine va_iast hx hb hK hP hD hS 2 0 rfl rfl h19 d_Line_answer_42 (fun H locs hP hD hS => ?_)
        obtain ⟨F20, eF20⟩ : ∃ y : Nat → Int32, y = upd u.2.1 v4.toNatClampNeg x18 := ⟨_, rfl⟩
        have hf := bd_t eF20 hf
        have hP : va_P (dC, dI) CL [(a0, .inr (2, [.ref a1, .ref a2, .ref a3, .int u.2.2.2.1, .int u.2.2.2.2.1, .int u.2.2.2.2.2.1, .int u.2.2.2.2.2.2])), (a1, .inl (cI, 12, .inl (u.1))), (a2, .inl (cI, 11, .inl (F20))), (a3, .inl (cI, 24, .inl (u.2.2.1)))] H := by rw [eF20]; exact hP
        have hD : va_D A [(a0, .inr (2, [.ref a1, .ref a2, .ref a3, .int u.2.2.2.1, .int u.2.2.2.2.1, .int u.2.2.2.2.2.1, .int u.2.2.2.2.2.2])), (a1, .inl (cI, 12, .inl (u.1))), (a2, .inl (cI, 11, .inl (F20))), (a3, .inl (cI, 24, .inl (u.2.2.1)))] := by rw [eF20]; exact hD
        obtain ⟨x21, ex21⟩ : ∃ y : Int32, y = v4 + (1 : Int32) := ⟨_, rfl⟩
        have hf := bd_t ex21 hf
        refine lv_iinc (v := x21) (lv' := [(4, .int x21), (0, .ref a0), (2, .long v2)]) hx hb d_Line_answer_43 hl (k := 2) rfl (by rw [ex21]; rfl) (by decide) rfl (fun ls hl => ?_)
        refine lv_goto (tgt := 14) hx hb d_Line_answer_46 (by decide) ?_
        have hl := lv_sub hl (l' := [(0, .ref a0), (2, .long v2), (4, .int x21)]) [1, 2, 0] rfl
        exact k_14 v2 x21 (u.1, F20, u.2.2.1, u.2.2.2.1, u.2.2.2.2.1, u.2.2.2.2.2.1, u.2.2.2.2.2.2) hf _ _ hP hD hS ls hl
  rw [f_Line_answer] at hf
  refine lv_aload_n hx hb d_Line_answer_0 rfl (lv_at hl 0 rfl) ?_
  refine va_get (D := (dC, dI)) (ci := 2) (v := .ref a2) (C := R_Line) (T := T_Line) (N := 7) hx hb hts in_Line hown hK hP 0 rfl rfl 1 (by decide) (hts _ t_173) (fun _ h9 => h9) rfl d_Line_answer_1 ?_
  refine lv_iconst (v := 0) hx hb d_Line_answer_4 (by decide) ?_
  refine lv_iload_n hx hb d_Line_answer_5 rfl (lv_at hl 1 rfl) ?_
  refine lv_sipush (v := 128) hx hb d_Line_answer_6 (by decide) ?_
  refine lv_iadd hx hb d_Line_answer_9 ?_
  refine lv_topi (fun x1 ex1 => ?_)
  have hf := bd_t ex1 hf
  obtain ⟨h2, hf⟩ := gi_t hf
  refine va_iast hx hb hK hP hD hS 2 0 rfl rfl h2 d_Line_answer_10 (fun H locs hP hD hS => ?_)
  obtain ⟨F3, eF3⟩ : ∃ y : Nat → Int32, y = upd u.2.1 (0 : Int32).toNatClampNeg x1 := ⟨_, rfl⟩
  have hf := bd_t eF3 hf
  have hP : va_P (dC, dI) CL [(a0, .inr (2, [.ref a1, .ref a2, .ref a3, .int u.2.2.2.1, .int u.2.2.2.2.1, .int u.2.2.2.2.2.1, .int u.2.2.2.2.2.2])), (a1, .inl (cI, 12, .inl (u.1))), (a2, .inl (cI, 11, .inl (F3))), (a3, .inl (cI, 24, .inl (u.2.2.1)))] H := by rw [eF3]; exact hP
  have hD : va_D A [(a0, .inr (2, [.ref a1, .ref a2, .ref a3, .int u.2.2.2.1, .int u.2.2.2.2.1, .int u.2.2.2.2.2.1, .int u.2.2.2.2.2.2])), (a1, .inl (cI, 12, .inl (u.1))), (a2, .inl (cI, 11, .inl (F3))), (a3, .inl (cI, 24, .inl (u.2.2.1)))] := by rw [eF3]; exact hD
  refine lv_iconst (v := 1) hx hb d_Line_answer_11 (by decide) ?_
  refine lv_istore (lv' := [(4, .int (1 : Int32)), (0, .ref a0), (1, .int p1), (2, .long p2)]) hx hb d_Line_answer_12 hl (by decide) rfl (fun ls hl => ?_)
  have hl := lv_sub hl (l' := [(0, .ref a0), (2, .long p2), (4, .int (1 : Int32))]) [1, 3, 0] rfl
  exact k_14 64 p2 (1 : Int32) (u.1, F3, u.2.2.1, u.2.2.2.1, u.2.2.2.2.1, u.2.2.2.2.2.1, u.2.2.2.2.2.2) hf _ _ hP hD hS ls hl
