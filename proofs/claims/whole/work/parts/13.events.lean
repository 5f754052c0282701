def f_Events_add_34 (v1 : Int32) (v2 : Int32) (u : S_Events) : Option (S_Events) := bd ((10000 : Int32) * v1) (fun x5 : Int32 => bd (v2 - v2 / (10000 : Int32) * (10000 : Int32)) (fun x6 : Int32 => bd (x5 + x6) (fun x7 : Int32 => gi u.2 12 (bd (upd u.1 u.2.toNatClampNeg x7) (fun F9 : Nat → Int32 => bd (u.2 + (1 : Int32)) (fun x10 : Int32 => some (F9, x10)))))))
def f_Events_add (p1 : Int32) (p2 : Int32) (u : S_Events) : Option (S_Events) := (if u.2 = (12 : Int32) then gc (1 : Int32) (0 : Int32) (11 : Int32) 12 12 (bd (va_cpy u.1 u.1 (1 : Int32).toNatClampNeg (0 : Int32).toNatClampNeg (11 : Int32).toNatClampNeg) (fun F3 : Nat → Int32 => bd (u.2 - (1 : Int32)) (fun x4 : Int32 => f_Events_add_34 p1 p2 (F3, x4)))) else f_Events_add_34 p1 p2 u)
set_option maxHeartbeats 4000000 in
set_option maxRecDepth 100000 in
theorem c_Events_add (l : Launch) (dC : Nat → ClassId) (dI : Nat → Nat → Nat) (cI cL cD : ClassId) (a0 a1 : Nat) (sz : Nat) (p1 : Int32) (p2 : Int32) (u : S_Events) (res : S_Events) (hf : f_Events_add p1 p2 u = some res) : Met l y_Events_add w_Events_add ({ frames := 1, cells := 0, slots := 0, locals := 64 }) (va_Pc [.ref a0, .int p1, .int p2] (fun U => U.heap.size = sz ∧ va_P (dC, dI) CL [(a0, .inr (0, [.ref a1, .int u.2])), (a1, .inl (cI, 12, .inl (u.1)))] U.heap ∧ va_K (dC, dI) CL [(cI, .int), (cL, .long), (cD, .double)] U ∧ va_D (fun _ => True) [(a0, .inr (0, [.ref a1, .int u.2])), (a1, .inl (cI, 12, .inl (u.1)))] ∧ NWs U)) (va_Qv (fun (w : S_Events) => w = res) (fun (w : S_Events) t => va_P (dC, dI) CL [(a0, .inr (0, [.ref a1, .int w.2])), (a1, .inl (cI, 12, .inl (w.1)))] t.heap ∧ va_K (dC, dI) CL [(cI, .int), (cL, .long), (cD, .double)] t ∧ va_D (va_A [(a0, .inr (0, [.ref a1, .int u.2])), (a1, .inl (cI, 12, .inl (u.1)))] sz) [(a0, .inr (0, [.ref a1, .int w.2])), (a1, .inl (cI, 12, .inl (w.1)))]) (va_A [(a0, .inr (0, [.ref a1, .int u.2])), (a1, .inl (cI, 12, .inl (u.1)))] sz)) 0 0 (va_A [(a0, .inr (0, [.ref a1, .int u.2])), (a1, .inl (cI, 12, .inl (u.1)))] sz) := by
  refine Met.ofW (cc := b_Events_add) (maxL := 3) (ret := none) (by decide) rfl ?_
  intro p e s m args below meth c s₁ B hml hv
  obtain ⟨rfl, hsz, hP, hK, hD0, hN⟩ := hv
  have hx := B.exec
  have hb := B.bytes
  have hr := B.returns
  have hts : ∀ w ∈ TB, w.before _ s = true := fun w h => atoms_spec (ws := w_Events_add) B.pre w (List.mem_cons_of_mem _ h)
  have hown : s.vm.findClass R_Events = some m.cls := findClass_of_methodNamed B.named
  have hlocks := B.notSynchronized
  subst hsz
  have hD := hD0.self (sz := s.heap.size)
  generalize hAe : va_A [(a0, .inr (0, [.ref a1, .int u.2])), (a1, .inl (cI, 12, .inl (u.1)))] s.heap.size = A at hD ⊢
  have hA : ∀ q : Nat, s.heap.size ≤ q → A q := fun q h => by rw [← hAe]; exact Or.inr h
  have hS : va_S A s.heap s.heap [] := va_S.rf
  have hl := lv_entry ([.ref a0, .int p1, .int p2]) (n := 3) (Nat.le_of_ble_eq_true rfl)
  rw [lg_entry_eq]
  generalize (lg_sl ([.ref a0, .int p1, .int p2]) ++ List.replicate (3 - (lg_sl ([.ref a0, .int p1, .int p2])).length) Slot.unset).toArray = ls at hl ⊢
  have hl : lv_has ls 3 [(0, .ref a0), (1, .int p1), (2, .int p2)] := hl
  refine nameQ (fun Q hQe => ?_)
  have k_34 : ∀ (v1 : Int32) (v2 : Int32) (u : S_Events), f_Events_add_34 v1 v2 u = some res → ∀ (H : Heap) (locs : List Loc), va_P (dC, dI) CL [(a0, .inr (0, [.ref a1, .int u.2])), (a1, .inl (cI, 12, .inl (u.1)))] H → va_D A [(a0, .inr (0, [.ref a1, .int u.2])), (a1, .inl (cI, 12, .inl (u.1)))] → va_S A s.heap H locs → ∀ (ls : Array Slot), lv_has ls 3 [(0, .ref a0), (1, .int v1), (2, .int v2)] → W p l e (headSpec w_Events_add ({ frames := 1, cells := 0, slots := 0, locals := 64 })).room s m ([.ref a0, .int p1, .int p2] : List Value).toArray below meth c H locs 0 0 Q (F0 m 34 ls []) := by
    intro v1 v2 u hf H locs hP hD hS ls hl
    rw [f_Events_add_34] at hf
    refine lv_aload_n hx hb d_Events_add_34 rfl (lv_at hl 0 rfl) ?_
    refine va_get (D := (dC, dI)) (ci := 0) (v := .ref a1) (C := R_Events) (T := T_Events) (N := 2) hx hb hts in_Events hown hK hP 0 rfl rfl 0 (by decide) (hts _ t_127) (fun _ h9 => h9) rfl d_Events_add_35 ?_
    refine lv_aload_n hx hb d_Events_add_38 rfl (lv_at hl 0 rfl) ?_
    refine va_get (D := (dC, dI)) (ci := 0) (v := .int u.2) (C := R_Events) (T := T_Events) (N := 2) hx hb hts in_Events hown hK hP 0 rfl rfl 1 (by decide) (hts _ t_129) (fun _ h9 => h9) rfl d_Events_add_39 ?_
    refine lv_sipush (v := 10000) hx hb d_Events_add_42 (by decide) ?_
    refine lv_iload_n hx hb d_Events_add_45 rfl (lv_at hl 1 rfl) ?_
    refine lv_imul hx hb d_Events_add_46 ?_
    refine lv_topi (fun x5 ex5 => ?_)
    have hf := bd_t ex5 hf
    refine lv_iload_n hx hb d_Events_add_47 rfl (lv_at hl 2 rfl) ?_
    refine lv_sipush (v := 10000) hx hb d_Events_add_48 (by decide) ?_
    refine lv_irem hx hb d_Events_add_51 (by decide) ?_
    refine lv_topi (fun x6 ex6 => ?_)
    have hf := bd_t ex6 hf
    refine lv_iadd hx hb d_Events_add_52 ?_
    refine lv_topi (fun x7 ex7 => ?_)
    have hf := bd_t ex7 hf
    obtain ⟨h8, hf⟩ := gi_t hf
    refine va_iast hx hb hK hP hD hS 1 0 rfl rfl h8 d_Events_add_53 (fun H locs hP hD hS => ?_)
    obtain ⟨F9, eF9⟩ : ∃ y : Nat → Int32, y = upd u.1 u.2.toNatClampNeg x7 := ⟨_, rfl⟩
    have hf := bd_t eF9 hf
    have hP : va_P (dC, dI) CL [(a0, .inr (0, [.ref a1, .int u.2])), (a1, .inl (cI, 12, .inl (F9)))] H := by rw [eF9]; exact hP
    have hD : va_D A [(a0, .inr (0, [.ref a1, .int u.2])), (a1, .inl (cI, 12, .inl (F9)))] := by rw [eF9]; exact hD
    refine lv_aload_n hx hb d_Events_add_54 rfl (lv_at hl 0 rfl) ?_
    refine lv_dup hx hb d_Events_add_55 rfl ?_
    refine va_get (D := (dC, dI)) (ci := 0) (v := .int u.2) (C := R_Events) (T := T_Events) (N := 2) hx hb hts in_Events hown hK hP 0 rfl rfl 1 (by decide) (hts _ t_129) (fun _ h9 => h9) rfl d_Events_add_56 ?_
    refine lv_iconst (v := 1) hx hb d_Events_add_59 (by decide) ?_
    refine lv_iadd hx hb d_Events_add_60 ?_
    refine lv_topi (fun x10 ex10 => ?_)
    have hf := bd_t ex10 hf
    refine va_put (D := (dC, dI)) (ci := 0) (v := .int x10) (ty := .int) (C := R_Events) (T := T_Events) (N := 2) hx hb hts in_Events ty_Events ty_Events_ok nm_Events hown hK hP hD hS 0 rfl rfl 1 (by decide) (hts _ t_129) (fun _ h9 => h9) rfl (by decide +kernel) rfl rfl (Nat.le_of_ble_eq_true rfl) d_Events_add_61 (fun H locs hP hD hS => ?_)
    have hP : va_P (dC, dI) CL [(a0, .inr (0, [.ref a1, .int x10])), (a1, .inl (cI, 12, .inl (F9)))] H := hP
    have hD : va_D A [(a0, .inr (0, [.ref a1, .int x10])), (a1, .inl (cI, 12, .inl (F9)))] := hD
    have hf := Option.some.inj hf
    rw [hQe]
    exact W.vret hx hb hr (fun t ht hW => ⟨⟨(F9, x10), rfl, hf, by rw [ht]; exact hP, va_K.moved hW.alike hK, hD⟩, hS.F ht⟩) hS.2.2 d_Events_add_64
  rw [f_Events_add] at hf
  refine lv_aload_n hx hb d_Events_add_0 rfl (lv_at hl 0 rfl) ?_
  refine va_get (D := (dC, dI)) (ci := 0) (v := .int u.2) (C := R_Events) (T := T_Events) (N := 2) hx hb hts in_Events hown hK hP 0 rfl rfl 1 (by decide) (hts _ t_129) (fun _ h9 => h9) rfl d_Events_add_1 ?_
  refine lv_bipush (v := 12) hx hb d_Events_add_4 (by decide) ?_
  refine lv_icmp_ne (tgt := 34) hx hb d_Events_add_6 (by decide) (fun c1 => ?_) (fun c1 => ?_)
  · have hf := ite_f c1 hf
    have hl := lv_sub hl (l' := [(0, .ref a0), (1, .int p1), (2, .int p2)]) [0, 1, 2] rfl
    exact k_34 p1 p2 u hf _ _ hP hD hS ls hl
  · have hf := ite_t c1 hf
    refine lv_aload_n hx hb d_Events_add_9 rfl (lv_at hl 0 rfl) ?_
    refine va_get (D := (dC, dI)) (ci := 0) (v := .ref a1) (C := R_Events) (T := T_Events) (N := 2) hx hb hts in_Events hown hK hP 0 rfl rfl 0 (by decide) (hts _ t_127) (fun _ h9 => h9) rfl d_Events_add_10 ?_
    refine lv_iconst (v := 1) hx hb d_Events_add_13 (by decide) ?_
    refine lv_aload_n hx hb d_Events_add_14 rfl (lv_at hl 0 rfl) ?_
    refine va_get (D := (dC, dI)) (ci := 0) (v := .ref a1) (C := R_Events) (T := T_Events) (N := 2) hx hb hts in_Events hown hK hP 0 rfl rfl 0 (by decide) (hts _ t_127) (fun _ h9 => h9) rfl d_Events_add_15 ?_
    refine lv_iconst (v := 0) hx hb d_Events_add_18 (by decide) ?_
    refine lv_bipush (v := 11) hx hb d_Events_add_19 (by decide) ?_
    obtain ⟨h2, hf⟩ := gc_t hf
    refine va_copyi hx hb (by rw [hml]; exact hl.1.symm) hown (hts _ t_351) (hts _ t_353) (hts _ t_352) (hts _ t_51) hK hP hD hS 1 1 0 0 rfl rfl rfl rfl rfl h2.1 h2.2.1 h2.2.2.1 h2.2.2.2.1 h2.2.2.2.2 (fun _ _ => rfl) (Nat.le_of_ble_eq_true rfl) (Nat.le_of_ble_eq_true rfl) d_Events_add_21 (fun H locs hP hD hS => ?_)
    obtain ⟨F3, eF3⟩ : ∃ y : Nat → Int32, y = va_cpy u.1 u.1 (1 : Int32).toNatClampNeg (0 : Int32).toNatClampNeg (11 : Int32).toNatClampNeg := ⟨_, rfl⟩
    have hf := bd_t eF3 hf
    have hP : va_P (dC, dI) CL [(a0, .inr (0, [.ref a1, .int u.2])), (a1, .inl (cI, 12, .inl (F3)))] H := by rw [eF3]; exact hP
    have hD : va_D A [(a0, .inr (0, [.ref a1, .int u.2])), (a1, .inl (cI, 12, .inl (F3)))] := by rw [eF3]; exact hD
    refine lv_aload_n hx hb d_Events_add_24 rfl (lv_at hl 0 rfl) ?_
    refine lv_dup hx hb d_Events_add_25 rfl ?_
    refine va_get (D := (dC, dI)) (ci := 0) (v := .int u.2) (C := R_Events) (T := T_Events) (N := 2) hx hb hts in_Events hown hK hP 0 rfl rfl 1 (by decide) (hts _ t_129) (fun _ h9 => h9) rfl d_Events_add_26 ?_
    refine lv_iconst (v := 1) hx hb d_Events_add_29 (by decide) ?_
    refine lv_isub hx hb d_Events_add_30 ?_
    refine lv_topi (fun x4 ex4 => ?_)
    have hf := bd_t ex4 hf
    refine va_put (D := (dC, dI)) (ci := 0) (v := .int x4) (ty := .int) (C := R_Events) (T := T_Events) (N := 2) hx hb hts in_Events ty_Events ty_Events_ok nm_Events hown hK hP hD hS 0 rfl rfl 1 (by decide) (hts _ t_129) (fun _ h9 => h9) rfl (by decide +kernel) rfl rfl (Nat.le_of_ble_eq_true rfl) d_Events_add_31 (fun H locs hP hD hS => ?_)
    have hP : va_P (dC, dI) CL [(a0, .inr (0, [.ref a1, .int x4])), (a1, .inl (cI, 12, .inl (F3)))] H := hP
    have hD : va_D A [(a0, .inr (0, [.ref a1, .int x4])), (a1, .inl (cI, 12, .inl (F3)))] := hD
    have hl := lv_sub hl (l' := [(0, .ref a0), (1, .int p1), (2, .int p2)]) [0, 1, 2] rfl
    exact k_34 p1 p2 (F3, x4) hf _ _ hP hD hS ls hl
def f_Events_clear (u : S_Events) : Option (S_Events) := some (u.1, (0 : Int32))
set_option maxHeartbeats 4000000 in
set_option maxRecDepth 100000 in
theorem c_Events_clear (l : Launch) (dC : Nat → ClassId) (dI : Nat → Nat → Nat) (cI cL cD : ClassId) (a0 a1 : Nat) (sz : Nat) (u : S_Events) (res : S_Events) (hf : f_Events_clear u = some res) : Met l y_Events_clear w_Events_clear ({ frames := 0, cells := 0, slots := 0, locals := 0 }) (va_Pc [.ref a0] (fun U => U.heap.size = sz ∧ va_P (dC, dI) CL [(a0, .inr (0, [.ref a1, .int u.2])), (a1, .inl (cI, 12, .inl (u.1)))] U.heap ∧ va_K (dC, dI) CL [(cI, .int), (cL, .long), (cD, .double)] U ∧ va_D (fun _ => True) [(a0, .inr (0, [.ref a1, .int u.2])), (a1, .inl (cI, 12, .inl (u.1)))] ∧ NWs U)) (va_Qv (fun (w : S_Events) => w = res) (fun (w : S_Events) t => va_P (dC, dI) CL [(a0, .inr (0, [.ref a1, .int w.2])), (a1, .inl (cI, 12, .inl (w.1)))] t.heap ∧ va_K (dC, dI) CL [(cI, .int), (cL, .long), (cD, .double)] t ∧ va_D (va_A [(a0, .inr (0, [.ref a1, .int u.2])), (a1, .inl (cI, 12, .inl (u.1)))] sz) [(a0, .inr (0, [.ref a1, .int w.2])), (a1, .inl (cI, 12, .inl (w.1)))]) (va_A [(a0, .inr (0, [.ref a1, .int u.2])), (a1, .inl (cI, 12, .inl (u.1)))] sz)) 0 0 (va_A [(a0, .inr (0, [.ref a1, .int u.2])), (a1, .inl (cI, 12, .inl (u.1)))] sz) := by
  refine Met.ofW (cc := b_Events_clear) (maxL := 1) (ret := none) (by decide) rfl ?_
  intro p e s m args below meth c s₁ B hml hv
  obtain ⟨rfl, hsz, hP, hK, hD0, hN⟩ := hv
  have hx := B.exec
  have hb := B.bytes
  have hr := B.returns
  have hts : ∀ w ∈ TB, w.before _ s = true := fun w h => atoms_spec (ws := w_Events_clear) B.pre w (List.mem_cons_of_mem _ h)
  have hown : s.vm.findClass R_Events = some m.cls := findClass_of_methodNamed B.named
  have hlocks := B.notSynchronized
  subst hsz
  have hD := hD0.self (sz := s.heap.size)
  generalize hAe : va_A [(a0, .inr (0, [.ref a1, .int u.2])), (a1, .inl (cI, 12, .inl (u.1)))] s.heap.size = A at hD ⊢
  have hA : ∀ q : Nat, s.heap.size ≤ q → A q := fun q h => by rw [← hAe]; exact Or.inr h
  have hS : va_S A s.heap s.heap [] := va_S.rf
  have hl := lv_entry ([.ref a0]) (n := 1) (Nat.le_of_ble_eq_true rfl)
  rw [lg_entry_eq]
  generalize (lg_sl ([.ref a0]) ++ List.replicate (1 - (lg_sl ([.ref a0])).length) Slot.unset).toArray = ls at hl ⊢
  have hl : lv_has ls 1 [(0, .ref a0)] := hl
  refine nameQ (fun Q hQe => ?_)
  rw [f_Events_clear] at hf
  refine lv_aload_n hx hb d_Events_clear_0 rfl (lv_at hl 0 rfl) ?_
  refine lv_iconst (v := 0) hx hb d_Events_clear_1 (by decide) ?_
  refine va_put (D := (dC, dI)) (ci := 0) (v := .int (0 : Int32)) (ty := .int) (C := R_Events) (T := T_Events) (N := 2) hx hb hts in_Events ty_Events ty_Events_ok nm_Events hown hK hP hD hS 0 rfl rfl 1 (by decide) (hts _ t_129) (fun _ h9 => h9) rfl (by decide +kernel) rfl rfl (Nat.le_of_ble_eq_true rfl) d_Events_clear_2 (fun H locs hP hD hS => ?_)
  have hP : va_P (dC, dI) CL [(a0, .inr (0, [.ref a1, .int (0 : Int32)])), (a1, .inl (cI, 12, .inl (u.1)))] H := hP
  have hD : va_D A [(a0, .inr (0, [.ref a1, .int (0 : Int32)])), (a1, .inl (cI, 12, .inl (u.1)))] := hD
  have hf := Option.some.inj hf
  rw [hQe]
  exact W.vret hx hb hr (fun t ht hW => ⟨⟨(u.1, (0 : Int32)), rfl, hf, by rw [ht]; exact hP, va_K.moved hW.alike hK, hD⟩, hS.F ht⟩) hS.2.2 d_Events_clear_5
