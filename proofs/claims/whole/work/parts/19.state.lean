def f_Box_thousandths (p0 : UInt64) (u : Unit) : Option (Int64 × Unit) := gn (FP.dmul p0 (4652007308841189376 : UInt64)) (bd (FP.dmul p0 (4652007308841189376 : UInt64)) (fun x2 : UInt64 => bd (FP.d2l x2) (fun x3 : Int64 => some (x3, ()))))
set_option maxHeartbeats 4000000 in
set_option maxRecDepth 100000 in
theorem c_Box_thousandths (l : Launch) (dC : Nat → ClassId) (dI : Nat → Nat → Nat) (cI cL cD : ClassId) (sz : Nat) (p0 : UInt64) (u : Unit) (res : Int64 × Unit) (hf : f_Box_thousandths p0 u = some res) : Met l y_Box_thousandths w_Box_thousandths ({ frames := 0, cells := 0, slots := 0, locals := 0 }) (va_Pc [.double p0] (fun U => U.heap.size = sz ∧ va_P (dC, dI) CL [] U.heap ∧ va_K (dC, dI) CL [(cI, .int), (cL, .long), (cD, .double)] U ∧ va_D (fun _ => True) [] ∧ NWs U)) (va_Ql (fun (r : Int64) (w : Unit) => r = res.1 ∧ w = res.2) (fun (w : Unit) t => va_P (dC, dI) CL [] t.heap ∧ va_K (dC, dI) CL [(cI, .int), (cL, .long), (cD, .double)] t ∧ va_D (va_A [] sz) []) (va_A [] sz)) 0 0 (va_A [] sz) := by
  refine Met.ofW (cc := b_Box_thousandths) (maxL := 2) (ret := (some .long)) (by decide) rfl ?_
  intro p e s m args below meth c s₁ B hml hv
  obtain ⟨rfl, hsz, hP, hK, hD0, hN⟩ := hv
  have hx := B.exec
  have hb := B.bytes
  have hr := B.returns
  have hts : ∀ w ∈ TB, w.before _ s = true := fun w h => atoms_spec (ws := w_Box_thousandths) B.pre w (List.mem_cons_of_mem _ h)
  have hown : s.vm.findClass R_Box = some m.cls := findClass_of_methodNamed B.named
  have hlocks := B.notSynchronized
  subst hsz
  have hD := hD0.self (sz := s.heap.size)
  generalize hAe : va_A [] s.heap.size = A at hD ⊢
  have hA : ∀ q : Nat, s.heap.size ≤ q → A q := fun q h => by rw [← hAe]; exact Or.inr h
  have hS : va_S A s.heap s.heap [] := va_S.rf
  have hl := lv_entry ([.double p0]) (n := 2) (Nat.le_of_ble_eq_true rfl)
  rw [lg_entry_eq]
  generalize (lg_sl ([.double p0]) ++ List.replicate (2 - (lg_sl ([.double p0])).length) Slot.unset).toArray = ls at hl ⊢
  have hl : lv_has ls 2 [(0, .double p0)] := hl
  refine nameQ (fun Q hQe => ?_)
  rw [f_Box_thousandths] at hf
  refine lv_dload_n hx hb d_Box_thousandths_0 rfl (lv_at hl 0 rfl) ?_
  refine lv_ldc2d (v := 4652007308841189376) hx hb hown (hts _ t_420) d_Box_thousandths_1 ?_
  obtain ⟨h1, hf⟩ := gn_t hf
  refine lv_dmul hx hb d_Box_thousandths_4 h1 ?_
  refine lv_topd (fun x2 ex2 => ?_)
  have hf := bd_t ex2 hf
  refine lv_d2l hx hb d_Box_thousandths_5 ?_
  refine lv_topl (fun x3 ex3 => ?_)
  have hf := bd_t ex3 hf
  have hf := Option.some.inj hf
  rw [hQe]
  exact W.lret (v := x3) hx hb hr (fun t ht hW => ⟨⟨x3, (), rfl, ⟨congrArg Prod.fst hf, congrArg Prod.snd hf⟩, by rw [ht]; exact hP, va_K.moved hW.alike hK, hD⟩, hS.F ht⟩) hS.2.2 d_Box_thousandths_6
def f_State_begin_2 : Nat → Int32 → S_State → Option (S_State)
  | 0, _, _ => none
  | n + 1, v1, u => (if (3 : Int32) ≤ v1 then some (u.1, (0 : Int32), (4617315517961601024 : UInt64), FP.dconst0, (0 : Int32), (0 : Int32), (0 : Int32)) else gi v1 3 (bd (vf_upd u.1 v1.toNatClampNeg FP.dconst0) (fun F3 : Nat → UInt64 => bd (v1 + (1 : Int32)) (fun x4 : Int32 => (f_State_begin_2 n) x4 (F3, u.2.1, u.2.2.1, u.2.2.2.1, u.2.2.2.2.1, u.2.2.2.2.2.1, u.2.2.2.2.2.2)))))
def f_State_begin (u : S_State) : Option (S_State) := f_State_begin_2 64 (0 : Int32) u
set_option maxHeartbeats 4000000 in
set_option maxRecDepth 100000 in
theorem c_State_begin (l : Launch) (dC : Nat → ClassId) (dI : Nat → Nat → Nat) (cI cL cD : ClassId) (a0 a1 : Nat) (sz : Nat) (u : S_State) (res : S_State) (hf : f_State_begin u = some res) : Met l y_State_begin w_State_begin ({ frames := 0, cells := 0, slots := 0, locals := 0 }) (va_Pc [.ref a0] (fun U => U.heap.size = sz ∧ va_P (dC, dI) CL [(a0, .inr (4, [.ref a1, .int u.2.1, .double u.2.2.1, .double u.2.2.2.1, .int u.2.2.2.2.1, .int u.2.2.2.2.2.1, .int u.2.2.2.2.2.2])), (a1, .inl (cD, 3, .inr (.inr (.inr (.inl (u.1))))))] U.heap ∧ va_K (dC, dI) CL [(cI, .int), (cL, .long), (cD, .double)] U ∧ va_D (fun _ => True) [(a0, .inr (4, [.ref a1, .int u.2.1, .double u.2.2.1, .double u.2.2.2.1, .int u.2.2.2.2.1, .int u.2.2.2.2.2.1, .int u.2.2.2.2.2.2])), (a1, .inl (cD, 3, .inr (.inr (.inr (.inl (u.1))))))] ∧ NWs U)) (va_Qv (fun (w : S_State) => w = res) (fun (w : S_State) t => va_P (dC, dI) CL [(a0, .inr (4, [.ref a1, .int w.2.1, .double w.2.2.1, .double w.2.2.2.1, .int w.2.2.2.2.1, .int w.2.2.2.2.2.1, .int w.2.2.2.2.2.2])), (a1, .inl (cD, 3, .inr (.inr (.inr (.inl (w.1))))))] t.heap ∧ va_K (dC, dI) CL [(cI, .int), (cL, .long), (cD, .double)] t ∧ va_D (va_A [(a0, .inr (4, [.ref a1, .int u.2.1, .double u.2.2.1, .double u.2.2.2.1, .int u.2.2.2.2.1, .int u.2.2.2.2.2.1, .int u.2.2.2.2.2.2])), (a1, .inl (cD, 3, .inr (.inr (.inr (.inl (u.1))))))] sz) [(a0, .inr (4, [.ref a1, .int w.2.1, .double w.2.2.1, .double w.2.2.2.1, .int w.2.2.2.2.1, .int w.2.2.2.2.2.1, .int w.2.2.2.2.2.2])), (a1, .inl (cD, 3, .inr (.inr (.inr (.inl (w.1))))))]) (va_A [(a0, .inr (4, [.ref a1, .int u.2.1, .double u.2.2.1, .double u.2.2.2.1, .int u.2.2.2.2.1, .int u.2.2.2.2.2.1, .int u.2.2.2.2.2.2])), (a1, .inl (cD, 3, .inr (.inr (.inr (.inl (u.1))))))] sz)) 0 0 (va_A [(a0, .inr (4, [.ref a1, .int u.2.1, .double u.2.2.1, .double u.2.2.2.1, .int u.2.2.2.2.1, .int u.2.2.2.2.2.1, .int u.2.2.2.2.2.2])), (a1, .inl (cD, 3, .inr (.inr (.inr (.inl (u.1))))))] sz) := by
  refine Met.ofW (cc := b_State_begin) (maxL := 2) (ret := none) (by decide) rfl ?_
  intro p e s m args below meth c s₁ B hml hv
  obtain ⟨rfl, hsz, hP, hK, hD0, hN⟩ := hv
  have hx := B.exec
  have hb := B.bytes
  have hr := B.returns
  have hts : ∀ w ∈ TB, w.before _ s = true := fun w h => atoms_spec (ws := w_State_begin) B.pre w (List.mem_cons_of_mem _ h)
  have hown : s.vm.findClass R_State = some m.cls := findClass_of_methodNamed B.named
  have hlocks := B.notSynchronized
  subst hsz
  have hD := hD0.self (sz := s.heap.size)
  generalize hAe : va_A [(a0, .inr (4, [.ref a1, .int u.2.1, .double u.2.2.1, .double u.2.2.2.1, .int u.2.2.2.2.1, .int u.2.2.2.2.2.1, .int u.2.2.2.2.2.2])), (a1, .inl (cD, 3, .inr (.inr (.inr (.inl (u.1))))))] s.heap.size = A at hD ⊢
  have hA : ∀ q : Nat, s.heap.size ≤ q → A q := fun q h => by rw [← hAe]; exact Or.inr h
  have hS : va_S A s.heap s.heap [] := va_S.rf
  have hl := lv_entry ([.ref a0]) (n := 2) (Nat.le_of_ble_eq_true rfl)
  rw [lg_entry_eq]
  generalize (lg_sl ([.ref a0]) ++ List.replicate (2 - (lg_sl ([.ref a0])).length) Slot.unset).toArray = ls at hl ⊢
  have hl : lv_has ls 2 [(0, .ref a0)] := hl
  refine nameQ (fun Q hQe => ?_)
  have k_2 : ∀ (n : Nat), ∀ (v1 : Int32) (u : S_State), f_State_begin_2 n v1 u = some res → ∀ (H : Heap) (locs : List Loc), va_P (dC, dI) CL [(a0, .inr (4, [.ref a1, .int u.2.1, .double u.2.2.1, .double u.2.2.2.1, .int u.2.2.2.2.1, .int u.2.2.2.2.2.1, .int u.2.2.2.2.2.2])), (a1, .inl (cD, 3, .inr (.inr (.inr (.inl (u.1))))))] H → va_D A [(a0, .inr (4, [.ref a1, .int u.2.1, .double u.2.2.1, .double u.2.2.2.1, .int u.2.2.2.2.1, .int u.2.2.2.2.2.1, .int u.2.2.2.2.2.2])), (a1, .inl (cD, 3, .inr (.inr (.inr (.inl (u.1))))))] → va_S A s.heap H locs → ∀ (ls : Array Slot), lv_has ls 2 [(0, .ref a0), (1, .int v1)] → W p l e (headSpec w_State_begin ({ frames := 0, cells := 0, slots := 0, locals := 0 })).room s m ([.ref a0] : List Value).toArray below meth c H locs 0 0 Q (F0 m 2 ls []) := by
    intro n
    induction n with
    | zero =>
      intro v1 u hf
      simp [f_State_begin_2] at hf
    | succ n k_2 =>
      intro v1 u hf H locs hP hD hS ls hl
      rw [f_State_begin_2] at hf
      refine lv_iload_n hx hb d_State_begin_2 rfl (lv_at hl 1 rfl) ?_
      refine lv_iconst (v := 3) hx hb d_State_begin_3 (by decide) ?_
      refine lv_icmp_ge (tgt := 20) hx hb d_State_begin_4 (by decide) (fun c1 => ?_) (fun c1 => ?_)
      · have hf := ite_t c1 hf
        refine lv_aload_n hx hb d_State_begin_20 rfl (lv_at hl 0 rfl) ?_
        refine lv_iconst (v := 0) hx hb d_State_begin_21 (by decide) ?_
        refine va_put (D := (dC, dI)) (ci := 4) (v := .int (0 : Int32)) (ty := .int) (C := R_State) (T := T_State) (N := 7) hx hb hts in_State ty_State ty_State_ok nm_State hown hK hP hD hS 0 rfl rfl 1 (by decide) (hts _ t_94) (fun _ h9 => h9) rfl (by decide +kernel) rfl rfl (Nat.le_of_ble_eq_true rfl) d_State_begin_22 (fun H locs hP hD hS => ?_)
        have hP : va_P (dC, dI) CL [(a0, .inr (4, [.ref a1, .int (0 : Int32), .double u.2.2.1, .double u.2.2.2.1, .int u.2.2.2.2.1, .int u.2.2.2.2.2.1, .int u.2.2.2.2.2.2])), (a1, .inl (cD, 3, .inr (.inr (.inr (.inl (u.1))))))] H := hP
        have hD : va_D A [(a0, .inr (4, [.ref a1, .int (0 : Int32), .double u.2.2.1, .double u.2.2.2.1, .int u.2.2.2.2.1, .int u.2.2.2.2.2.1, .int u.2.2.2.2.2.2])), (a1, .inl (cD, 3, .inr (.inr (.inr (.inl (u.1))))))] := hD
        refine lv_aload_n hx hb d_State_begin_25 rfl (lv_at hl 0 rfl) ?_
        refine lv_ldc2d (v := 4617315517961601024) hx hb hown (hts _ t_92) d_State_begin_26 ?_
        refine va_put (D := (dC, dI)) (ci := 4) (v := .double (4617315517961601024 : UInt64)) (ty := .double) (C := R_State) (T := T_State) (N := 7) hx hb hts in_State ty_State ty_State_ok nm_State hown hK hP hD hS 0 rfl rfl 2 (by decide) (hts _ t_96) (fun _ h9 => h9) rfl (by decide +kernel) rfl rfl (Nat.le_of_ble_eq_true rfl) d_State_begin_29 (fun H locs hP hD hS => ?_)
        have hP : va_P (dC, dI) CL [(a0, .inr (4, [.ref a1, .int (0 : Int32), .double (4617315517961601024 : UInt64), .double u.2.2.2.1, .int u.2.2.2.2.1, .int u.2.2.2.2.2.1, .int u.2.2.2.2.2.2])), (a1, .inl (cD, 3, .inr (.inr (.inr (.inl (u.1))))))] H := hP
        have hD : va_D A [(a0, .inr (4, [.ref a1, .int (0 : Int32), .double (4617315517961601024 : UInt64), .double u.2.2.2.1, .int u.2.2.2.2.1, .int u.2.2.2.2.2.1, .int u.2.2.2.2.2.2])), (a1, .inl (cD, 3, .inr (.inr (.inr (.inl (u.1))))))] := hD
        refine lv_aload_n hx hb d_State_begin_32 rfl (lv_at hl 0 rfl) ?_
        refine lv_dconst0 hx hb d_State_begin_33 ?_
        refine va_put (D := (dC, dI)) (ci := 4) (v := .double FP.dconst0) (ty := .double) (C := R_State) (T := T_State) (N := 7) hx hb hts in_State ty_State ty_State_ok nm_State hown hK hP hD hS 0 rfl rfl 3 (by decide) (hts _ t_98) (fun _ h9 => h9) rfl (by decide +kernel) rfl rfl (Nat.le_of_ble_eq_true rfl) d_State_begin_34 (fun H locs hP hD hS => ?_)
        have hP : va_P (dC, dI) CL [(a0, .inr (4, [.ref a1, .int (0 : Int32), .double (4617315517961601024 : UInt64), .double FP.dconst0, .int u.2.2.2.2.1, .int u.2.2.2.2.2.1, .int u.2.2.2.2.2.2])), (a1, .inl (cD, 3, .inr (.inr (.inr (.inl (u.1))))))] H := hP
        have hD : va_D A [(a0, .inr (4, [.ref a1, .int (0 : Int32), .double (4617315517961601024 : UInt64), .double FP.dconst0, .int u.2.2.2.2.1, .int u.2.2.2.2.2.1, .int u.2.2.2.2.2.2])), (a1, .inl (cD, 3, .inr (.inr (.inr (.inl (u.1))))))] := hD
        refine lv_aload_n hx hb d_State_begin_37 rfl (lv_at hl 0 rfl) ?_
        refine lv_iconst (v := 0) hx hb d_State_begin_38 (by decide) ?_
        refine va_put (D := (dC, dI)) (ci := 4) (v := .int (0 : Int32)) (ty := .int) (C := R_State) (T := T_State) (N := 7) hx hb hts in_State ty_State ty_State_ok nm_State hown hK hP hD hS 0 rfl rfl 4 (by decide) (hts _ t_100) (fun _ h9 => h9) rfl (by decide +kernel) rfl rfl (Nat.le_of_ble_eq_true rfl) d_State_begin_39 (fun H locs hP hD hS => ?_)
        have hP : va_P (dC, dI) CL [(a0, .inr (4, [.ref a1, .int (0 : Int32), .double (4617315517961601024 : UInt64), .double FP.dconst0, .int (0 : Int32), .int u.2.2.2.2.2.1, .int u.2.2.2.2.2.2])), (a1, .inl (cD, 3, .inr (.inr (.inr (.inl (u.1))))))] H := hP
        have hD : va_D A [(a0, .inr (4, [.ref a1, .int (0 : Int32), .double (4617315517961601024 : UInt64), .double FP.dconst0, .int (0 : Int32), .int u.2.2.2.2.2.1, .int u.2.2.2.2.2.2])), (a1, .inl (cD, 3, .inr (.inr (.inr (.inl (u.1))))))] := hD
        refine lv_aload_n hx hb d_State_begin_42 rfl (lv_at hl 0 rfl) ?_
        refine lv_iconst (v := 0) hx hb d_State_begin_43 (by decide) ?_
        refine va_put (D := (dC, dI)) (ci := 4) (v := .int (0 : Int32)) (ty := .boolean) (C := R_State) (T := T_State) (N := 7) hx hb hts in_State ty_State ty_State_ok nm_State hown hK hP hD hS 0 rfl rfl 5 (by decide) (hts _ t_102) (fun _ h9 => h9) rfl (by decide +kernel) (by decide) (by decide) (Nat.le_of_ble_eq_true rfl) d_State_begin_44 (fun H locs hP hD hS => ?_)
        have hP : va_P (dC, dI) CL [(a0, .inr (4, [.ref a1, .int (0 : Int32), .double (4617315517961601024 : UInt64), .double FP.dconst0, .int (0 : Int32), .int (0 : Int32), .int u.2.2.2.2.2.2])), (a1, .inl (cD, 3, .inr (.inr (.inr (.inl (u.1))))))] H := hP
        have hD : va_D A [(a0, .inr (4, [.ref a1, .int (0 : Int32), .double (4617315517961601024 : UInt64), .double FP.dconst0, .int (0 : Int32), .int (0 : Int32), .int u.2.2.2.2.2.2])), (a1, .inl (cD, 3, .inr (.inr (.inr (.inl (u.1))))))] := hD
        refine lv_aload_n hx hb d_State_begin_47 rfl (lv_at hl 0 rfl) ?_
        refine lv_iconst (v := 0) hx hb d_State_begin_48 (by decide) ?_
        refine va_put (D := (dC, dI)) (ci := 4) (v := .int (0 : Int32)) (ty := .boolean) (C := R_State) (T := T_State) (N := 7) hx hb hts in_State ty_State ty_State_ok nm_State hown hK hP hD hS 0 rfl rfl 6 (by decide) (hts _ t_104) (fun _ h9 => h9) rfl (by decide +kernel) (by decide) (by decide) (Nat.le_of_ble_eq_true rfl) d_State_begin_49 (fun H locs hP hD hS => ?_)
        have hP : va_P (dC, dI) CL [(a0, .inr (4, [.ref a1, .int (0 : Int32), .double (4617315517961601024 : UInt64), .double FP.dconst0, .int (0 : Int32), .int (0 : Int32), .int (0 : Int32)])), (a1, .inl (cD, 3, .inr (.inr (.inr (.inl (u.1))))))] H := hP
        have hD : va_D A [(a0, .inr (4, [.ref a1, .int (0 : Int32), .double (4617315517961601024 : UInt64), .double FP.dconst0, .int (0 : Int32), .int (0 : Int32), .int (0 : Int32)])), (a1, .inl (cD, 3, .inr (.inr (.inr (.inl (u.1))))))] := hD
        have hf := Option.some.inj hf
        rw [hQe]
        exact W.vret hx hb hr (fun t ht hW => ⟨⟨(u.1, (0 : Int32), (4617315517961601024 : UInt64), FP.dconst0, (0 : Int32), (0 : Int32), (0 : Int32)), rfl, hf, by rw [ht]; exact hP, va_K.moved hW.alike hK, hD⟩, hS.F ht⟩) hS.2.2 d_State_begin_52
      · have hf := ite_f c1 hf
        refine lv_aload_n hx hb d_State_begin_7 rfl (lv_at hl 0 rfl) ?_
        refine va_get (D := (dC, dI)) (ci := 4) (v := .ref a1) (C := R_State) (T := T_State) (N := 7) hx hb hts in_State hown hK hP 0 rfl rfl 0 (by decide) (hts _ t_93) (fun _ h9 => h9) rfl d_State_begin_8 ?_
        refine lv_iload_n hx hb d_State_begin_11 rfl (lv_at hl 1 rfl) ?_
        refine lv_dconst0 hx hb d_State_begin_12 ?_
        obtain ⟨h2, hf⟩ := gi_t hf
        refine va_dast hx hb hK hP hD hS 1 2 rfl rfl h2 d_State_begin_13 (fun H locs hP hD hS => ?_)
        obtain ⟨F3, eF3⟩ : ∃ y : Nat → UInt64, y = vf_upd u.1 v1.toNatClampNeg FP.dconst0 := ⟨_, rfl⟩
        have hf := bd_t eF3 hf
        have hP : va_P (dC, dI) CL [(a0, .inr (4, [.ref a1, .int u.2.1, .double u.2.2.1, .double u.2.2.2.1, .int u.2.2.2.2.1, .int u.2.2.2.2.2.1, .int u.2.2.2.2.2.2])), (a1, .inl (cD, 3, .inr (.inr (.inr (.inl (F3))))))] H := by rw [eF3]; exact hP
        have hD : va_D A [(a0, .inr (4, [.ref a1, .int u.2.1, .double u.2.2.1, .double u.2.2.2.1, .int u.2.2.2.2.1, .int u.2.2.2.2.2.1, .int u.2.2.2.2.2.2])), (a1, .inl (cD, 3, .inr (.inr (.inr (.inl (F3))))))] := by rw [eF3]; exact hD
        obtain ⟨x4, ex4⟩ : ∃ y : Int32, y = v1 + (1 : Int32) := ⟨_, rfl⟩
        have hf := bd_t ex4 hf
        refine lv_iinc (v := x4) (lv' := [(1, .int x4), (0, .ref a0)]) hx hb d_State_begin_14 hl (k := 1) rfl (by rw [ex4]; rfl) (by decide) rfl (fun ls hl => ?_)
        refine lv_goto (tgt := 2) hx hb d_State_begin_17 (by decide) ?_
        have hl := lv_sub hl (l' := [(0, .ref a0), (1, .int x4)]) [1, 0] rfl
        exact k_2 x4 (F3, u.2.1, u.2.2.1, u.2.2.2.1, u.2.2.2.2.1, u.2.2.2.2.2.1, u.2.2.2.2.2.2) hf _ _ hP hD hS ls hl
  rw [f_State_begin] at hf
  refine lv_iconst (v := 0) hx hb d_State_begin_0 (by decide) ?_
  refine lv_istore_n (lv' := [(1, .int (0 : Int32)), (0, .ref a0)]) hx hb d_State_begin_1 rfl hl (by decide) rfl (fun ls hl => ?_)
  have hl := lv_sub hl (l' := [(0, .ref a0), (1, .int (0 : Int32))]) [1, 0] rfl
  exact k_2 64 (0 : Int32) u hf _ _ hP hD hS ls hl
def f_State_consume_14 (v1 : UInt64) (v3 : Int32) (v4 : UInt64) (u : S_State) : Option (S_State) := gn (FP.ddiv v1 (4678479150791524352 : UInt64)) (bd (FP.ddiv v1 (4678479150791524352 : UInt64)) (fun x4 : UInt64 => gi v3 3 (bd (u.1 v3.toNatClampNeg) (fun x6 : UInt64 => gn (FP.dadd x6 x4) (bd (FP.dadd x6 x4) (fun x8 : UInt64 => gi v3 3 (bd (vf_upd u.1 v3.toNatClampNeg x8) (fun F10 : Nat → UInt64 => gn (FP.dmul x4 v4) (bd (FP.dmul x4 v4) (fun x12 : UInt64 => gn (FP.dsub u.2.2.1 x12) (bd (FP.dsub u.2.2.1 x12) (fun x14 : UInt64 => bd (u.2.1 + (1 : Int32)) (fun x15 : Int32 => some (F10, x15, x14, u.2.2.2.1, u.2.2.2.2.1, u.2.2.2.2.2.1, u.2.2.2.2.2.2))))))))))))))
def f_State_consume (p1 : UInt64) (p3 : Int32) (p4 : UInt64) (u : S_State) : Option (S_State) := bd (Op.cmpValue (FP.dcmp p1 u.2.2.2.1) .l) (fun x1 : Int32 => (if x1 ≤ 0 then f_State_consume_14 p1 p3 p4 u else f_State_consume_14 p1 p3 p4 (u.1, u.2.1, u.2.2.1, p1, u.2.2.2.2.1, u.2.2.2.2.2.1, u.2.2.2.2.2.2)))
set_option maxHeartbeats 4000000 in
set_option maxRecDepth 100000 in
theorem c_State_consume (l : Launch) (dC : Nat → ClassId) (dI : Nat → Nat → Nat) (cI cL cD : ClassId) (a0 a1 : Nat) (sz : Nat) (p1 : UInt64) (p3 : Int32) (p4 : UInt64) (u : S_State) (res : S_State) (hf : f_State_consume p1 p3 p4 u = some res) : Met l y_State_consume w_State_consume ({ frames := 0, cells := 0, slots := 0, locals := 0 }) (va_Pc [.ref a0, .double p1, .int p3, .double p4] (fun U => U.heap.size = sz ∧ va_P (dC, dI) CL [(a0, .inr (4, [.ref a1, .int u.2.1, .double u.2.2.1, .double u.2.2.2.1, .int u.2.2.2.2.1, .int u.2.2.2.2.2.1, .int u.2.2.2.2.2.2])), (a1, .inl (cD, 3, .inr (.inr (.inr (.inl (u.1))))))] U.heap ∧ va_K (dC, dI) CL [(cI, .int), (cL, .long), (cD, .double)] U ∧ va_D (fun _ => True) [(a0, .inr (4, [.ref a1, .int u.2.1, .double u.2.2.1, .double u.2.2.2.1, .int u.2.2.2.2.1, .int u.2.2.2.2.2.1, .int u.2.2.2.2.2.2])), (a1, .inl (cD, 3, .inr (.inr (.inr (.inl (u.1))))))] ∧ NWs U)) (va_Qv (fun (w : S_State) => w = res) (fun (w : S_State) t => va_P (dC, dI) CL [(a0, .inr (4, [.ref a1, .int w.2.1, .double w.2.2.1, .double w.2.2.2.1, .int w.2.2.2.2.1, .int w.2.2.2.2.2.1, .int w.2.2.2.2.2.2])), (a1, .inl (cD, 3, .inr (.inr (.inr (.inl (w.1))))))] t.heap ∧ va_K (dC, dI) CL [(cI, .int), (cL, .long), (cD, .double)] t ∧ va_D (va_A [(a0, .inr (4, [.ref a1, .int u.2.1, .double u.2.2.1, .double u.2.2.2.1, .int u.2.2.2.2.1, .int u.2.2.2.2.2.1, .int u.2.2.2.2.2.2])), (a1, .inl (cD, 3, .inr (.inr (.inr (.inl (u.1))))))] sz) [(a0, .inr (4, [.ref a1, .int w.2.1, .double w.2.2.1, .double w.2.2.2.1, .int w.2.2.2.2.1, .int w.2.2.2.2.2.1, .int w.2.2.2.2.2.2])), (a1, .inl (cD, 3, .inr (.inr (.inr (.inl (w.1))))))]) (va_A [(a0, .inr (4, [.ref a1, .int u.2.1, .double u.2.2.1, .double u.2.2.2.1, .int u.2.2.2.2.1, .int u.2.2.2.2.2.1, .int u.2.2.2.2.2.2])), (a1, .inl (cD, 3, .inr (.inr (.inr (.inl (u.1))))))] sz)) 0 0 (va_A [(a0, .inr (4, [.ref a1, .int u.2.1, .double u.2.2.1, .double u.2.2.2.1, .int u.2.2.2.2.1, .int u.2.2.2.2.2.1, .int u.2.2.2.2.2.2])), (a1, .inl (cD, 3, .inr (.inr (.inr (.inl (u.1))))))] sz) := by
  refine Met.ofW (cc := b_State_consume) (maxL := 8) (ret := none) (by decide) rfl ?_
  intro p e s m args below meth c s₁ B hml hv
  obtain ⟨rfl, hsz, hP, hK, hD0, hN⟩ := hv
  have hx := B.exec
  have hb := B.bytes
  have hr := B.returns
  have hts : ∀ w ∈ TB, w.before _ s = true := fun w h => atoms_spec (ws := w_State_consume) B.pre w (List.mem_cons_of_mem _ h)
  have hown : s.vm.findClass R_State = some m.cls := findClass_of_methodNamed B.named
  have hlocks := B.notSynchronized
  subst hsz
  have hD := hD0.self (sz := s.heap.size)
  generalize hAe : va_A [(a0, .inr (4, [.ref a1, .int u.2.1, .double u.2.2.1, .double u.2.2.2.1, .int u.2.2.2.2.1, .int u.2.2.2.2.2.1, .int u.2.2.2.2.2.2])), (a1, .inl (cD, 3, .inr (.inr (.inr (.inl (u.1))))))] s.heap.size = A at hD ⊢
  have hA : ∀ q : Nat, s.heap.size ≤ q → A q := fun q h => by rw [← hAe]; exact Or.inr h
  have hS : va_S A s.heap s.heap [] := va_S.rf
  have hl := lv_entry ([.ref a0, .double p1, .int p3, .double p4]) (n := 8) (Nat.le_of_ble_eq_true rfl)
  rw [lg_entry_eq]
  generalize (lg_sl ([.ref a0, .double p1, .int p3, .double p4]) ++ List.replicate (8 - (lg_sl ([.ref a0, .double p1, .int p3, .double p4])).length) Slot.unset).toArray = ls at hl ⊢
  have hl : lv_has ls 8 [(0, .ref a0), (1, .double p1), (3, .int p3), (4, .double p4)] := hl
  refine nameQ (fun Q hQe => ?_)
  have k_14 : ∀ (v1 : UInt64) (v3 : Int32) (v4 : UInt64) (u : S_State), f_State_consume_14 v1 v3 v4 u = some res → ∀ (H : Heap) (locs : List Loc), va_P (dC, dI) CL [(a0, .inr (4, [.ref a1, .int u.2.1, .double u.2.2.1, .double u.2.2.2.1, .int u.2.2.2.2.1, .int u.2.2.2.2.2.1, .int u.2.2.2.2.2.2])), (a1, .inl (cD, 3, .inr (.inr (.inr (.inl (u.1))))))] H → va_D A [(a0, .inr (4, [.ref a1, .int u.2.1, .double u.2.2.1, .double u.2.2.2.1, .int u.2.2.2.2.1, .int u.2.2.2.2.2.1, .int u.2.2.2.2.2.2])), (a1, .inl (cD, 3, .inr (.inr (.inr (.inl (u.1))))))] → va_S A s.heap H locs → ∀ (ls : Array Slot), lv_has ls 8 [(0, .ref a0), (1, .double v1), (3, .int v3), (4, .double v4)] → W p l e (headSpec w_State_consume ({ frames := 0, cells := 0, slots := 0, locals := 0 })).room s m ([.ref a0, .double p1, .int p3, .double p4] : List Value).toArray below meth c H locs 0 0 Q (F0 m 14 ls []) := by
    intro v1 v3 v4 u hf H locs hP hD hS ls hl
    rw [f_State_consume_14] at hf
    refine lv_dload_n hx hb d_State_consume_14 rfl (lv_at hl 1 rfl) ?_
    refine lv_ldc2d (v := 4678479150791524352) hx hb hown (hts _ t_366) d_State_consume_15 ?_
    obtain ⟨h3, hf⟩ := gn_t hf
    refine lv_ddiv hx hb d_State_consume_18 h3 ?_
    refine lv_topd (fun x4 ex4 => ?_)
    have hf := bd_t ex4 hf
    refine lv_dstore (lv' := [(6, .double x4), (0, .ref a0), (1, .double v1), (3, .int v3), (4, .double v4)]) hx hb d_State_consume_19 hl (by decide) rfl (fun ls hl => ?_)
    refine lv_aload_n hx hb d_State_consume_21 rfl (lv_at hl 1 rfl) ?_
    refine va_get (D := (dC, dI)) (ci := 4) (v := .ref a1) (C := R_State) (T := T_State) (N := 7) hx hb hts in_State hown hK hP 0 rfl rfl 0 (by decide) (hts _ t_93) (fun _ h9 => h9) rfl d_State_consume_22 ?_
    refine lv_iload_n hx hb d_State_consume_25 rfl (lv_at hl 3 rfl) ?_
    refine lv_dup2_11 hx hb d_State_consume_26 rfl rfl ?_
    obtain ⟨h5, hf⟩ := gi_t hf
    refine va_dald hx hb hK hP 1 2 rfl rfl h5 d_State_consume_27 ?_
    refine lv_topd (fun x6 ex6 => ?_)
    have hf := bd_t ex6 hf
    refine lv_dload hx hb d_State_consume_28 (lv_at hl 0 rfl) ?_
    obtain ⟨h7, hf⟩ := gn_t hf
    refine lv_dadd hx hb d_State_consume_30 h7 ?_
    refine lv_topd (fun x8 ex8 => ?_)
    have hf := bd_t ex8 hf
    obtain ⟨h9, hf⟩ := gi_t hf
    refine va_dast hx hb hK hP hD hS 1 2 rfl rfl h9 d_State_consume_31 (fun H locs hP hD hS => ?_)
    obtain ⟨F10, eF10⟩ : ∃ y : Nat → UInt64, y = vf_upd u.1 v3.toNatClampNeg x8 := ⟨_, rfl⟩
    have hf := bd_t eF10 hf
    have hP : va_P (dC, dI) CL [(a0, .inr (4, [.ref a1, .int u.2.1, .double u.2.2.1, .double u.2.2.2.1, .int u.2.2.2.2.1, .int u.2.2.2.2.2.1, .int u.2.2.2.2.2.2])), (a1, .inl (cD, 3, .inr (.inr (.inr (.inl (F10))))))] H := by rw [eF10]; exact hP
    have hD : va_D A [(a0, .inr (4, [.ref a1, .int u.2.1, .double u.2.2.1, .double u.2.2.2.1, .int u.2.2.2.2.1, .int u.2.2.2.2.2.1, .int u.2.2.2.2.2.2])), (a1, .inl (cD, 3, .inr (.inr (.inr (.inl (F10))))))] := by rw [eF10]; exact hD
    refine lv_aload_n hx hb d_State_consume_32 rfl (lv_at hl 1 rfl) ?_
    refine lv_dup hx hb d_State_consume_33 rfl ?_
    refine va_get (D := (dC, dI)) (ci := 4) (v := .double u.2.2.1) (C := R_State) (T := T_State) (N := 7) hx hb hts in_State hown hK hP 0 rfl rfl 2 (by decide) (hts _ t_96) (fun _ h9 => h9) rfl d_State_consume_34 ?_
    refine lv_dload hx hb d_State_consume_37 (lv_at hl 0 rfl) ?_
    refine lv_dload hx hb d_State_consume_39 (lv_at hl 4 rfl) ?_
    obtain ⟨h11, hf⟩ := gn_t hf
    refine lv_dmul hx hb d_State_consume_41 h11 ?_
    refine lv_topd (fun x12 ex12 => ?_)
    have hf := bd_t ex12 hf
    obtain ⟨h13, hf⟩ := gn_t hf
    refine lv_dsub hx hb d_State_consume_42 h13 ?_
    refine lv_topd (fun x14 ex14 => ?_)
    have hf := bd_t ex14 hf
    refine va_put (D := (dC, dI)) (ci := 4) (v := .double x14) (ty := .double) (C := R_State) (T := T_State) (N := 7) hx hb hts in_State ty_State ty_State_ok nm_State hown hK hP hD hS 0 rfl rfl 2 (by decide) (hts _ t_96) (fun _ h9 => h9) rfl (by decide +kernel) rfl rfl (Nat.le_of_ble_eq_true rfl) d_State_consume_43 (fun H locs hP hD hS => ?_)
    have hP : va_P (dC, dI) CL [(a0, .inr (4, [.ref a1, .int u.2.1, .double x14, .double u.2.2.2.1, .int u.2.2.2.2.1, .int u.2.2.2.2.2.1, .int u.2.2.2.2.2.2])), (a1, .inl (cD, 3, .inr (.inr (.inr (.inl (F10))))))] H := hP
    have hD : va_D A [(a0, .inr (4, [.ref a1, .int u.2.1, .double x14, .double u.2.2.2.1, .int u.2.2.2.2.1, .int u.2.2.2.2.2.1, .int u.2.2.2.2.2.2])), (a1, .inl (cD, 3, .inr (.inr (.inr (.inl (F10))))))] := hD
    refine lv_aload_n hx hb d_State_consume_46 rfl (lv_at hl 1 rfl) ?_
    refine lv_dup hx hb d_State_consume_47 rfl ?_
    refine va_get (D := (dC, dI)) (ci := 4) (v := .int u.2.1) (C := R_State) (T := T_State) (N := 7) hx hb hts in_State hown hK hP 0 rfl rfl 1 (by decide) (hts _ t_94) (fun _ h9 => h9) rfl d_State_consume_48 ?_
    refine lv_iconst (v := 1) hx hb d_State_consume_51 (by decide) ?_
    refine lv_iadd hx hb d_State_consume_52 ?_
    refine lv_topi (fun x15 ex15 => ?_)
    have hf := bd_t ex15 hf
    refine va_put (D := (dC, dI)) (ci := 4) (v := .int x15) (ty := .int) (C := R_State) (T := T_State) (N := 7) hx hb hts in_State ty_State ty_State_ok nm_State hown hK hP hD hS 0 rfl rfl 1 (by decide) (hts _ t_94) (fun _ h9 => h9) rfl (by decide +kernel) rfl rfl (Nat.le_of_ble_eq_true rfl) d_State_consume_53 (fun H locs hP hD hS => ?_)
    have hP : va_P (dC, dI) CL [(a0, .inr (4, [.ref a1, .int x15, .double x14, .double u.2.2.2.1, .int u.2.2.2.2.1, .int u.2.2.2.2.2.1, .int u.2.2.2.2.2.2])), (a1, .inl (cD, 3, .inr (.inr (.inr (.inl (F10))))))] H := hP
    have hD : va_D A [(a0, .inr (4, [.ref a1, .int x15, .double x14, .double u.2.2.2.1, .int u.2.2.2.2.1, .int u.2.2.2.2.2.1, .int u.2.2.2.2.2.2])), (a1, .inl (cD, 3, .inr (.inr (.inr (.inl (F10))))))] := hD
    have hf := Option.some.inj hf
    rw [hQe]
    exact W.vret hx hb hr (fun t ht hW => ⟨⟨(F10, x15, x14, u.2.2.2.1, u.2.2.2.2.1, u.2.2.2.2.2.1, u.2.2.2.2.2.2), rfl, hf, by rw [ht]; exact hP, va_K.moved hW.alike hK, hD⟩, hS.F ht⟩) hS.2.2 d_State_consume_56
  rw [f_State_consume] at hf
  refine lv_dload_n hx hb d_State_consume_0 rfl (lv_at hl 1 rfl) ?_
  refine lv_aload_n hx hb d_State_consume_1 rfl (lv_at hl 0 rfl) ?_
  refine va_get (D := (dC, dI)) (ci := 4) (v := .double u.2.2.2.1) (C := R_State) (T := T_State) (N := 7) hx hb hts in_State hown hK hP 0 rfl rfl 3 (by decide) (hts _ t_98) (fun _ h9 => h9) rfl d_State_consume_2 ?_
  refine lv_dcmp hx hb d_State_consume_5 ?_
  refine lv_topi (fun x1 ex1 => ?_)
  have hf := bd_t ex1 hf
  refine lv_if_le (tgt := 14) hx hb d_State_consume_6 (by decide) (fun c2 => ?_) (fun c2 => ?_)
  · have hf := ite_t c2 hf
    have hl := lv_sub hl (l' := [(0, .ref a0), (1, .double p1), (3, .int p3), (4, .double p4)]) [0, 1, 2, 3] rfl
    exact k_14 p1 p3 p4 u hf _ _ hP hD hS ls hl
  · have hf := ite_f c2 hf
    refine lv_aload_n hx hb d_State_consume_9 rfl (lv_at hl 0 rfl) ?_
    refine lv_dload_n hx hb d_State_consume_10 rfl (lv_at hl 1 rfl) ?_
    refine va_put (D := (dC, dI)) (ci := 4) (v := .double p1) (ty := .double) (C := R_State) (T := T_State) (N := 7) hx hb hts in_State ty_State ty_State_ok nm_State hown hK hP hD hS 0 rfl rfl 3 (by decide) (hts _ t_98) (fun _ h9 => h9) rfl (by decide +kernel) rfl rfl (Nat.le_of_ble_eq_true rfl) d_State_consume_11 (fun H locs hP hD hS => ?_)
    have hP : va_P (dC, dI) CL [(a0, .inr (4, [.ref a1, .int u.2.1, .double u.2.2.1, .double p1, .int u.2.2.2.2.1, .int u.2.2.2.2.2.1, .int u.2.2.2.2.2.2])), (a1, .inl (cD, 3, .inr (.inr (.inr (.inl (u.1))))))] H := hP
    have hD : va_D A [(a0, .inr (4, [.ref a1, .int u.2.1, .double u.2.2.1, .double p1, .int u.2.2.2.2.1, .int u.2.2.2.2.2.1, .int u.2.2.2.2.2.2])), (a1, .inl (cD, 3, .inr (.inr (.inr (.inl (u.1))))))] := hD
    have hl := lv_sub hl (l' := [(0, .ref a0), (1, .double p1), (3, .int p3), (4, .double p4)]) [0, 1, 2, 3] rfl
    exact k_14 p1 p3 p4 (u.1, u.2.1, u.2.2.1, p1, u.2.2.2.2.1, u.2.2.2.2.2.1, u.2.2.2.2.2.2) hf _ _ hP hD hS ls hl
def f_State_isCreditSpent_18 (s0 : UInt64) (s1 : UInt64) (u : S_State) : Option (Int32 × S_State) := bd (Op.cmpValue (FP.dcmp s0 s1) .g) (fun x2 : Int32 => (if 0 ≤ x2 then some ((0 : Int32), u) else some ((1 : Int32), u)))
def f_State_isCreditSpent (u : S_State) : Option (Int32 × S_State) := (if u.2.2.2.2.2.2 = 0 then f_State_isCreditSpent_18 u.2.2.1 FP.dconst0 u else f_State_isCreditSpent_18 u.2.2.1 (13835058055282163712 : UInt64) u)
set_option maxHeartbeats 4000000 in
set_option maxRecDepth 100000 in
theorem c_State_isCreditSpent (l : Launch) (dC : Nat → ClassId) (dI : Nat → Nat → Nat) (cI cL cD : ClassId) (a0 a1 : Nat) (sz : Nat) (u : S_State) (res : Int32 × S_State) (hf : f_State_isCreditSpent u = some res) : Met l y_State_isCreditSpent w_State_isCreditSpent ({ frames := 0, cells := 0, slots := 0, locals := 0 }) (va_Pc [.ref a0] (fun U => U.heap.size = sz ∧ va_P (dC, dI) CL [(a0, .inr (4, [.ref a1, .int u.2.1, .double u.2.2.1, .double u.2.2.2.1, .int u.2.2.2.2.1, .int u.2.2.2.2.2.1, .int u.2.2.2.2.2.2])), (a1, .inl (cD, 3, .inr (.inr (.inr (.inl (u.1))))))] U.heap ∧ va_K (dC, dI) CL [(cI, .int), (cL, .long), (cD, .double)] U ∧ va_D (fun _ => True) [(a0, .inr (4, [.ref a1, .int u.2.1, .double u.2.2.1, .double u.2.2.2.1, .int u.2.2.2.2.1, .int u.2.2.2.2.2.1, .int u.2.2.2.2.2.2])), (a1, .inl (cD, 3, .inr (.inr (.inr (.inl (u.1))))))] ∧ NWs U)) (va_Qi (fun (r : Int32) (w : S_State) => r = res.1 ∧ w = res.2) (fun (w : S_State) t => va_P (dC, dI) CL [(a0, .inr (4, [.ref a1, .int w.2.1, .double w.2.2.1, .double w.2.2.2.1, .int w.2.2.2.2.1, .int w.2.2.2.2.2.1, .int w.2.2.2.2.2.2])), (a1, .inl (cD, 3, .inr (.inr (.inr (.inl (w.1))))))] t.heap ∧ va_K (dC, dI) CL [(cI, .int), (cL, .long), (cD, .double)] t ∧ va_D (va_A [(a0, .inr (4, [.ref a1, .int u.2.1, .double u.2.2.1, .double u.2.2.2.1, .int u.2.2.2.2.1, .int u.2.2.2.2.2.1, .int u.2.2.2.2.2.2])), (a1, .inl (cD, 3, .inr (.inr (.inr (.inl (u.1))))))] sz) [(a0, .inr (4, [.ref a1, .int w.2.1, .double w.2.2.1, .double w.2.2.2.1, .int w.2.2.2.2.1, .int w.2.2.2.2.2.1, .int w.2.2.2.2.2.2])), (a1, .inl (cD, 3, .inr (.inr (.inr (.inl (w.1))))))]) (va_A [(a0, .inr (4, [.ref a1, .int u.2.1, .double u.2.2.1, .double u.2.2.2.1, .int u.2.2.2.2.1, .int u.2.2.2.2.2.1, .int u.2.2.2.2.2.2])), (a1, .inl (cD, 3, .inr (.inr (.inr (.inl (u.1))))))] sz)) 0 0 (va_A [(a0, .inr (4, [.ref a1, .int u.2.1, .double u.2.2.1, .double u.2.2.2.1, .int u.2.2.2.2.1, .int u.2.2.2.2.2.1, .int u.2.2.2.2.2.2])), (a1, .inl (cD, 3, .inr (.inr (.inr (.inl (u.1))))))] sz) := by
  refine Met.ofW (cc := b_State_isCreditSpent) (maxL := 1) (ret := (some .boolean)) (by decide) rfl ?_
  intro p e s m args below meth c s₁ B hml hv
  obtain ⟨rfl, hsz, hP, hK, hD0, hN⟩ := hv
  have hx := B.exec
  have hb := B.bytes
  have hr := B.returns
  have hts : ∀ w ∈ TB, w.before _ s = true := fun w h => atoms_spec (ws := w_State_isCreditSpent) B.pre w (List.mem_cons_of_mem _ h)
  have hown : s.vm.findClass R_State = some m.cls := findClass_of_methodNamed B.named
  have hlocks := B.notSynchronized
  subst hsz
  have hD := hD0.self (sz := s.heap.size)
  generalize hAe : va_A [(a0, .inr (4, [.ref a1, .int u.2.1, .double u.2.2.1, .double u.2.2.2.1, .int u.2.2.2.2.1, .int u.2.2.2.2.2.1, .int u.2.2.2.2.2.2])), (a1, .inl (cD, 3, .inr (.inr (.inr (.inl (u.1))))))] s.heap.size = A at hD ⊢
  have hA : ∀ q : Nat, s.heap.size ≤ q → A q := fun q h => by rw [← hAe]; exact Or.inr h
  have hS : va_S A s.heap s.heap [] := va_S.rf
  have hl := lv_entry ([.ref a0]) (n := 1) (Nat.le_of_ble_eq_true rfl)
  rw [lg_entry_eq]
  generalize (lg_sl ([.ref a0]) ++ List.replicate (1 - (lg_sl ([.ref a0])).length) Slot.unset).toArray = ls at hl ⊢
  have hl : lv_has ls 1 [(0, .ref a0)] := hl
  refine nameQ (fun Q hQe => ?_)
  have k_18 : ∀ (s0 : UInt64) (s1 : UInt64) (u : S_State), f_State_isCreditSpent_18 s0 s1 u = some res → ∀ (H : Heap) (locs : List Loc), va_P (dC, dI) CL [(a0, .inr (4, [.ref a1, .int u.2.1, .double u.2.2.1, .double u.2.2.2.1, .int u.2.2.2.2.1, .int u.2.2.2.2.2.1, .int u.2.2.2.2.2.2])), (a1, .inl (cD, 3, .inr (.inr (.inr (.inl (u.1))))))] H → va_D A [(a0, .inr (4, [.ref a1, .int u.2.1, .double u.2.2.1, .double u.2.2.2.1, .int u.2.2.2.2.1, .int u.2.2.2.2.2.1, .int u.2.2.2.2.2.2])), (a1, .inl (cD, 3, .inr (.inr (.inr (.inl (u.1))))))] → va_S A s.heap H locs → ∀ (ls : Array Slot), lv_has ls 1 [] → W p l e (headSpec w_State_isCreditSpent ({ frames := 0, cells := 0, slots := 0, locals := 0 })).room s m ([.ref a0] : List Value).toArray below meth c H locs 0 0 Q (F0 m 18 ls [.double s1, .double s0]) := by
    intro s0 s1 u hf H locs hP hD hS ls hl
    rw [f_State_isCreditSpent_18] at hf
    refine lv_dcmp hx hb d_State_isCreditSpent_18 ?_
    refine lv_topi (fun x2 ex2 => ?_)
    have hf := bd_t ex2 hf
    refine lv_if_ge (tgt := 26) hx hb d_State_isCreditSpent_19 (by decide) (fun c3 => ?_) (fun c3 => ?_)
    · have hf := ite_t c3 hf
      refine lv_iconst (v := 0) hx hb d_State_isCreditSpent_26 (by decide) ?_
      have hf := Option.some.inj hf
      rw [hQe]
      exact W.zret (v := (0 : Int32)) hx hb hr (by decide) (fun t ht hW => ⟨⟨(0 : Int32), u, rfl, ⟨congrArg Prod.fst hf, congrArg Prod.snd hf⟩, by rw [ht]; exact hP, va_K.moved hW.alike hK, hD⟩, hS.F ht⟩) hS.2.2 d_State_isCreditSpent_27
    · have hf := ite_f c3 hf
      refine lv_iconst (v := 1) hx hb d_State_isCreditSpent_22 (by decide) ?_
      refine lv_goto (tgt := 27) hx hb d_State_isCreditSpent_23 (by decide) ?_
      have hf := Option.some.inj hf
      rw [hQe]
      exact W.zret (v := (1 : Int32)) hx hb hr (by decide) (fun t ht hW => ⟨⟨(1 : Int32), u, rfl, ⟨congrArg Prod.fst hf, congrArg Prod.snd hf⟩, by rw [ht]; exact hP, va_K.moved hW.alike hK, hD⟩, hS.F ht⟩) hS.2.2 d_State_isCreditSpent_27
  rw [f_State_isCreditSpent] at hf
  refine lv_aload_n hx hb d_State_isCreditSpent_0 rfl (lv_at hl 0 rfl) ?_
  refine va_get (D := (dC, dI)) (ci := 4) (v := .double u.2.2.1) (C := R_State) (T := T_State) (N := 7) hx hb hts in_State hown hK hP 0 rfl rfl 2 (by decide) (hts _ t_96) (fun _ h9 => h9) rfl d_State_isCreditSpent_1 ?_
  refine lv_aload_n hx hb d_State_isCreditSpent_4 rfl (lv_at hl 0 rfl) ?_
  refine va_get (D := (dC, dI)) (ci := 4) (v := .int u.2.2.2.2.2.2) (C := R_State) (T := T_State) (N := 7) hx hb hts in_State hown hK hP 0 rfl rfl 6 (by decide) (hts _ t_104) (fun _ h9 => h9) rfl d_State_isCreditSpent_5 ?_
  refine lv_if_eq (tgt := 17) hx hb d_State_isCreditSpent_8 (by decide) (fun c1 => ?_) (fun c1 => ?_)
  · have hf := ite_t c1 hf
    refine lv_dconst0 hx hb d_State_isCreditSpent_17 ?_
    have hl := lv_sub hl (l' := []) [] rfl
    exact k_18 u.2.2.1 FP.dconst0 u hf _ _ hP hD hS ls hl
  · have hf := ite_f c1 hf
    refine lv_ldc2d (v := 13835058055282163712) hx hb hown (hts _ t_371) d_State_isCreditSpent_11 ?_
    refine lv_goto (tgt := 18) hx hb d_State_isCreditSpent_14 (by decide) ?_
    have hl := lv_sub hl (l' := []) [] rfl
    exact k_18 u.2.2.1 (13835058055282163712 : UInt64) u hf _ _ hP hD hS ls hl
def f_State_value (p1 : Int32) (u : S_State) : Option (UInt64 × S_State) := (if (3 : Int32) ≤ p1 then (if p1 = (4 : Int32) then some (u.2.2.2.1, u) else some (u.2.2.1, u)) else gi p1 3 (bd (u.1 p1.toNatClampNeg) (fun x4 : UInt64 => some (x4, u))))
set_option maxHeartbeats 4000000 in
set_option maxRecDepth 100000 in
theorem c_State_value (l : Launch) (dC : Nat → ClassId) (dI : Nat → Nat → Nat) (cI cL cD : ClassId) (a0 a1 : Nat) (sz : Nat) (p1 : Int32) (u : S_State) (res : UInt64 × S_State) (hf : f_State_value p1 u = some res) : Met l y_State_value w_State_value ({ frames := 0, cells := 0, slots := 0, locals := 0 }) (va_Pc [.ref a0, .int p1] (fun U => U.heap.size = sz ∧ va_P (dC, dI) CL [(a0, .inr (4, [.ref a1, .int u.2.1, .double u.2.2.1, .double u.2.2.2.1, .int u.2.2.2.2.1, .int u.2.2.2.2.2.1, .int u.2.2.2.2.2.2])), (a1, .inl (cD, 3, .inr (.inr (.inr (.inl (u.1))))))] U.heap ∧ va_K (dC, dI) CL [(cI, .int), (cL, .long), (cD, .double)] U ∧ va_D (fun _ => True) [(a0, .inr (4, [.ref a1, .int u.2.1, .double u.2.2.1, .double u.2.2.2.1, .int u.2.2.2.2.1, .int u.2.2.2.2.2.1, .int u.2.2.2.2.2.2])), (a1, .inl (cD, 3, .inr (.inr (.inr (.inl (u.1))))))] ∧ NWs U)) (va_Qd (fun (r : UInt64) (w : S_State) => r = res.1 ∧ w = res.2) (fun (w : S_State) t => va_P (dC, dI) CL [(a0, .inr (4, [.ref a1, .int w.2.1, .double w.2.2.1, .double w.2.2.2.1, .int w.2.2.2.2.1, .int w.2.2.2.2.2.1, .int w.2.2.2.2.2.2])), (a1, .inl (cD, 3, .inr (.inr (.inr (.inl (w.1))))))] t.heap ∧ va_K (dC, dI) CL [(cI, .int), (cL, .long), (cD, .double)] t ∧ va_D (va_A [(a0, .inr (4, [.ref a1, .int u.2.1, .double u.2.2.1, .double u.2.2.2.1, .int u.2.2.2.2.1, .int u.2.2.2.2.2.1, .int u.2.2.2.2.2.2])), (a1, .inl (cD, 3, .inr (.inr (.inr (.inl (u.1))))))] sz) [(a0, .inr (4, [.ref a1, .int w.2.1, .double w.2.2.1, .double w.2.2.2.1, .int w.2.2.2.2.1, .int w.2.2.2.2.2.1, .int w.2.2.2.2.2.2])), (a1, .inl (cD, 3, .inr (.inr (.inr (.inl (w.1))))))]) (va_A [(a0, .inr (4, [.ref a1, .int u.2.1, .double u.2.2.1, .double u.2.2.2.1, .int u.2.2.2.2.1, .int u.2.2.2.2.2.1, .int u.2.2.2.2.2.2])), (a1, .inl (cD, 3, .inr (.inr (.inr (.inl (u.1))))))] sz)) 0 0 (va_A [(a0, .inr (4, [.ref a1, .int u.2.1, .double u.2.2.1, .double u.2.2.2.1, .int u.2.2.2.2.1, .int u.2.2.2.2.2.1, .int u.2.2.2.2.2.2])), (a1, .inl (cD, 3, .inr (.inr (.inr (.inl (u.1))))))] sz) := by
  refine Met.ofW (cc := b_State_value) (maxL := 2) (ret := (some .double)) (by decide) rfl ?_
  intro p e s m args below meth c s₁ B hml hv
  obtain ⟨rfl, hsz, hP, hK, hD0, hN⟩ := hv
  have hx := B.exec
  have hb := B.bytes
  have hr := B.returns
  have hts : ∀ w ∈ TB, w.before _ s = true := fun w h => atoms_spec (ws := w_State_value) B.pre w (List.mem_cons_of_mem _ h)
  have hown : s.vm.findClass R_State = some m.cls := findClass_of_methodNamed B.named
  have hlocks := B.notSynchronized
  subst hsz
  have hD := hD0.self (sz := s.heap.size)
  generalize hAe : va_A [(a0, .inr (4, [.ref a1, .int u.2.1, .double u.2.2.1, .double u.2.2.2.1, .int u.2.2.2.2.1, .int u.2.2.2.2.2.1, .int u.2.2.2.2.2.2])), (a1, .inl (cD, 3, .inr (.inr (.inr (.inl (u.1))))))] s.heap.size = A at hD ⊢
  have hA : ∀ q : Nat, s.heap.size ≤ q → A q := fun q h => by rw [← hAe]; exact Or.inr h
  have hS : va_S A s.heap s.heap [] := va_S.rf
  have hl := lv_entry ([.ref a0, .int p1]) (n := 2) (Nat.le_of_ble_eq_true rfl)
  rw [lg_entry_eq]
  generalize (lg_sl ([.ref a0, .int p1]) ++ List.replicate (2 - (lg_sl ([.ref a0, .int p1])).length) Slot.unset).toArray = ls at hl ⊢
  have hl : lv_has ls 2 [(0, .ref a0), (1, .int p1)] := hl
  refine nameQ (fun Q hQe => ?_)
  rw [f_State_value] at hf
  refine lv_iload_n hx hb d_State_value_0 rfl (lv_at hl 1 rfl) ?_
  refine lv_iconst (v := 3) hx hb d_State_value_1 (by decide) ?_
  refine lv_icmp_ge (tgt := 12) hx hb d_State_value_2 (by decide) (fun c1 => ?_) (fun c1 => ?_)
  · have hf := ite_t c1 hf
    refine lv_iload_n hx hb d_State_value_12 rfl (lv_at hl 1 rfl) ?_
    refine lv_iconst (v := 4) hx hb d_State_value_13 (by decide) ?_
    refine lv_icmp_ne (tgt := 24) hx hb d_State_value_14 (by decide) (fun c2 => ?_) (fun c2 => ?_)
    · have hf := ite_f c2 hf
      refine lv_aload_n hx hb d_State_value_24 rfl (lv_at hl 0 rfl) ?_
      refine va_get (D := (dC, dI)) (ci := 4) (v := .double u.2.2.1) (C := R_State) (T := T_State) (N := 7) hx hb hts in_State hown hK hP 0 rfl rfl 2 (by decide) (hts _ t_96) (fun _ h9 => h9) rfl d_State_value_25 ?_
      have hf := Option.some.inj hf
      rw [hQe]
      exact W.dret (v := u.2.2.1) hx hb hr (fun t ht hW => ⟨⟨u.2.2.1, u, rfl, ⟨congrArg Prod.fst hf, congrArg Prod.snd hf⟩, by rw [ht]; exact hP, va_K.moved hW.alike hK, hD⟩, hS.F ht⟩) hS.2.2 d_State_value_28
    · have hf := ite_t c2 hf
      refine lv_aload_n hx hb d_State_value_17 rfl (lv_at hl 0 rfl) ?_
      refine va_get (D := (dC, dI)) (ci := 4) (v := .double u.2.2.2.1) (C := R_State) (T := T_State) (N := 7) hx hb hts in_State hown hK hP 0 rfl rfl 3 (by decide) (hts _ t_98) (fun _ h9 => h9) rfl d_State_value_18 ?_
      refine lv_goto (tgt := 28) hx hb d_State_value_21 (by decide) ?_
      have hf := Option.some.inj hf
      rw [hQe]
      exact W.dret (v := u.2.2.2.1) hx hb hr (fun t ht hW => ⟨⟨u.2.2.2.1, u, rfl, ⟨congrArg Prod.fst hf, congrArg Prod.snd hf⟩, by rw [ht]; exact hP, va_K.moved hW.alike hK, hD⟩, hS.F ht⟩) hS.2.2 d_State_value_28
  · have hf := ite_f c1 hf
    refine lv_aload_n hx hb d_State_value_5 rfl (lv_at hl 0 rfl) ?_
    refine va_get (D := (dC, dI)) (ci := 4) (v := .ref a1) (C := R_State) (T := T_State) (N := 7) hx hb hts in_State hown hK hP 0 rfl rfl 0 (by decide) (hts _ t_93) (fun _ h9 => h9) rfl d_State_value_6 ?_
    refine lv_iload_n hx hb d_State_value_9 rfl (lv_at hl 1 rfl) ?_
    obtain ⟨h3, hf⟩ := gi_t hf
    refine va_dald hx hb hK hP 1 2 rfl rfl h3 d_State_value_10 ?_
    refine lv_topd (fun x4 ex4 => ?_)
    have hf := bd_t ex4 hf
    have hf := Option.some.inj hf
    rw [hQe]
    exact W.dret (v := x4) hx hb hr (fun t ht hW => ⟨⟨x4, u, rfl, ⟨congrArg Prod.fst hf, congrArg Prod.snd hf⟩, by rw [ht]; exact hP, va_K.moved hW.alike hK, hD⟩, hS.F ht⟩) hS.2.2 d_State_value_11
def f_State_packInto_35 (n2 : Nat) (s0 : Int64) (s1 : Int32) (u : S_State × (Nat → Int64)) : Option (S_State × (Nat → Int64)) := bd (s1.toInt64) (fun x7 : Int64 => bd (s0 + x7) (fun x8 : Int64 => ca (f_Box_thousandths u.1.2.2.1 ()) (fun r9 w10 => bd ((1000000000000 : Int64) * x8) (fun x11 : Int64 => bd (r9 + x11) (fun x12 : Int64 => gi (1 : Int32) n2 (bd (vp_updL u.2 (1 : Int32).toNatClampNeg x12) (fun F14 : Nat → Int64 => gi (0 : Int32) 3 (bd (u.1.1 (0 : Int32).toNatClampNeg) (fun x16 : UInt64 => ca (f_Box_thousandths x16 ()) (fun r17 w18 => gi (2 : Int32) n2 (bd (vp_updL F14 (2 : Int32).toNatClampNeg r17) (fun F20 : Nat → Int64 => gi (1 : Int32) 3 (bd (u.1.1 (1 : Int32).toNatClampNeg) (fun x22 : UInt64 => ca (f_Box_thousandths x22 ()) (fun r23 w24 => gi (3 : Int32) n2 (bd (vp_updL F20 (3 : Int32).toNatClampNeg r23) (fun F26 : Nat → Int64 => gi (2 : Int32) 3 (bd (u.1.1 (2 : Int32).toNatClampNeg) (fun x28 : UInt64 => ca (f_Box_thousandths x28 ()) (fun r29 w30 => bd (u.1.2.2.2.2.1.toInt64) (fun x31 : Int64 => bd ((1000000000 : Int64) * x31) (fun x32 : Int64 => bd (r29 + x32) (fun x33 : Int64 => gi (4 : Int32) n2 (bd (vp_updL F26 (4 : Int32).toNatClampNeg x33) (fun F35 : Nat → Int64 => some (u.1, F35))))))))))))))))))))))))))
def f_State_packInto_21 (n2 : Nat) (s0 : Int64) (s1 : Int32) (u : S_State × (Nat → Int64)) : Option (S_State × (Nat → Int64)) := bd (s1.toInt64) (fun x4 : Int64 => bd (s0 + x4) (fun x5 : Int64 => (if u.1.2.2.2.2.2.2 = 0 then f_State_packInto_35 n2 x5 (0 : Int32) u else f_State_packInto_35 n2 x5 (2 : Int32) u)))
def f_State_packInto (n2 : Nat) (u : S_State × (Nat → Int64)) : Option (S_State × (Nat → Int64)) := bd (u.1.2.1.toInt64) (fun x1 : Int64 => bd (x1 * (4 : Int64)) (fun x2 : Int64 => (if u.1.2.2.2.2.2.1 = 0 then f_State_packInto_21 n2 x2 (0 : Int32) u else f_State_packInto_21 n2 x2 (1 : Int32) u)))
set_option maxHeartbeats 4000000 in
set_option maxRecDepth 100000 in
theorem c_State_packInto (l : Launch) (dC : Nat → ClassId) (dI : Nat → Nat → Nat) (cI cL cD : ClassId) (a0 a1 a2 : Nat) (n2 : Nat) (sz : Nat) (u : S_State × (Nat → Int64)) (res : S_State × (Nat → Int64)) (hf : f_State_packInto n2 u = some res) : Met l y_State_packInto w_State_packInto ({ frames := 1, cells := 0, slots := 0, locals := 21 }) (va_Pc [.ref a0, .ref a2] (fun U => U.heap.size = sz ∧ va_P (dC, dI) CL [(a0, .inr (4, [.ref a1, .int u.1.2.1, .double u.1.2.2.1, .double u.1.2.2.2.1, .int u.1.2.2.2.2.1, .int u.1.2.2.2.2.2.1, .int u.1.2.2.2.2.2.2])), (a1, .inl (cD, 3, .inr (.inr (.inr (.inl (u.1.1)))))), (a2, .inl (cL, n2, .inr (.inl (u.2))))] U.heap ∧ va_K (dC, dI) CL [(cI, .int), (cL, .long), (cD, .double)] U ∧ va_D (fun _ => True) [(a0, .inr (4, [.ref a1, .int u.1.2.1, .double u.1.2.2.1, .double u.1.2.2.2.1, .int u.1.2.2.2.2.1, .int u.1.2.2.2.2.2.1, .int u.1.2.2.2.2.2.2])), (a1, .inl (cD, 3, .inr (.inr (.inr (.inl (u.1.1)))))), (a2, .inl (cL, n2, .inr (.inl (u.2))))] ∧ NWs U)) (va_Qv (fun (w : S_State × (Nat → Int64)) => w = res) (fun (w : S_State × (Nat → Int64)) t => va_P (dC, dI) CL [(a0, .inr (4, [.ref a1, .int w.1.2.1, .double w.1.2.2.1, .double w.1.2.2.2.1, .int w.1.2.2.2.2.1, .int w.1.2.2.2.2.2.1, .int w.1.2.2.2.2.2.2])), (a1, .inl (cD, 3, .inr (.inr (.inr (.inl (w.1.1)))))), (a2, .inl (cL, n2, .inr (.inl (w.2))))] t.heap ∧ va_K (dC, dI) CL [(cI, .int), (cL, .long), (cD, .double)] t ∧ va_D (va_A [(a0, .inr (4, [.ref a1, .int u.1.2.1, .double u.1.2.2.1, .double u.1.2.2.2.1, .int u.1.2.2.2.2.1, .int u.1.2.2.2.2.2.1, .int u.1.2.2.2.2.2.2])), (a1, .inl (cD, 3, .inr (.inr (.inr (.inl (u.1.1)))))), (a2, .inl (cL, n2, .inr (.inl (u.2))))] sz) [(a0, .inr (4, [.ref a1, .int w.1.2.1, .double w.1.2.2.1, .double w.1.2.2.2.1, .int w.1.2.2.2.2.1, .int w.1.2.2.2.2.2.1, .int w.1.2.2.2.2.2.2])), (a1, .inl (cD, 3, .inr (.inr (.inr (.inl (w.1.1)))))), (a2, .inl (cL, n2, .inr (.inl (w.2))))]) (va_A [(a0, .inr (4, [.ref a1, .int u.1.2.1, .double u.1.2.2.1, .double u.1.2.2.2.1, .int u.1.2.2.2.2.1, .int u.1.2.2.2.2.2.1, .int u.1.2.2.2.2.2.2])), (a1, .inl (cD, 3, .inr (.inr (.inr (.inl (u.1.1)))))), (a2, .inl (cL, n2, .inr (.inl (u.2))))] sz)) 0 0 (va_A [(a0, .inr (4, [.ref a1, .int u.1.2.1, .double u.1.2.2.1, .double u.1.2.2.2.1, .int u.1.2.2.2.2.1, .int u.1.2.2.2.2.2.1, .int u.1.2.2.2.2.2.2])), (a1, .inl (cD, 3, .inr (.inr (.inr (.inl (u.1.1)))))), (a2, .inl (cL, n2, .inr (.inl (u.2))))] sz) := by
  refine Met.ofW (cc := b_State_packInto) (maxL := 4) (ret := none) (by decide) rfl ?_
  intro p e s m args below meth c s₁ B hml hv
  obtain ⟨rfl, hsz, hP, hK, hD0, hN⟩ := hv
  have hx := B.exec
  have hb := B.bytes
  have hr := B.returns
  have hts : ∀ w ∈ TB, w.before _ s = true := fun w h => atoms_spec (ws := w_State_packInto) B.pre w (List.mem_cons_of_mem _ h)
  have hown : s.vm.findClass R_State = some m.cls := findClass_of_methodNamed B.named
  have hlocks := B.notSynchronized
  subst hsz
  have hD := hD0.self (sz := s.heap.size)
  generalize hAe : va_A [(a0, .inr (4, [.ref a1, .int u.1.2.1, .double u.1.2.2.1, .double u.1.2.2.2.1, .int u.1.2.2.2.2.1, .int u.1.2.2.2.2.2.1, .int u.1.2.2.2.2.2.2])), (a1, .inl (cD, 3, .inr (.inr (.inr (.inl (u.1.1)))))), (a2, .inl (cL, n2, .inr (.inl (u.2))))] s.heap.size = A at hD ⊢
  have hA : ∀ q : Nat, s.heap.size ≤ q → A q := fun q h => by rw [← hAe]; exact Or.inr h
  have hS : va_S A s.heap s.heap [] := va_S.rf
  have hl := lv_entry ([.ref a0, .ref a2]) (n := 4) (Nat.le_of_ble_eq_true rfl)
  rw [lg_entry_eq]
  generalize (lg_sl ([.ref a0, .ref a2]) ++ List.replicate (4 - (lg_sl ([.ref a0, .ref a2])).length) Slot.unset).toArray = ls at hl ⊢
  have hl : lv_has ls 4 [(0, .ref a0), (1, .ref a2)] := hl
  refine nameQ (fun Q hQe => ?_)
  have k_35 : ∀ (s0 : Int64) (s1 : Int32) (u : S_State × (Nat → Int64)), f_State_packInto_35 n2 s0 s1 u = some res → ∀ (H : Heap) (locs : List Loc), va_P (dC, dI) CL [(a0, .inr (4, [.ref a1, .int u.1.2.1, .double u.1.2.2.1, .double u.1.2.2.2.1, .int u.1.2.2.2.2.1, .int u.1.2.2.2.2.2.1, .int u.1.2.2.2.2.2.2])), (a1, .inl (cD, 3, .inr (.inr (.inr (.inl (u.1.1)))))), (a2, .inl (cL, n2, .inr (.inl (u.2))))] H → va_D A [(a0, .inr (4, [.ref a1, .int u.1.2.1, .double u.1.2.2.1, .double u.1.2.2.2.1, .int u.1.2.2.2.2.1, .int u.1.2.2.2.2.2.1, .int u.1.2.2.2.2.2.2])), (a1, .inl (cD, 3, .inr (.inr (.inr (.inl (u.1.1)))))), (a2, .inl (cL, n2, .inr (.inl (u.2))))] → va_S A s.heap H locs → ∀ (ls : Array Slot), lv_has ls 4 [(0, .ref a0), (1, .ref a2)] → W p l e (headSpec w_State_packInto ({ frames := 1, cells := 0, slots := 0, locals := 21 })).room s m ([.ref a0, .ref a2] : List Value).toArray below meth c H locs 0 0 Q (F0 m 35 ls [.int s1, .long s0]) := by
    intro s0 s1 u hf H locs hP hD hS ls hl
    rw [f_State_packInto_35] at hf
    refine lv_i2l hx hb d_State_packInto_35 rfl ?_
    refine lv_topl (fun x7 ex7 => ?_)
    have hf := bd_t ex7 hf
    refine lv_ladd hx hb d_State_packInto_36 ?_
    refine lv_topl (fun x8 ex8 => ?_)
    have hf := bd_t ex8 hf
    refine lv_lstore_n (lv' := [(2, .long x8), (0, .ref a0), (1, .ref a2)]) hx hb d_State_packInto_37 rfl hl (by decide) rfl (fun ls hl => ?_)
    refine lv_aload_n hx hb d_State_packInto_38 rfl (lv_at hl 2 rfl) ?_
    refine lv_iconst (v := 1) hx hb d_State_packInto_39 (by decide) ?_
    refine lv_aload_n hx hb d_State_packInto_40 rfl (lv_at hl 1 rfl) ?_
    refine va_get (D := (dC, dI)) (ci := 4) (v := .double u.1.2.2.1) (C := R_State) (T := T_State) (N := 7) hx hb hts in_State hown hK hP 0 rfl rfl 2 (by decide) (hts _ t_96) (fun _ h9 => h9) rfl d_State_packInto_41 ?_
    obtain ⟨r9, w10, hc, hf⟩ := ca_t hf
    have hPc := hP.sub (ws' := []) [] rfl
    have hDc := hD.sub (ws' := []) [] (by decide) rfl
    have hFc := va_free (wc := []) hD hS hA [] rfl
    refine va_calll (va_runSN (As := [.double u.1.2.2.1]) (rest := [.int (1 : Int32), .ref a2]) ⟨hx, hb, hml, hown, hts⟩ (c_Box_thousandths l dC dI cI cL cD H.size u.1.2.2.1 () (r9, w10) hc) ⟨va_cnB 1 hts (gC t_419) rfl rfl rfl (hN _ n_15) (hts _ t_38) (by decide +kernel) ⟨(Nat.le_of_ble_eq_true rfl), (Nat.le_of_ble_eq_true rfl)⟩, hts _ t_418, trivial⟩ ⟨fun a U g mk q => by obtain ⟨q0, q1, qP, qK, qD, qN⟩ := q; exact ⟨q0, q1, qP, va_K.moved (u := U) (U := U.calling g mk a) (Vm.Alike.refl U.vm) qK, qD, NWs.same (u := U) (U := U.calling g mk a) rfl qN⟩, fun U hU hW => ⟨rfl, by rw [hU], by rw [hU]; exact hPc, va_K.moved hW.alike hK, hDc.weaken (fun _ _ _ _ => trivial), hN.warm hW⟩⟩ rfl rfl hl.1 rfl (lv_room (Nat.le_of_ble_eq_true rfl)) d_State_packInto_44 ⟨(Nat.le_of_ble_eq_true rfl), (Nat.le_of_ble_eq_true rfl)⟩) hS (fun q _ h => hFc q h) hFc (fun rZ wZ t H1 locs ht hvm hw hB hz1 hk1 hS => ?_)
    obtain ⟨eY, eZ⟩ := hw
    replace eY : r9 = rZ := eY.symm
    replace eZ : w10 = wZ := eZ.symm
    subst eY
    subst eZ
    obtain ⟨hP1, hK1, hD1⟩ := hB
    rw [ht] at hP1
    obtain ⟨hP, hD⟩ := va_join (wr := [(a0, .inr (4, [.ref a1, .int u.1.2.1, .double u.1.2.2.1, .double u.1.2.2.2.1, .int u.1.2.2.2.2.1, .int u.1.2.2.2.2.2.1, .int u.1.2.2.2.2.2.2])), (a1, .inl (cD, 3, .inr (.inr (.inr (.inl (u.1.1)))))), (a2, .inl (cL, n2, .inr (.inl (u.2))))]) (w1 := []) hP hD [] [0, 1, 2] rfl rfl (by decide) (by decide) hk1 hFc hP1 hD1
    generalize H1 = H at hP hS ⊢
    have hP := hP.sub (ws' := [(a0, .inr (4, [.ref a1, .int u.1.2.1, .double u.1.2.2.1, .double u.1.2.2.2.1, .int u.1.2.2.2.2.1, .int u.1.2.2.2.2.2.1, .int u.1.2.2.2.2.2.2])), (a1, .inl (cD, 3, .inr (.inr (.inr (.inl (u.1.1)))))), (a2, .inl (cL, n2, .inr (.inl (u.2))))]) [0, 1, 2] rfl
    have hD := hD.sub (ws' := [(a0, .inr (4, [.ref a1, .int u.1.2.1, .double u.1.2.2.1, .double u.1.2.2.2.1, .int u.1.2.2.2.2.1, .int u.1.2.2.2.2.2.1, .int u.1.2.2.2.2.2.2])), (a1, .inl (cD, 3, .inr (.inr (.inr (.inl (u.1.1)))))), (a2, .inl (cL, n2, .inr (.inl (u.2))))]) [0, 1, 2] (by decide) rfl
    refine lv_ldc2 (v := 1000000000000) hx hb hown (hts _ t_421) d_State_packInto_47 ?_
    refine lv_lload_n hx hb d_State_packInto_50 rfl (lv_at hl 0 rfl) ?_
    refine lv_lmul hx hb d_State_packInto_51 ?_
    refine lv_topl (fun x11 ex11 => ?_)
    have hf := bd_t ex11 hf
    refine lv_ladd hx hb d_State_packInto_52 ?_
    refine lv_topl (fun x12 ex12 => ?_)
    have hf := bd_t ex12 hf
    obtain ⟨h13, hf⟩ := gi_t hf
    refine va_last hx hb hK hP hD hS 2 1 rfl rfl h13 d_State_packInto_53 (fun H locs hP hD hS => ?_)
    obtain ⟨F14, eF14⟩ : ∃ y : Nat → Int64, y = vp_updL u.2 (1 : Int32).toNatClampNeg x12 := ⟨_, rfl⟩
    have hf := bd_t eF14 hf
    have hP : va_P (dC, dI) CL [(a0, .inr (4, [.ref a1, .int u.1.2.1, .double u.1.2.2.1, .double u.1.2.2.2.1, .int u.1.2.2.2.2.1, .int u.1.2.2.2.2.2.1, .int u.1.2.2.2.2.2.2])), (a1, .inl (cD, 3, .inr (.inr (.inr (.inl (u.1.1)))))), (a2, .inl (cL, n2, .inr (.inl (F14))))] H := by rw [eF14]; exact hP
    have hD : va_D A [(a0, .inr (4, [.ref a1, .int u.1.2.1, .double u.1.2.2.1, .double u.1.2.2.2.1, .int u.1.2.2.2.2.1, .int u.1.2.2.2.2.2.1, .int u.1.2.2.2.2.2.2])), (a1, .inl (cD, 3, .inr (.inr (.inr (.inl (u.1.1)))))), (a2, .inl (cL, n2, .inr (.inl (F14))))] := by rw [eF14]; exact hD
    refine lv_aload_n hx hb d_State_packInto_54 rfl (lv_at hl 2 rfl) ?_
    refine lv_iconst (v := 2) hx hb d_State_packInto_55 (by decide) ?_
    refine lv_aload_n hx hb d_State_packInto_56 rfl (lv_at hl 1 rfl) ?_
    refine va_get (D := (dC, dI)) (ci := 4) (v := .ref a1) (C := R_State) (T := T_State) (N := 7) hx hb hts in_State hown hK hP 0 rfl rfl 0 (by decide) (hts _ t_93) (fun _ h9 => h9) rfl d_State_packInto_57 ?_
    refine lv_iconst (v := 0) hx hb d_State_packInto_60 (by decide) ?_
    obtain ⟨h15, hf⟩ := gi_t hf
    refine va_dald hx hb hK hP 1 2 rfl rfl h15 d_State_packInto_61 ?_
    refine lv_topd (fun x16 ex16 => ?_)
    have hf := bd_t ex16 hf
    obtain ⟨r17, w18, hc, hf⟩ := ca_t hf
    have hPc := hP.sub (ws' := []) [] rfl
    have hDc := hD.sub (ws' := []) [] (by decide) rfl
    have hFc := va_free (wc := []) hD hS hA [] rfl
    refine va_calll (va_runSN (As := [.double x16]) (rest := [.int (2 : Int32), .ref a2]) ⟨hx, hb, hml, hown, hts⟩ (c_Box_thousandths l dC dI cI cL cD H.size x16 () (r17, w18) hc) ⟨va_cnB 1 hts (gC t_419) rfl rfl rfl (hN _ n_15) (hts _ t_38) (by decide +kernel) ⟨(Nat.le_of_ble_eq_true rfl), (Nat.le_of_ble_eq_true rfl)⟩, hts _ t_418, trivial⟩ ⟨fun a U g mk q => by obtain ⟨q0, q1, qP, qK, qD, qN⟩ := q; exact ⟨q0, q1, qP, va_K.moved (u := U) (U := U.calling g mk a) (Vm.Alike.refl U.vm) qK, qD, NWs.same (u := U) (U := U.calling g mk a) rfl qN⟩, fun U hU hW => ⟨rfl, by rw [hU], by rw [hU]; exact hPc, va_K.moved hW.alike hK, hDc.weaken (fun _ _ _ _ => trivial), hN.warm hW⟩⟩ rfl rfl hl.1 rfl (lv_room (Nat.le_of_ble_eq_true rfl)) d_State_packInto_62 ⟨(Nat.le_of_ble_eq_true rfl), (Nat.le_of_ble_eq_true rfl)⟩) hS (fun q _ h => hFc q h) hFc (fun rZ wZ t H1 locs ht hvm hw hB hz1 hk1 hS => ?_)
    obtain ⟨eY, eZ⟩ := hw
    replace eY : r17 = rZ := eY.symm
    replace eZ : w18 = wZ := eZ.symm
    subst eY
    subst eZ
    obtain ⟨hP1, hK1, hD1⟩ := hB
    rw [ht] at hP1
    obtain ⟨hP, hD⟩ := va_join (wr := [(a0, .inr (4, [.ref a1, .int u.1.2.1, .double u.1.2.2.1, .double u.1.2.2.2.1, .int u.1.2.2.2.2.1, .int u.1.2.2.2.2.2.1, .int u.1.2.2.2.2.2.2])), (a1, .inl (cD, 3, .inr (.inr (.inr (.inl (u.1.1)))))), (a2, .inl (cL, n2, .inr (.inl (F14))))]) (w1 := []) hP hD [] [0, 1, 2] rfl rfl (by decide) (by decide) hk1 hFc hP1 hD1
    generalize H1 = H at hP hS ⊢
    have hP := hP.sub (ws' := [(a0, .inr (4, [.ref a1, .int u.1.2.1, .double u.1.2.2.1, .double u.1.2.2.2.1, .int u.1.2.2.2.2.1, .int u.1.2.2.2.2.2.1, .int u.1.2.2.2.2.2.2])), (a1, .inl (cD, 3, .inr (.inr (.inr (.inl (u.1.1)))))), (a2, .inl (cL, n2, .inr (.inl (F14))))]) [0, 1, 2] rfl
    have hD := hD.sub (ws' := [(a0, .inr (4, [.ref a1, .int u.1.2.1, .double u.1.2.2.1, .double u.1.2.2.2.1, .int u.1.2.2.2.2.1, .int u.1.2.2.2.2.2.1, .int u.1.2.2.2.2.2.2])), (a1, .inl (cD, 3, .inr (.inr (.inr (.inl (u.1.1)))))), (a2, .inl (cL, n2, .inr (.inl (F14))))]) [0, 1, 2] (by decide) rfl
    obtain ⟨h19, hf⟩ := gi_t hf
    refine va_last hx hb hK hP hD hS 2 1 rfl rfl h19 d_State_packInto_65 (fun H locs hP hD hS => ?_)
    obtain ⟨F20, eF20⟩ : ∃ y : Nat → Int64, y = vp_updL F14 (2 : Int32).toNatClampNeg r17 := ⟨_, rfl⟩
    have hf := bd_t eF20 hf
    have hP : va_P (dC, dI) CL [(a0, .inr (4, [.ref a1, .int u.1.2.1, .double u.1.2.2.1, .double u.1.2.2.2.1, .int u.1.2.2.2.2.1, .int u.1.2.2.2.2.2.1, .int u.1.2.2.2.2.2.2])), (a1, .inl (cD, 3, .inr (.inr (.inr (.inl (u.1.1)))))), (a2, .inl (cL, n2, .inr (.inl (F20))))] H := by rw [eF20]; exact hP
    have hD : va_D A [(a0, .inr (4, [.ref a1, .int u.1.2.1, .double u.1.2.2.1, .double u.1.2.2.2.1, .int u.1.2.2.2.2.1, .int u.1.2.2.2.2.2.1, .int u.1.2.2.2.2.2.2])), (a1, .inl (cD, 3, .inr (.inr (.inr (.inl (u.1.1)))))), (a2, .inl (cL, n2, .inr (.inl (F20))))] := by rw [eF20]; exact hD
    refine lv_aload_n hx hb d_State_packInto_66 rfl (lv_at hl 2 rfl) ?_
    refine lv_iconst (v := 3) hx hb d_State_packInto_67 (by decide) ?_
    refine lv_aload_n hx hb d_State_packInto_68 rfl (lv_at hl 1 rfl) ?_
    refine va_get (D := (dC, dI)) (ci := 4) (v := .ref a1) (C := R_State) (T := T_State) (N := 7) hx hb hts in_State hown hK hP 0 rfl rfl 0 (by decide) (hts _ t_93) (fun _ h9 => h9) rfl d_State_packInto_69 ?_
    refine lv_iconst (v := 1) hx hb d_State_packInto_72 (by decide) ?_
    obtain ⟨h21, hf⟩ := gi_t hf
    refine va_dald hx hb hK hP 1 2 rfl rfl h21 d_State_packInto_73 ?_
    refine lv_topd (fun x22 ex22 => ?_)
    have hf := bd_t ex22 hf
    obtain ⟨r23, w24, hc, hf⟩ := ca_t hf
    have hPc := hP.sub (ws' := []) [] rfl
    have hDc := hD.sub (ws' := []) [] (by decide) rfl
    have hFc := va_free (wc := []) hD hS hA [] rfl
    refine va_calll (va_runSN (As := [.double x22]) (rest := [.int (3 : Int32), .ref a2]) ⟨hx, hb, hml, hown, hts⟩ (c_Box_thousandths l dC dI cI cL cD H.size x22 () (r23, w24) hc) ⟨va_cnB 1 hts (gC t_419) rfl rfl rfl (hN _ n_15) (hts _ t_38) (by decide +kernel) ⟨(Nat.le_of_ble_eq_true rfl), (Nat.le_of_ble_eq_true rfl)⟩, hts _ t_418, trivial⟩ ⟨fun a U g mk q => by obtain ⟨q0, q1, qP, qK, qD, qN⟩ := q; exact ⟨q0, q1, qP, va_K.moved (u := U) (U := U.calling g mk a) (Vm.Alike.refl U.vm) qK, qD, NWs.same (u := U) (U := U.calling g mk a) rfl qN⟩, fun U hU hW => ⟨rfl, by rw [hU], by rw [hU]; exact hPc, va_K.moved hW.alike hK, hDc.weaken (fun _ _ _ _ => trivial), hN.warm hW⟩⟩ rfl rfl hl.1 rfl (lv_room (Nat.le_of_ble_eq_true rfl)) d_State_packInto_74 ⟨(Nat.le_of_ble_eq_true rfl), (Nat.le_of_ble_eq_true rfl)⟩) hS (fun q _ h => hFc q h) hFc (fun rZ wZ t H1 locs ht hvm hw hB hz1 hk1 hS => ?_)
    obtain ⟨eY, eZ⟩ := hw
    replace eY : r23 = rZ := eY.symm
    replace eZ : w24 = wZ := eZ.symm
    subst eY
    subst eZ
    obtain ⟨hP1, hK1, hD1⟩ := hB
    rw [ht] at hP1
    obtain ⟨hP, hD⟩ := va_join (wr := [(a0, .inr (4, [.ref a1, .int u.1.2.1, .double u.1.2.2.1, .double u.1.2.2.2.1, .int u.1.2.2.2.2.1, .int u.1.2.2.2.2.2.1, .int u.1.2.2.2.2.2.2])), (a1, .inl (cD, 3, .inr (.inr (.inr (.inl (u.1.1)))))), (a2, .inl (cL, n2, .inr (.inl (F20))))]) (w1 := []) hP hD [] [0, 1, 2] rfl rfl (by decide) (by decide) hk1 hFc hP1 hD1
    generalize H1 = H at hP hS ⊢
    have hP := hP.sub (ws' := [(a0, .inr (4, [.ref a1, .int u.1.2.1, .double u.1.2.2.1, .double u.1.2.2.2.1, .int u.1.2.2.2.2.1, .int u.1.2.2.2.2.2.1, .int u.1.2.2.2.2.2.2])), (a1, .inl (cD, 3, .inr (.inr (.inr (.inl (u.1.1)))))), (a2, .inl (cL, n2, .inr (.inl (F20))))]) [0, 1, 2] rfl
    have hD := hD.sub (ws' := [(a0, .inr (4, [.ref a1, .int u.1.2.1, .double u.1.2.2.1, .double u.1.2.2.2.1, .int u.1.2.2.2.2.1, .int u.1.2.2.2.2.2.1, .int u.1.2.2.2.2.2.2])), (a1, .inl (cD, 3, .inr (.inr (.inr (.inl (u.1.1)))))), (a2, .inl (cL, n2, .inr (.inl (F20))))]) [0, 1, 2] (by decide) rfl
    obtain ⟨h25, hf⟩ := gi_t hf
    refine va_last hx hb hK hP hD hS 2 1 rfl rfl h25 d_State_packInto_77 (fun H locs hP hD hS => ?_)
    obtain ⟨F26, eF26⟩ : ∃ y : Nat → Int64, y = vp_updL F20 (3 : Int32).toNatClampNeg r23 := ⟨_, rfl⟩
    have hf := bd_t eF26 hf
    have hP : va_P (dC, dI) CL [(a0, .inr (4, [.ref a1, .int u.1.2.1, .double u.1.2.2.1, .double u.1.2.2.2.1, .int u.1.2.2.2.2.1, .int u.1.2.2.2.2.2.1, .int u.1.2.2.2.2.2.2])), (a1, .inl (cD, 3, .inr (.inr (.inr (.inl (u.1.1)))))), (a2, .inl (cL, n2, .inr (.inl (F26))))] H := by rw [eF26]; exact hP
    have hD : va_D A [(a0, .inr (4, [.ref a1, .int u.1.2.1, .double u.1.2.2.1, .double u.1.2.2.2.1, .int u.1.2.2.2.2.1, .int u.1.2.2.2.2.2.1, .int u.1.2.2.2.2.2.2])), (a1, .inl (cD, 3, .inr (.inr (.inr (.inl (u.1.1)))))), (a2, .inl (cL, n2, .inr (.inl (F26))))] := by rw [eF26]; exact hD
    refine lv_aload_n hx hb d_State_packInto_78 rfl (lv_at hl 2 rfl) ?_
    refine lv_iconst (v := 4) hx hb d_State_packInto_79 (by decide) ?_
    refine lv_aload_n hx hb d_State_packInto_80 rfl (lv_at hl 1 rfl) ?_
    refine va_get (D := (dC, dI)) (ci := 4) (v := .ref a1) (C := R_State) (T := T_State) (N := 7) hx hb hts in_State hown hK hP 0 rfl rfl 0 (by decide) (hts _ t_93) (fun _ h9 => h9) rfl d_State_packInto_81 ?_
    refine lv_iconst (v := 2) hx hb d_State_packInto_84 (by decide) ?_
    obtain ⟨h27, hf⟩ := gi_t hf
    refine va_dald hx hb hK hP 1 2 rfl rfl h27 d_State_packInto_85 ?_
    refine lv_topd (fun x28 ex28 => ?_)
    have hf := bd_t ex28 hf
    obtain ⟨r29, w30, hc, hf⟩ := ca_t hf
    have hPc := hP.sub (ws' := []) [] rfl
    have hDc := hD.sub (ws' := []) [] (by decide) rfl
    have hFc := va_free (wc := []) hD hS hA [] rfl
    refine va_calll (va_runSN (As := [.double x28]) (rest := [.int (4 : Int32), .ref a2]) ⟨hx, hb, hml, hown, hts⟩ (c_Box_thousandths l dC dI cI cL cD H.size x28 () (r29, w30) hc) ⟨va_cnB 1 hts (gC t_419) rfl rfl rfl (hN _ n_15) (hts _ t_38) (by decide +kernel) ⟨(Nat.le_of_ble_eq_true rfl), (Nat.le_of_ble_eq_true rfl)⟩, hts _ t_418, trivial⟩ ⟨fun a U g mk q => by obtain ⟨q0, q1, qP, qK, qD, qN⟩ := q; exact ⟨q0, q1, qP, va_K.moved (u := U) (U := U.calling g mk a) (Vm.Alike.refl U.vm) qK, qD, NWs.same (u := U) (U := U.calling g mk a) rfl qN⟩, fun U hU hW => ⟨rfl, by rw [hU], by rw [hU]; exact hPc, va_K.moved hW.alike hK, hDc.weaken (fun _ _ _ _ => trivial), hN.warm hW⟩⟩ rfl rfl hl.1 rfl (lv_room (Nat.le_of_ble_eq_true rfl)) d_State_packInto_86 ⟨(Nat.le_of_ble_eq_true rfl), (Nat.le_of_ble_eq_true rfl)⟩) hS (fun q _ h => hFc q h) hFc (fun rZ wZ t H1 locs ht hvm hw hB hz1 hk1 hS => ?_)
    obtain ⟨eY, eZ⟩ := hw
    replace eY : r29 = rZ := eY.symm
    replace eZ : w30 = wZ := eZ.symm
    subst eY
    subst eZ
    obtain ⟨hP1, hK1, hD1⟩ := hB
    rw [ht] at hP1
    obtain ⟨hP, hD⟩ := va_join (wr := [(a0, .inr (4, [.ref a1, .int u.1.2.1, .double u.1.2.2.1, .double u.1.2.2.2.1, .int u.1.2.2.2.2.1, .int u.1.2.2.2.2.2.1, .int u.1.2.2.2.2.2.2])), (a1, .inl (cD, 3, .inr (.inr (.inr (.inl (u.1.1)))))), (a2, .inl (cL, n2, .inr (.inl (F26))))]) (w1 := []) hP hD [] [0, 1, 2] rfl rfl (by decide) (by decide) hk1 hFc hP1 hD1
    generalize H1 = H at hP hS ⊢
    have hP := hP.sub (ws' := [(a0, .inr (4, [.ref a1, .int u.1.2.1, .double u.1.2.2.1, .double u.1.2.2.2.1, .int u.1.2.2.2.2.1, .int u.1.2.2.2.2.2.1, .int u.1.2.2.2.2.2.2])), (a1, .inl (cD, 3, .inr (.inr (.inr (.inl (u.1.1)))))), (a2, .inl (cL, n2, .inr (.inl (F26))))]) [0, 1, 2] rfl
    have hD := hD.sub (ws' := [(a0, .inr (4, [.ref a1, .int u.1.2.1, .double u.1.2.2.1, .double u.1.2.2.2.1, .int u.1.2.2.2.2.1, .int u.1.2.2.2.2.2.1, .int u.1.2.2.2.2.2.2])), (a1, .inl (cD, 3, .inr (.inr (.inr (.inl (u.1.1)))))), (a2, .inl (cL, n2, .inr (.inl (F26))))]) [0, 1, 2] (by decide) rfl
    refine lv_ldc2 (v := 1000000000) hx hb hown (hts _ t_422) d_State_packInto_89 ?_
    refine lv_aload_n hx hb d_State_packInto_92 rfl (lv_at hl 1 rfl) ?_
    refine va_get (D := (dC, dI)) (ci := 4) (v := .int u.1.2.2.2.2.1) (C := R_State) (T := T_State) (N := 7) hx hb hts in_State hown hK hP 0 rfl rfl 4 (by decide) (hts _ t_100) (fun _ h9 => h9) rfl d_State_packInto_93 ?_
    refine lv_i2l hx hb d_State_packInto_96 rfl ?_
    refine lv_topl (fun x31 ex31 => ?_)
    have hf := bd_t ex31 hf
    refine lv_lmul hx hb d_State_packInto_97 ?_
    refine lv_topl (fun x32 ex32 => ?_)
    have hf := bd_t ex32 hf
    refine lv_ladd hx hb d_State_packInto_98 ?_
    refine lv_topl (fun x33 ex33 => ?_)
    have hf := bd_t ex33 hf
    obtain ⟨h34, hf⟩ := gi_t hf
    refine va_last hx hb hK hP hD hS 2 1 rfl rfl h34 d_State_packInto_99 (fun H locs hP hD hS => ?_)
    obtain ⟨F35, eF35⟩ : ∃ y : Nat → Int64, y = vp_updL F26 (4 : Int32).toNatClampNeg x33 := ⟨_, rfl⟩
    have hf := bd_t eF35 hf
    have hP : va_P (dC, dI) CL [(a0, .inr (4, [.ref a1, .int u.1.2.1, .double u.1.2.2.1, .double u.1.2.2.2.1, .int u.1.2.2.2.2.1, .int u.1.2.2.2.2.2.1, .int u.1.2.2.2.2.2.2])), (a1, .inl (cD, 3, .inr (.inr (.inr (.inl (u.1.1)))))), (a2, .inl (cL, n2, .inr (.inl (F35))))] H := by rw [eF35]; exact hP
    have hD : va_D A [(a0, .inr (4, [.ref a1, .int u.1.2.1, .double u.1.2.2.1, .double u.1.2.2.2.1, .int u.1.2.2.2.2.1, .int u.1.2.2.2.2.2.1, .int u.1.2.2.2.2.2.2])), (a1, .inl (cD, 3, .inr (.inr (.inr (.inl (u.1.1)))))), (a2, .inl (cL, n2, .inr (.inl (F35))))] := by rw [eF35]; exact hD
    have hf := Option.some.inj hf
    rw [hQe]
    exact W.vret hx hb hr (fun t ht hW => ⟨⟨(u.1, F35), rfl, hf, by rw [ht]; exact hP, va_K.moved hW.alike hK, hD⟩, hS.F ht⟩) hS.2.2 d_State_packInto_100
  have k_21 : ∀ (s0 : Int64) (s1 : Int32) (u : S_State × (Nat → Int64)), f_State_packInto_21 n2 s0 s1 u = some res → ∀ (H : Heap) (locs : List Loc), va_P (dC, dI) CL [(a0, .inr (4, [.ref a1, .int u.1.2.1, .double u.1.2.2.1, .double u.1.2.2.2.1, .int u.1.2.2.2.2.1, .int u.1.2.2.2.2.2.1, .int u.1.2.2.2.2.2.2])), (a1, .inl (cD, 3, .inr (.inr (.inr (.inl (u.1.1)))))), (a2, .inl (cL, n2, .inr (.inl (u.2))))] H → va_D A [(a0, .inr (4, [.ref a1, .int u.1.2.1, .double u.1.2.2.1, .double u.1.2.2.2.1, .int u.1.2.2.2.2.1, .int u.1.2.2.2.2.2.1, .int u.1.2.2.2.2.2.2])), (a1, .inl (cD, 3, .inr (.inr (.inr (.inl (u.1.1)))))), (a2, .inl (cL, n2, .inr (.inl (u.2))))] → va_S A s.heap H locs → ∀ (ls : Array Slot), lv_has ls 4 [(0, .ref a0), (1, .ref a2)] → W p l e (headSpec w_State_packInto ({ frames := 1, cells := 0, slots := 0, locals := 21 })).room s m ([.ref a0, .ref a2] : List Value).toArray below meth c H locs 0 0 Q (F0 m 21 ls [.int s1, .long s0]) := by
    intro s0 s1 u hf H locs hP hD hS ls hl
    rw [f_State_packInto_21] at hf
    refine lv_i2l hx hb d_State_packInto_21 rfl ?_
    refine lv_topl (fun x4 ex4 => ?_)
    have hf := bd_t ex4 hf
    refine lv_ladd hx hb d_State_packInto_22 ?_
    refine lv_topl (fun x5 ex5 => ?_)
    have hf := bd_t ex5 hf
    refine lv_aload_n hx hb d_State_packInto_23 rfl (lv_at hl 0 rfl) ?_
    refine va_get (D := (dC, dI)) (ci := 4) (v := .int u.1.2.2.2.2.2.2) (C := R_State) (T := T_State) (N := 7) hx hb hts in_State hown hK hP 0 rfl rfl 6 (by decide) (hts _ t_104) (fun _ h9 => h9) rfl d_State_packInto_24 ?_
    refine lv_if_eq (tgt := 34) hx hb d_State_packInto_27 (by decide) (fun c6 => ?_) (fun c6 => ?_)
    · have hf := ite_t c6 hf
      refine lv_iconst (v := 0) hx hb d_State_packInto_34 (by decide) ?_
      have hl := lv_sub hl (l' := [(0, .ref a0), (1, .ref a2)]) [0, 1] rfl
      exact k_35 x5 (0 : Int32) u hf _ _ hP hD hS ls hl
    · have hf := ite_f c6 hf
      refine lv_iconst (v := 2) hx hb d_State_packInto_30 (by decide) ?_
      refine lv_goto (tgt := 35) hx hb d_State_packInto_31 (by decide) ?_
      have hl := lv_sub hl (l' := [(0, .ref a0), (1, .ref a2)]) [0, 1] rfl
      exact k_35 x5 (2 : Int32) u hf _ _ hP hD hS ls hl
  rw [f_State_packInto] at hf
  refine lv_aload_n hx hb d_State_packInto_0 rfl (lv_at hl 0 rfl) ?_
  refine va_get (D := (dC, dI)) (ci := 4) (v := .int u.1.2.1) (C := R_State) (T := T_State) (N := 7) hx hb hts in_State hown hK hP 0 rfl rfl 1 (by decide) (hts _ t_94) (fun _ h9 => h9) rfl d_State_packInto_1 ?_
  refine lv_i2l hx hb d_State_packInto_4 rfl ?_
  refine lv_topl (fun x1 ex1 => ?_)
  have hf := bd_t ex1 hf
  refine lv_ldc2 (v := 4) hx hb hown (hts _ t_416) d_State_packInto_5 ?_
  refine lv_lmul hx hb d_State_packInto_8 ?_
  refine lv_topl (fun x2 ex2 => ?_)
  have hf := bd_t ex2 hf
  refine lv_aload_n hx hb d_State_packInto_9 rfl (lv_at hl 0 rfl) ?_
  refine va_get (D := (dC, dI)) (ci := 4) (v := .int u.1.2.2.2.2.2.1) (C := R_State) (T := T_State) (N := 7) hx hb hts in_State hown hK hP 0 rfl rfl 5 (by decide) (hts _ t_102) (fun _ h9 => h9) rfl d_State_packInto_10 ?_
  refine lv_if_eq (tgt := 20) hx hb d_State_packInto_13 (by decide) (fun c3 => ?_) (fun c3 => ?_)
  · have hf := ite_t c3 hf
    refine lv_iconst (v := 0) hx hb d_State_packInto_20 (by decide) ?_
    have hl := lv_sub hl (l' := [(0, .ref a0), (1, .ref a2)]) [0, 1] rfl
    exact k_21 x2 (0 : Int32) u hf _ _ hP hD hS ls hl
  · have hf := ite_f c3 hf
    refine lv_iconst (v := 1) hx hb d_State_packInto_16 (by decide) ?_
    refine lv_goto (tgt := 21) hx hb d_State_packInto_17 (by decide) ?_
    have hl := lv_sub hl (l' := [(0, .ref a0), (1, .ref a2)]) [0, 1] rfl
    exact k_21 x2 (1 : Int32) u hf _ _ hP hD hS ls hl
def f_State_unpackFrom_131 (n2 : Nat) (v4 : Int64) (s1 : Int32) (u : S_State × (Nat → Int64)) : Option (S_State × (Nat → Int64)) := gb s1 (bd (v4.toInt32) (fun x48 : Int32 => some ((u.1.1, u.1.2.1, u.1.2.2.1, FP.dconst0, x48, u.1.2.2.2.2.2.1, s1), u.2)))
def f_State_unpackFrom_112 (n2 : Nat) (v2 : Int64) (v4 : Int64) (s1 : Int32) (u : S_State × (Nat → Int64)) : Option (S_State × (Nat → Int64)) := gb s1 (bd (v2 &&& (2 : Int64)) (fun x44 : Int64 => bd (lg_cmp x44 (0 : Int64)) (fun x45 : Int32 => (if x45 = 0 then f_State_unpackFrom_131 n2 v4 (0 : Int32) ((u.1.1, u.1.2.1, u.1.2.2.1, u.1.2.2.2.1, u.1.2.2.2.2.1, s1, u.1.2.2.2.2.2.2), u.2) else f_State_unpackFrom_131 n2 v4 (1 : Int32) ((u.1.1, u.1.2.1, u.1.2.2.1, u.1.2.2.2.1, u.1.2.2.2.2.1, s1, u.1.2.2.2.2.2.2), u.2)))))
def f_State_unpackFrom (n2 : Nat) (u : S_State × (Nat → Int64)) : Option (S_State × (Nat → Int64)) := gi (1 : Int32) n2 (bd (u.2 (1 : Int32).toNatClampNeg) (fun x2 : Int64 => bd (x2 + (500000000000 : Int64)) (fun x3 : Int64 => bd (x3 / (1000000000000 : Int64)) (fun x4 : Int64 => gi (4 : Int32) n2 (bd (u.2 (4 : Int32).toNatClampNeg) (fun x6 : Int64 => bd (x6 / (1000000000 : Int64)) (fun x7 : Int64 => gi (1 : Int32) n2 (bd (u.2 (1 : Int32).toNatClampNeg) (fun x9 : Int64 => bd (x4 * (1000000000000 : Int64)) (fun x10 : Int64 => bd (x9 - x10) (fun x11 : Int64 => bd (FP.l2d x11) (fun x12 : UInt64 => gn (FP.ddiv x12 (4652007308841189376 : UInt64)) (bd (FP.ddiv x12 (4652007308841189376 : UInt64)) (fun x14 : UInt64 => gi (2 : Int32) n2 (bd (u.2 (2 : Int32).toNatClampNeg) (fun x16 : Int64 => bd (FP.l2d x16) (fun x17 : UInt64 => gn (FP.ddiv x17 (4652007308841189376 : UInt64)) (bd (FP.ddiv x17 (4652007308841189376 : UInt64)) (fun x19 : UInt64 => gi (0 : Int32) 3 (bd (vf_upd u.1.1 (0 : Int32).toNatClampNeg x19) (fun F21 : Nat → UInt64 => gi (3 : Int32) n2 (bd (u.2 (3 : Int32).toNatClampNeg) (fun x23 : Int64 => bd (FP.l2d x23) (fun x24 : UInt64 => gn (FP.ddiv x24 (4652007308841189376 : UInt64)) (bd (FP.ddiv x24 (4652007308841189376 : UInt64)) (fun x26 : UInt64 => gi (1 : Int32) 3 (bd (vf_upd F21 (1 : Int32).toNatClampNeg x26) (fun F28 : Nat → UInt64 => gi (4 : Int32) n2 (bd (u.2 (4 : Int32).toNatClampNeg) (fun x30 : Int64 => bd (x7 * (1000000000 : Int64)) (fun x31 : Int64 => bd (x30 - x31) (fun x32 : Int64 => bd (FP.l2d x32) (fun x33 : UInt64 => gn (FP.ddiv x33 (4652007308841189376 : UInt64)) (bd (FP.ddiv x33 (4652007308841189376 : UInt64)) (fun x35 : UInt64 => gi (2 : Int32) 3 (bd (vf_upd F28 (2 : Int32).toNatClampNeg x35) (fun F37 : Nat → UInt64 => bd (x4 / (4 : Int64)) (fun x38 : Int64 => bd (x38.toInt32) (fun x39 : Int32 => bd (x4 &&& (1 : Int64)) (fun x40 : Int64 => bd (lg_cmp x40 (0 : Int64)) (fun x41 : Int32 => (if x41 = 0 then f_State_unpackFrom_112 n2 x4 x7 (0 : Int32) ((F37, x39, x14, u.1.2.2.2.1, u.1.2.2.2.2.1, u.1.2.2.2.2.2.1, u.1.2.2.2.2.2.2), u.2) else f_State_unpackFrom_112 n2 x4 x7 (1 : Int32) ((F37, x39, x14, u.1.2.2.2.1, u.1.2.2.2.2.1, u.1.2.2.2.2.2.1, u.1.2.2.2.2.2.2), u.2)))))))))))))))))))))))))))))))))))))))))))
set_option maxHeartbeats 4000000 in
set_option maxRecDepth 100000 in
theorem c_State_unpackFrom (l : Launch) (dC : Nat → ClassId) (dI : Nat → Nat → Nat) (cI cL cD : ClassId) (a0 a1 a2 : Nat) (n2 : Nat) (sz : Nat) (u : S_State × (Nat → Int64)) (res : S_State × (Nat → Int64)) (hf : f_State_unpackFrom n2 u = some res) : Met l y_State_unpackFrom w_State_unpackFrom ({ frames := 0, cells := 0, slots := 0, locals := 0 }) (va_Pc [.ref a0, .ref a2] (fun U => U.heap.size = sz ∧ va_P (dC, dI) CL [(a0, .inr (4, [.ref a1, .int u.1.2.1, .double u.1.2.2.1, .double u.1.2.2.2.1, .int u.1.2.2.2.2.1, .int u.1.2.2.2.2.2.1, .int u.1.2.2.2.2.2.2])), (a1, .inl (cD, 3, .inr (.inr (.inr (.inl (u.1.1)))))), (a2, .inl (cL, n2, .inr (.inl (u.2))))] U.heap ∧ va_K (dC, dI) CL [(cI, .int), (cL, .long), (cD, .double)] U ∧ va_D (fun _ => True) [(a0, .inr (4, [.ref a1, .int u.1.2.1, .double u.1.2.2.1, .double u.1.2.2.2.1, .int u.1.2.2.2.2.1, .int u.1.2.2.2.2.2.1, .int u.1.2.2.2.2.2.2])), (a1, .inl (cD, 3, .inr (.inr (.inr (.inl (u.1.1)))))), (a2, .inl (cL, n2, .inr (.inl (u.2))))] ∧ NWs U)) (va_Qv (fun (w : S_State × (Nat → Int64)) => w = res) (fun (w : S_State × (Nat → Int64)) t => va_P (dC, dI) CL [(a0, .inr (4, [.ref a1, .int w.1.2.1, .double w.1.2.2.1, .double w.1.2.2.2.1, .int w.1.2.2.2.2.1, .int w.1.2.2.2.2.2.1, .int w.1.2.2.2.2.2.2])), (a1, .inl (cD, 3, .inr (.inr (.inr (.inl (w.1.1)))))), (a2, .inl (cL, n2, .inr (.inl (w.2))))] t.heap ∧ va_K (dC, dI) CL [(cI, .int), (cL, .long), (cD, .double)] t ∧ va_D (va_A [(a0, .inr (4, [.ref a1, .int u.1.2.1, .double u.1.2.2.1, .double u.1.2.2.2.1, .int u.1.2.2.2.2.1, .int u.1.2.2.2.2.2.1, .int u.1.2.2.2.2.2.2])), (a1, .inl (cD, 3, .inr (.inr (.inr (.inl (u.1.1)))))), (a2, .inl (cL, n2, .inr (.inl (u.2))))] sz) [(a0, .inr (4, [.ref a1, .int w.1.2.1, .double w.1.2.2.1, .double w.1.2.2.2.1, .int w.1.2.2.2.2.1, .int w.1.2.2.2.2.2.1, .int w.1.2.2.2.2.2.2])), (a1, .inl (cD, 3, .inr (.inr (.inr (.inl (w.1.1)))))), (a2, .inl (cL, n2, .inr (.inl (w.2))))]) (va_A [(a0, .inr (4, [.ref a1, .int u.1.2.1, .double u.1.2.2.1, .double u.1.2.2.2.1, .int u.1.2.2.2.2.1, .int u.1.2.2.2.2.2.1, .int u.1.2.2.2.2.2.2])), (a1, .inl (cD, 3, .inr (.inr (.inr (.inl (u.1.1)))))), (a2, .inl (cL, n2, .inr (.inl (u.2))))] sz)) 0 0 (va_A [(a0, .inr (4, [.ref a1, .int u.1.2.1, .double u.1.2.2.1, .double u.1.2.2.2.1, .int u.1.2.2.2.2.1, .int u.1.2.2.2.2.2.1, .int u.1.2.2.2.2.2.2])), (a1, .inl (cD, 3, .inr (.inr (.inr (.inl (u.1.1)))))), (a2, .inl (cL, n2, .inr (.inl (u.2))))] sz) := by
  refine Met.ofW (cc := b_State_unpackFrom) (maxL := 6) (ret := none) (by decide) rfl ?_
  intro p e s m args below meth c s₁ B hml hv
  obtain ⟨rfl, hsz, hP, hK, hD0, hN⟩ := hv
  have hx := B.exec
  have hb := B.bytes
  have hr := B.returns
  have hts : ∀ w ∈ TB, w.before _ s = true := fun w h => atoms_spec (ws := w_State_unpackFrom) B.pre w (List.mem_cons_of_mem _ h)
  have hown : s.vm.findClass R_State = some m.cls := findClass_of_methodNamed B.named
  have hlocks := B.notSynchronized
  subst hsz
  have hD := hD0.self (sz := s.heap.size)
  generalize hAe : va_A [(a0, .inr (4, [.ref a1, .int u.1.2.1, .double u.1.2.2.1, .double u.1.2.2.2.1, .int u.1.2.2.2.2.1, .int u.1.2.2.2.2.2.1, .int u.1.2.2.2.2.2.2])), (a1, .inl (cD, 3, .inr (.inr (.inr (.inl (u.1.1)))))), (a2, .inl (cL, n2, .inr (.inl (u.2))))] s.heap.size = A at hD ⊢
  have hA : ∀ q : Nat, s.heap.size ≤ q → A q := fun q h => by rw [← hAe]; exact Or.inr h
  have hS : va_S A s.heap s.heap [] := va_S.rf
  have hl := lv_entry ([.ref a0, .ref a2]) (n := 6) (Nat.le_of_ble_eq_true rfl)
  rw [lg_entry_eq]
  generalize (lg_sl ([.ref a0, .ref a2]) ++ List.replicate (6 - (lg_sl ([.ref a0, .ref a2])).length) Slot.unset).toArray = ls at hl ⊢
  have hl : lv_has ls 6 [(0, .ref a0), (1, .ref a2)] := hl
  refine nameQ (fun Q hQe => ?_)
  have k_131 : ∀ (v4 : Int64) (s1 : Int32) (u : S_State × (Nat → Int64)), f_State_unpackFrom_131 n2 v4 s1 u = some res → ∀ (H : Heap) (locs : List Loc), va_P (dC, dI) CL [(a0, .inr (4, [.ref a1, .int u.1.2.1, .double u.1.2.2.1, .double u.1.2.2.2.1, .int u.1.2.2.2.2.1, .int u.1.2.2.2.2.2.1, .int u.1.2.2.2.2.2.2])), (a1, .inl (cD, 3, .inr (.inr (.inr (.inl (u.1.1)))))), (a2, .inl (cL, n2, .inr (.inl (u.2))))] H → va_D A [(a0, .inr (4, [.ref a1, .int u.1.2.1, .double u.1.2.2.1, .double u.1.2.2.2.1, .int u.1.2.2.2.2.1, .int u.1.2.2.2.2.2.1, .int u.1.2.2.2.2.2.2])), (a1, .inl (cD, 3, .inr (.inr (.inr (.inl (u.1.1)))))), (a2, .inl (cL, n2, .inr (.inl (u.2))))] → va_S A s.heap H locs → ∀ (ls : Array Slot), lv_has ls 6 [(0, .ref a0), (4, .long v4)] → W p l e (headSpec w_State_unpackFrom ({ frames := 0, cells := 0, slots := 0, locals := 0 })).room s m ([.ref a0, .ref a2] : List Value).toArray below meth c H locs 0 0 Q (F0 m 131 ls [.int s1, .ref a0]) := by
    intro v4 s1 u hf H locs hP hD hS ls hl
    rw [f_State_unpackFrom_131] at hf
    obtain ⟨h47, hf⟩ := gb_t hf
    refine va_put (D := (dC, dI)) (ci := 4) (v := .int s1) (ty := .boolean) (C := R_State) (T := T_State) (N := 7) hx hb hts in_State ty_State ty_State_ok nm_State hown hK hP hD hS 0 rfl rfl 6 (by decide) (hts _ t_104) (fun _ h9 => h9) rfl (by decide +kernel) (nb_t h47) (fb_t h47) (Nat.le_of_ble_eq_true rfl) d_State_unpackFrom_131 (fun H locs hP hD hS => ?_)
    have hP : va_P (dC, dI) CL [(a0, .inr (4, [.ref a1, .int u.1.2.1, .double u.1.2.2.1, .double u.1.2.2.2.1, .int u.1.2.2.2.2.1, .int u.1.2.2.2.2.2.1, .int s1])), (a1, .inl (cD, 3, .inr (.inr (.inr (.inl (u.1.1)))))), (a2, .inl (cL, n2, .inr (.inl (u.2))))] H := hP
    have hD : va_D A [(a0, .inr (4, [.ref a1, .int u.1.2.1, .double u.1.2.2.1, .double u.1.2.2.2.1, .int u.1.2.2.2.2.1, .int u.1.2.2.2.2.2.1, .int s1])), (a1, .inl (cD, 3, .inr (.inr (.inr (.inl (u.1.1)))))), (a2, .inl (cL, n2, .inr (.inl (u.2))))] := hD
    refine lv_aload_n hx hb d_State_unpackFrom_134 rfl (lv_at hl 0 rfl) ?_
    refine lv_lload hx hb d_State_unpackFrom_135 (lv_at hl 1 rfl) ?_
    refine lv_l2i hx hb d_State_unpackFrom_137 rfl ?_
    refine lv_topi (fun x48 ex48 => ?_)
    have hf := bd_t ex48 hf
    refine va_put (D := (dC, dI)) (ci := 4) (v := .int x48) (ty := .int) (C := R_State) (T := T_State) (N := 7) hx hb hts in_State ty_State ty_State_ok nm_State hown hK hP hD hS 0 rfl rfl 4 (by decide) (hts _ t_100) (fun _ h9 => h9) rfl (by decide +kernel) rfl rfl (Nat.le_of_ble_eq_true rfl) d_State_unpackFrom_138 (fun H locs hP hD hS => ?_)
    have hP : va_P (dC, dI) CL [(a0, .inr (4, [.ref a1, .int u.1.2.1, .double u.1.2.2.1, .double u.1.2.2.2.1, .int x48, .int u.1.2.2.2.2.2.1, .int s1])), (a1, .inl (cD, 3, .inr (.inr (.inr (.inl (u.1.1)))))), (a2, .inl (cL, n2, .inr (.inl (u.2))))] H := hP
    have hD : va_D A [(a0, .inr (4, [.ref a1, .int u.1.2.1, .double u.1.2.2.1, .double u.1.2.2.2.1, .int x48, .int u.1.2.2.2.2.2.1, .int s1])), (a1, .inl (cD, 3, .inr (.inr (.inr (.inl (u.1.1)))))), (a2, .inl (cL, n2, .inr (.inl (u.2))))] := hD
    refine lv_aload_n hx hb d_State_unpackFrom_141 rfl (lv_at hl 0 rfl) ?_
    refine lv_dconst0 hx hb d_State_unpackFrom_142 ?_
    refine va_put (D := (dC, dI)) (ci := 4) (v := .double FP.dconst0) (ty := .double) (C := R_State) (T := T_State) (N := 7) hx hb hts in_State ty_State ty_State_ok nm_State hown hK hP hD hS 0 rfl rfl 3 (by decide) (hts _ t_98) (fun _ h9 => h9) rfl (by decide +kernel) rfl rfl (Nat.le_of_ble_eq_true rfl) d_State_unpackFrom_143 (fun H locs hP hD hS => ?_)
    have hP : va_P (dC, dI) CL [(a0, .inr (4, [.ref a1, .int u.1.2.1, .double u.1.2.2.1, .double FP.dconst0, .int x48, .int u.1.2.2.2.2.2.1, .int s1])), (a1, .inl (cD, 3, .inr (.inr (.inr (.inl (u.1.1)))))), (a2, .inl (cL, n2, .inr (.inl (u.2))))] H := hP
    have hD : va_D A [(a0, .inr (4, [.ref a1, .int u.1.2.1, .double u.1.2.2.1, .double FP.dconst0, .int x48, .int u.1.2.2.2.2.2.1, .int s1])), (a1, .inl (cD, 3, .inr (.inr (.inr (.inl (u.1.1)))))), (a2, .inl (cL, n2, .inr (.inl (u.2))))] := hD
    have hf := Option.some.inj hf
    rw [hQe]
    exact W.vret hx hb hr (fun t ht hW => ⟨⟨((u.1.1, u.1.2.1, u.1.2.2.1, FP.dconst0, x48, u.1.2.2.2.2.2.1, s1), u.2), rfl, hf, by rw [ht]; exact hP, va_K.moved hW.alike hK, hD⟩, hS.F ht⟩) hS.2.2 d_State_unpackFrom_146
  have k_112 : ∀ (v2 : Int64) (v4 : Int64) (s1 : Int32) (u : S_State × (Nat → Int64)), f_State_unpackFrom_112 n2 v2 v4 s1 u = some res → ∀ (H : Heap) (locs : List Loc), va_P (dC, dI) CL [(a0, .inr (4, [.ref a1, .int u.1.2.1, .double u.1.2.2.1, .double u.1.2.2.2.1, .int u.1.2.2.2.2.1, .int u.1.2.2.2.2.2.1, .int u.1.2.2.2.2.2.2])), (a1, .inl (cD, 3, .inr (.inr (.inr (.inl (u.1.1)))))), (a2, .inl (cL, n2, .inr (.inl (u.2))))] H → va_D A [(a0, .inr (4, [.ref a1, .int u.1.2.1, .double u.1.2.2.1, .double u.1.2.2.2.1, .int u.1.2.2.2.2.1, .int u.1.2.2.2.2.2.1, .int u.1.2.2.2.2.2.2])), (a1, .inl (cD, 3, .inr (.inr (.inr (.inl (u.1.1)))))), (a2, .inl (cL, n2, .inr (.inl (u.2))))] → va_S A s.heap H locs → ∀ (ls : Array Slot), lv_has ls 6 [(0, .ref a0), (2, .long v2), (4, .long v4)] → W p l e (headSpec w_State_unpackFrom ({ frames := 0, cells := 0, slots := 0, locals := 0 })).room s m ([.ref a0, .ref a2] : List Value).toArray below meth c H locs 0 0 Q (F0 m 112 ls [.int s1, .ref a0]) := by
    intro v2 v4 s1 u hf H locs hP hD hS ls hl
    rw [f_State_unpackFrom_112] at hf
    obtain ⟨h43, hf⟩ := gb_t hf
    refine va_put (D := (dC, dI)) (ci := 4) (v := .int s1) (ty := .boolean) (C := R_State) (T := T_State) (N := 7) hx hb hts in_State ty_State ty_State_ok nm_State hown hK hP hD hS 0 rfl rfl 5 (by decide) (hts _ t_102) (fun _ h9 => h9) rfl (by decide +kernel) (nb_t h43) (fb_t h43) (Nat.le_of_ble_eq_true rfl) d_State_unpackFrom_112 (fun H locs hP hD hS => ?_)
    have hP : va_P (dC, dI) CL [(a0, .inr (4, [.ref a1, .int u.1.2.1, .double u.1.2.2.1, .double u.1.2.2.2.1, .int u.1.2.2.2.2.1, .int s1, .int u.1.2.2.2.2.2.2])), (a1, .inl (cD, 3, .inr (.inr (.inr (.inl (u.1.1)))))), (a2, .inl (cL, n2, .inr (.inl (u.2))))] H := hP
    have hD : va_D A [(a0, .inr (4, [.ref a1, .int u.1.2.1, .double u.1.2.2.1, .double u.1.2.2.2.1, .int u.1.2.2.2.2.1, .int s1, .int u.1.2.2.2.2.2.2])), (a1, .inl (cD, 3, .inr (.inr (.inr (.inl (u.1.1)))))), (a2, .inl (cL, n2, .inr (.inl (u.2))))] := hD
    refine lv_aload_n hx hb d_State_unpackFrom_115 rfl (lv_at hl 0 rfl) ?_
    refine lv_lload_n hx hb d_State_unpackFrom_116 rfl (lv_at hl 1 rfl) ?_
    refine lv_ldc2 (v := 2) hx hb hown (hts _ t_569) d_State_unpackFrom_117 ?_
    refine lv_land hx hb d_State_unpackFrom_120 ?_
    refine lv_topl (fun x44 ex44 => ?_)
    have hf := bd_t ex44 hf
    refine lv_lconst (v := 0) hx hb d_State_unpackFrom_121 (by decide) ?_
    refine W.lcmp hx hb d_State_unpackFrom_122 ?_
    refine lv_topi (fun x45 ex45 => ?_)
    have hf := bd_t ex45 hf
    refine lv_if_eq (tgt := 130) hx hb d_State_unpackFrom_123 (by decide) (fun c46 => ?_) (fun c46 => ?_)
    · have hf := ite_t c46 hf
      refine lv_iconst (v := 0) hx hb d_State_unpackFrom_130 (by decide) ?_
      have hl := lv_sub hl (l' := [(0, .ref a0), (4, .long v4)]) [0, 2] rfl
      exact k_131 v4 (0 : Int32) ((u.1.1, u.1.2.1, u.1.2.2.1, u.1.2.2.2.1, u.1.2.2.2.2.1, s1, u.1.2.2.2.2.2.2), u.2) hf _ _ hP hD hS ls hl
    · have hf := ite_f c46 hf
      refine lv_iconst (v := 1) hx hb d_State_unpackFrom_126 (by decide) ?_
      refine lv_goto (tgt := 131) hx hb d_State_unpackFrom_127 (by decide) ?_
      have hl := lv_sub hl (l' := [(0, .ref a0), (4, .long v4)]) [0, 2] rfl
      exact k_131 v4 (1 : Int32) ((u.1.1, u.1.2.1, u.1.2.2.1, u.1.2.2.2.1, u.1.2.2.2.2.1, s1, u.1.2.2.2.2.2.2), u.2) hf _ _ hP hD hS ls hl
  rw [f_State_unpackFrom] at hf
  refine lv_aload_n hx hb d_State_unpackFrom_0 rfl (lv_at hl 1 rfl) ?_
  refine lv_iconst (v := 1) hx hb d_State_unpackFrom_1 (by decide) ?_
  obtain ⟨h1, hf⟩ := gi_t hf
  refine va_lald hx hb hK hP 2 1 rfl rfl h1 d_State_unpackFrom_2 ?_
  refine lv_topl (fun x2 ex2 => ?_)
  have hf := bd_t ex2 hf
  refine lv_ldc2 (v := 500000000000) hx hb hown (hts _ t_567) d_State_unpackFrom_3 ?_
  refine lv_ladd hx hb d_State_unpackFrom_6 ?_
  refine lv_topl (fun x3 ex3 => ?_)
  have hf := bd_t ex3 hf
  refine lv_ldc2 (v := 1000000000000) hx hb hown (hts _ t_421) d_State_unpackFrom_7 ?_
  refine lv_ldiv hx hb d_State_unpackFrom_10 (by decide) ?_
  refine lv_topl (fun x4 ex4 => ?_)
  have hf := bd_t ex4 hf
  refine lv_lstore_n (lv' := [(2, .long x4), (0, .ref a0), (1, .ref a2)]) hx hb d_State_unpackFrom_11 rfl hl (by decide) rfl (fun ls hl => ?_)
  refine lv_aload_n hx hb d_State_unpackFrom_12 rfl (lv_at hl 2 rfl) ?_
  refine lv_iconst (v := 4) hx hb d_State_unpackFrom_13 (by decide) ?_
  obtain ⟨h5, hf⟩ := gi_t hf
  refine va_lald hx hb hK hP 2 1 rfl rfl h5 d_State_unpackFrom_14 ?_
  refine lv_topl (fun x6 ex6 => ?_)
  have hf := bd_t ex6 hf
  refine lv_ldc2 (v := 1000000000) hx hb hown (hts _ t_422) d_State_unpackFrom_15 ?_
  refine lv_ldiv hx hb d_State_unpackFrom_18 (by decide) ?_
  refine lv_topl (fun x7 ex7 => ?_)
  have hf := bd_t ex7 hf
  refine lv_lstore (lv' := [(4, .long x7), (2, .long x4), (0, .ref a0), (1, .ref a2)]) hx hb d_State_unpackFrom_19 hl (by decide) rfl (fun ls hl => ?_)
  refine lv_aload_n hx hb d_State_unpackFrom_21 rfl (lv_at hl 2 rfl) ?_
  refine lv_aload_n hx hb d_State_unpackFrom_22 rfl (lv_at hl 3 rfl) ?_
  refine lv_iconst (v := 1) hx hb d_State_unpackFrom_23 (by decide) ?_
  obtain ⟨h8, hf⟩ := gi_t hf
  refine va_lald hx hb hK hP 2 1 rfl rfl h8 d_State_unpackFrom_24 ?_
  refine lv_topl (fun x9 ex9 => ?_)
  have hf := bd_t ex9 hf
  refine lv_lload_n hx hb d_State_unpackFrom_25 rfl (lv_at hl 1 rfl) ?_
  refine lv_ldc2 (v := 1000000000000) hx hb hown (hts _ t_421) d_State_unpackFrom_26 ?_
  refine lv_lmul hx hb d_State_unpackFrom_29 ?_
  refine lv_topl (fun x10 ex10 => ?_)
  have hf := bd_t ex10 hf
  refine lv_lsub hx hb d_State_unpackFrom_30 ?_
  refine lv_topl (fun x11 ex11 => ?_)
  have hf := bd_t ex11 hf
  refine lv_l2d hx hb d_State_unpackFrom_31 ?_
  refine lv_topd (fun x12 ex12 => ?_)
  have hf := bd_t ex12 hf
  refine lv_ldc2d (v := 4652007308841189376) hx hb hown (hts _ t_568) d_State_unpackFrom_32 ?_
  obtain ⟨h13, hf⟩ := gn_t hf
  refine lv_ddiv hx hb d_State_unpackFrom_35 h13 ?_
  refine lv_topd (fun x14 ex14 => ?_)
  have hf := bd_t ex14 hf
  refine va_put (D := (dC, dI)) (ci := 4) (v := .double x14) (ty := .double) (C := R_State) (T := T_State) (N := 7) hx hb hts in_State ty_State ty_State_ok nm_State hown hK hP hD hS 0 rfl rfl 2 (by decide) (hts _ t_96) (fun _ h9 => h9) rfl (by decide +kernel) rfl rfl (Nat.le_of_ble_eq_true rfl) d_State_unpackFrom_36 (fun H locs hP hD hS => ?_)
  have hP : va_P (dC, dI) CL [(a0, .inr (4, [.ref a1, .int u.1.2.1, .double x14, .double u.1.2.2.2.1, .int u.1.2.2.2.2.1, .int u.1.2.2.2.2.2.1, .int u.1.2.2.2.2.2.2])), (a1, .inl (cD, 3, .inr (.inr (.inr (.inl (u.1.1)))))), (a2, .inl (cL, n2, .inr (.inl (u.2))))] H := hP
  have hD : va_D A [(a0, .inr (4, [.ref a1, .int u.1.2.1, .double x14, .double u.1.2.2.2.1, .int u.1.2.2.2.2.1, .int u.1.2.2.2.2.2.1, .int u.1.2.2.2.2.2.2])), (a1, .inl (cD, 3, .inr (.inr (.inr (.inl (u.1.1)))))), (a2, .inl (cL, n2, .inr (.inl (u.2))))] := hD
  refine lv_aload_n hx hb d_State_unpackFrom_39 rfl (lv_at hl 2 rfl) ?_
  refine va_get (D := (dC, dI)) (ci := 4) (v := .ref a1) (C := R_State) (T := T_State) (N := 7) hx hb hts in_State hown hK hP 0 rfl rfl 0 (by decide) (hts _ t_93) (fun _ h9 => h9) rfl d_State_unpackFrom_40 ?_
  refine lv_iconst (v := 0) hx hb d_State_unpackFrom_43 (by decide) ?_
  refine lv_aload_n hx hb d_State_unpackFrom_44 rfl (lv_at hl 3 rfl) ?_
  refine lv_iconst (v := 2) hx hb d_State_unpackFrom_45 (by decide) ?_
  obtain ⟨h15, hf⟩ := gi_t hf
  refine va_lald hx hb hK hP 2 1 rfl rfl h15 d_State_unpackFrom_46 ?_
  refine lv_topl (fun x16 ex16 => ?_)
  have hf := bd_t ex16 hf
  refine lv_l2d hx hb d_State_unpackFrom_47 ?_
  refine lv_topd (fun x17 ex17 => ?_)
  have hf := bd_t ex17 hf
  refine lv_ldc2d (v := 4652007308841189376) hx hb hown (hts _ t_568) d_State_unpackFrom_48 ?_
  obtain ⟨h18, hf⟩ := gn_t hf
  refine lv_ddiv hx hb d_State_unpackFrom_51 h18 ?_
  refine lv_topd (fun x19 ex19 => ?_)
  have hf := bd_t ex19 hf
  obtain ⟨h20, hf⟩ := gi_t hf
  refine va_dast hx hb hK hP hD hS 1 2 rfl rfl h20 d_State_unpackFrom_52 (fun H locs hP hD hS => ?_)
  obtain ⟨F21, eF21⟩ : ∃ y : Nat → UInt64, y = vf_upd u.1.1 (0 : Int32).toNatClampNeg x19 := ⟨_, rfl⟩
  have hf := bd_t eF21 hf
  have hP : va_P (dC, dI) CL [(a0, .inr (4, [.ref a1, .int u.1.2.1, .double x14, .double u.1.2.2.2.1, .int u.1.2.2.2.2.1, .int u.1.2.2.2.2.2.1, .int u.1.2.2.2.2.2.2])), (a1, .inl (cD, 3, .inr (.inr (.inr (.inl (F21)))))), (a2, .inl (cL, n2, .inr (.inl (u.2))))] H := by rw [eF21]; exact hP
  have hD : va_D A [(a0, .inr (4, [.ref a1, .int u.1.2.1, .double x14, .double u.1.2.2.2.1, .int u.1.2.2.2.2.1, .int u.1.2.2.2.2.2.1, .int u.1.2.2.2.2.2.2])), (a1, .inl (cD, 3, .inr (.inr (.inr (.inl (F21)))))), (a2, .inl (cL, n2, .inr (.inl (u.2))))] := by rw [eF21]; exact hD
  refine lv_aload_n hx hb d_State_unpackFrom_53 rfl (lv_at hl 2 rfl) ?_
  refine va_get (D := (dC, dI)) (ci := 4) (v := .ref a1) (C := R_State) (T := T_State) (N := 7) hx hb hts in_State hown hK hP 0 rfl rfl 0 (by decide) (hts _ t_93) (fun _ h9 => h9) rfl d_State_unpackFrom_54 ?_
  refine lv_iconst (v := 1) hx hb d_State_unpackFrom_57 (by decide) ?_
  refine lv_aload_n hx hb d_State_unpackFrom_58 rfl (lv_at hl 3 rfl) ?_
  refine lv_iconst (v := 3) hx hb d_State_unpackFrom_59 (by decide) ?_
  obtain ⟨h22, hf⟩ := gi_t hf
  refine va_lald hx hb hK hP 2 1 rfl rfl h22 d_State_unpackFrom_60 ?_
  refine lv_topl (fun x23 ex23 => ?_)
  have hf := bd_t ex23 hf
  refine lv_l2d hx hb d_State_unpackFrom_61 ?_
  refine lv_topd (fun x24 ex24 => ?_)
  have hf := bd_t ex24 hf
  refine lv_ldc2d (v := 4652007308841189376) hx hb hown (hts _ t_568) d_State_unpackFrom_62 ?_
  obtain ⟨h25, hf⟩ := gn_t hf
  refine lv_ddiv hx hb d_State_unpackFrom_65 h25 ?_
  refine lv_topd (fun x26 ex26 => ?_)
  have hf := bd_t ex26 hf
  obtain ⟨h27, hf⟩ := gi_t hf
  refine va_dast hx hb hK hP hD hS 1 2 rfl rfl h27 d_State_unpackFrom_66 (fun H locs hP hD hS => ?_)
  obtain ⟨F28, eF28⟩ : ∃ y : Nat → UInt64, y = vf_upd F21 (1 : Int32).toNatClampNeg x26 := ⟨_, rfl⟩
  have hf := bd_t eF28 hf
  have hP : va_P (dC, dI) CL [(a0, .inr (4, [.ref a1, .int u.1.2.1, .double x14, .double u.1.2.2.2.1, .int u.1.2.2.2.2.1, .int u.1.2.2.2.2.2.1, .int u.1.2.2.2.2.2.2])), (a1, .inl (cD, 3, .inr (.inr (.inr (.inl (F28)))))), (a2, .inl (cL, n2, .inr (.inl (u.2))))] H := by rw [eF28]; exact hP
  have hD : va_D A [(a0, .inr (4, [.ref a1, .int u.1.2.1, .double x14, .double u.1.2.2.2.1, .int u.1.2.2.2.2.1, .int u.1.2.2.2.2.2.1, .int u.1.2.2.2.2.2.2])), (a1, .inl (cD, 3, .inr (.inr (.inr (.inl (F28)))))), (a2, .inl (cL, n2, .inr (.inl (u.2))))] := by rw [eF28]; exact hD
  refine lv_aload_n hx hb d_State_unpackFrom_67 rfl (lv_at hl 2 rfl) ?_
  refine va_get (D := (dC, dI)) (ci := 4) (v := .ref a1) (C := R_State) (T := T_State) (N := 7) hx hb hts in_State hown hK hP 0 rfl rfl 0 (by decide) (hts _ t_93) (fun _ h9 => h9) rfl d_State_unpackFrom_68 ?_
  refine lv_iconst (v := 2) hx hb d_State_unpackFrom_71 (by decide) ?_
  refine lv_aload_n hx hb d_State_unpackFrom_72 rfl (lv_at hl 3 rfl) ?_
  refine lv_iconst (v := 4) hx hb d_State_unpackFrom_73 (by decide) ?_
  obtain ⟨h29, hf⟩ := gi_t hf
  refine va_lald hx hb hK hP 2 1 rfl rfl h29 d_State_unpackFrom_74 ?_
  refine lv_topl (fun x30 ex30 => ?_)
  have hf := bd_t ex30 hf
  refine lv_lload hx hb d_State_unpackFrom_75 (lv_at hl 0 rfl) ?_
  refine lv_ldc2 (v := 1000000000) hx hb hown (hts _ t_422) d_State_unpackFrom_77 ?_
  refine lv_lmul hx hb d_State_unpackFrom_80 ?_
  refine lv_topl (fun x31 ex31 => ?_)
  have hf := bd_t ex31 hf
  refine lv_lsub hx hb d_State_unpackFrom_81 ?_
  refine lv_topl (fun x32 ex32 => ?_)
  have hf := bd_t ex32 hf
  refine lv_l2d hx hb d_State_unpackFrom_82 ?_
  refine lv_topd (fun x33 ex33 => ?_)
  have hf := bd_t ex33 hf
  refine lv_ldc2d (v := 4652007308841189376) hx hb hown (hts _ t_568) d_State_unpackFrom_83 ?_
  obtain ⟨h34, hf⟩ := gn_t hf
  refine lv_ddiv hx hb d_State_unpackFrom_86 h34 ?_
  refine lv_topd (fun x35 ex35 => ?_)
  have hf := bd_t ex35 hf
  obtain ⟨h36, hf⟩ := gi_t hf
  refine va_dast hx hb hK hP hD hS 1 2 rfl rfl h36 d_State_unpackFrom_87 (fun H locs hP hD hS => ?_)
  obtain ⟨F37, eF37⟩ : ∃ y : Nat → UInt64, y = vf_upd F28 (2 : Int32).toNatClampNeg x35 := ⟨_, rfl⟩
  have hf := bd_t eF37 hf
  have hP : va_P (dC, dI) CL [(a0, .inr (4, [.ref a1, .int u.1.2.1, .double x14, .double u.1.2.2.2.1, .int u.1.2.2.2.2.1, .int u.1.2.2.2.2.2.1, .int u.1.2.2.2.2.2.2])), (a1, .inl (cD, 3, .inr (.inr (.inr (.inl (F37)))))), (a2, .inl (cL, n2, .inr (.inl (u.2))))] H := by rw [eF37]; exact hP
  have hD : va_D A [(a0, .inr (4, [.ref a1, .int u.1.2.1, .double x14, .double u.1.2.2.2.1, .int u.1.2.2.2.2.1, .int u.1.2.2.2.2.2.1, .int u.1.2.2.2.2.2.2])), (a1, .inl (cD, 3, .inr (.inr (.inr (.inl (F37)))))), (a2, .inl (cL, n2, .inr (.inl (u.2))))] := by rw [eF37]; exact hD
  refine lv_aload_n hx hb d_State_unpackFrom_88 rfl (lv_at hl 2 rfl) ?_
  refine lv_lload_n hx hb d_State_unpackFrom_89 rfl (lv_at hl 1 rfl) ?_
  refine lv_ldc2 (v := 4) hx hb hown (hts _ t_416) d_State_unpackFrom_90 ?_
  refine lv_ldiv hx hb d_State_unpackFrom_93 (by decide) ?_
  refine lv_topl (fun x38 ex38 => ?_)
  have hf := bd_t ex38 hf
  refine lv_l2i hx hb d_State_unpackFrom_94 rfl ?_
  refine lv_topi (fun x39 ex39 => ?_)
  have hf := bd_t ex39 hf
  refine va_put (D := (dC, dI)) (ci := 4) (v := .int x39) (ty := .int) (C := R_State) (T := T_State) (N := 7) hx hb hts in_State ty_State ty_State_ok nm_State hown hK hP hD hS 0 rfl rfl 1 (by decide) (hts _ t_94) (fun _ h9 => h9) rfl (by decide +kernel) rfl rfl (Nat.le_of_ble_eq_true rfl) d_State_unpackFrom_95 (fun H locs hP hD hS => ?_)
  have hP : va_P (dC, dI) CL [(a0, .inr (4, [.ref a1, .int x39, .double x14, .double u.1.2.2.2.1, .int u.1.2.2.2.2.1, .int u.1.2.2.2.2.2.1, .int u.1.2.2.2.2.2.2])), (a1, .inl (cD, 3, .inr (.inr (.inr (.inl (F37)))))), (a2, .inl (cL, n2, .inr (.inl (u.2))))] H := hP
  have hD : va_D A [(a0, .inr (4, [.ref a1, .int x39, .double x14, .double u.1.2.2.2.1, .int u.1.2.2.2.2.1, .int u.1.2.2.2.2.2.1, .int u.1.2.2.2.2.2.2])), (a1, .inl (cD, 3, .inr (.inr (.inr (.inl (F37)))))), (a2, .inl (cL, n2, .inr (.inl (u.2))))] := hD
  refine lv_aload_n hx hb d_State_unpackFrom_98 rfl (lv_at hl 2 rfl) ?_
  refine lv_lload_n hx hb d_State_unpackFrom_99 rfl (lv_at hl 1 rfl) ?_
  refine lv_lconst (v := 1) hx hb d_State_unpackFrom_100 (by decide) ?_
  refine lv_land hx hb d_State_unpackFrom_101 ?_
  refine lv_topl (fun x40 ex40 => ?_)
  have hf := bd_t ex40 hf
  refine lv_lconst (v := 0) hx hb d_State_unpackFrom_102 (by decide) ?_
  refine W.lcmp hx hb d_State_unpackFrom_103 ?_
  refine lv_topi (fun x41 ex41 => ?_)
  have hf := bd_t ex41 hf
  refine lv_if_eq (tgt := 111) hx hb d_State_unpackFrom_104 (by decide) (fun c42 => ?_) (fun c42 => ?_)
  · have hf := ite_t c42 hf
    refine lv_iconst (v := 0) hx hb d_State_unpackFrom_111 (by decide) ?_
    have hl := lv_sub hl (l' := [(0, .ref a0), (2, .long x4), (4, .long x7)]) [2, 1, 0] rfl
    exact k_112 x4 x7 (0 : Int32) ((F37, x39, x14, u.1.2.2.2.1, u.1.2.2.2.2.1, u.1.2.2.2.2.2.1, u.1.2.2.2.2.2.2), u.2) hf _ _ hP hD hS ls hl
  · have hf := ite_f c42 hf
    refine lv_iconst (v := 1) hx hb d_State_unpackFrom_107 (by decide) ?_
    refine lv_goto (tgt := 112) hx hb d_State_unpackFrom_108 (by decide) ?_
    have hl := lv_sub hl (l' := [(0, .ref a0), (2, .long x4), (4, .long x7)]) [2, 1, 0] rfl
    exact k_112 x4 x7 (1 : Int32) ((F37, x39, x14, u.1.2.2.2.1, u.1.2.2.2.2.1, u.1.2.2.2.2.2.1, u.1.2.2.2.2.2.2), u.2) hf _ _ hP hD hS ls hl
