def f_Arr_fillI_5 (n0 : Nat) : Nat → Int32 → Int32 → Int32 → (Nat → Int32) → Option ((Nat → Int32))
  | 0, _, _, _, _ => none
  | n + 1, v1, v2, v3, u => (if v3 ≤ v2 then some u else gi v2 n0 (bd (upd u v2.toNatClampNeg v1) (fun F3 : Nat → Int32 => bd (v2 + (1 : Int32)) (fun x4 : Int32 => (f_Arr_fillI_5 n0 n) v1 x4 v3 F3))))
def f_Arr_fillI (n0 : Nat) (p1 : Int32) (u : (Nat → Int32)) : Option ((Nat → Int32)) := f_Arr_fillI_5 n0 100 p1 (0 : Int32) (Int32.ofNat n0) u
set_option maxHeartbeats 4000000 in
set_option maxRecDepth 100000 in
theorem c_Arr_fillI (l : Launch) (dC : Nat → ClassId) (dI : Nat → Nat → Nat) (cI cL cD : ClassId) (a0 : Nat) (n0 : Nat) (sz : Nat) (p1 : Int32) (u : (Nat → Int32)) (res : (Nat → Int32)) (hf : f_Arr_fillI n0 p1 u = some res) : Met l y_Arr_fillI w_Arr_fillI ({ frames := 0, cells := 0, slots := 0, locals := 0 }) (va_Pc [.ref a0, .int p1] (fun U => U.heap.size = sz ∧ va_P (dC, dI) CL [(a0, .inl (cI, n0, .inl (u)))] U.heap ∧ va_K (dC, dI) CL [(cI, .int), (cL, .long), (cD, .double)] U ∧ va_D (fun _ => True) [(a0, .inl (cI, n0, .inl (u)))] ∧ NWs U)) (va_Qv (fun (w : (Nat → Int32)) => w = res) (fun (w : (Nat → Int32)) t => va_P (dC, dI) CL [(a0, .inl (cI, n0, .inl (w)))] t.heap ∧ va_K (dC, dI) CL [(cI, .int), (cL, .long), (cD, .double)] t ∧ va_D (va_A [(a0, .inl (cI, n0, .inl (u)))] sz) [(a0, .inl (cI, n0, .inl (w)))]) (va_A [(a0, .inl (cI, n0, .inl (u)))] sz)) 0 0 (va_A [(a0, .inl (cI, n0, .inl (u)))] sz) := by
  refine Met.ofW (cc := b_Arr_fillI) (maxL := 4) (ret := none) (by decide) rfl ?_
  intro p e s m args below meth c s₁ B hml hv
  obtain ⟨rfl, hsz, hP, hK, hD0, hN⟩ := hv
  have hx := B.exec
  have hb := B.bytes
  have hr := B.returns
  have hts : ∀ w ∈ TB, w.before _ s = true := fun w h => atoms_spec (ws := w_Arr_fillI) B.pre w (List.mem_cons_of_mem _ h)
  have hown : s.vm.findClass R_Arr = some m.cls := findClass_of_methodNamed B.named
  have hlocks := B.notSynchronized
  subst hsz
  have hD := hD0.self (sz := s.heap.size)
  generalize hAe : va_A [(a0, .inl (cI, n0, .inl (u)))] s.heap.size = A at hD ⊢
  have hA : ∀ q : Nat, s.heap.size ≤ q → A q := fun q h => by rw [← hAe]; exact Or.inr h
  have hS : va_S A s.heap s.heap [] := va_S.rf
  have hl := lv_entry ([.ref a0, .int p1]) (n := 4) (Nat.le_of_ble_eq_true rfl)
  rw [lg_entry_eq]
  generalize (lg_sl ([.ref a0, .int p1]) ++ List.replicate (4 - (lg_sl ([.ref a0, .int p1])).length) Slot.unset).toArray = ls at hl ⊢
  have hl : lv_has ls 4 [(0, .ref a0), (1, .int p1)] := hl
  refine nameQ (fun Q hQe => ?_)
  have k_5 : ∀ (n : Nat), ∀ (v1 : Int32) (v2 : Int32) (v3 : Int32) (u : (Nat → Int32)), f_Arr_fillI_5 n0 n v1 v2 v3 u = some res → ∀ (H : Heap) (locs : List Loc), va_P (dC, dI) CL [(a0, .inl (cI, n0, .inl (u)))] H → va_D A [(a0, .inl (cI, n0, .inl (u)))] → va_S A s.heap H locs → ∀ (ls : Array Slot), lv_has ls 4 [(0, .ref a0), (1, .int v1), (2, .int v2), (3, .int v3)] → W p l e (headSpec w_Arr_fillI ({ frames := 0, cells := 0, slots := 0, locals := 0 })).room s m ([.ref a0, .int p1] : List Value).toArray below meth c H locs 0 0 Q (F0 m 5 ls []) := by
    intro n
    induction n with
    | zero =>
      intro v1 v2 v3 u hf
      simp [f_Arr_fillI_5] at hf
    | succ n k_5 =>
      intro v1 v2 v3 u hf H locs hP hD hS ls hl
      rw [f_Arr_fillI_5] at hf
      refine lv_iload_n hx hb d_Arr_fillI_5 rfl (lv_at hl 2 rfl) ?_
      refine lv_iload_n hx hb d_Arr_fillI_6 rfl (lv_at hl 3 rfl) ?_
      refine lv_icmp_ge (tgt := 20) hx hb d_Arr_fillI_7 (by decide) (fun c1 => ?_) (fun c1 => ?_)
      · have hf := ite_t c1 hf
        have hf := Option.some.inj hf
        rw [hQe]
        exact W.vret hx hb hr (fun t ht hW => ⟨⟨u, rfl, hf, by rw [ht]; exact hP, va_K.moved hW.alike hK, hD⟩, hS.F ht⟩) hS.2.2 d_Arr_fillI_20
      · have hf := ite_f c1 hf
        refine lv_aload_n hx hb d_Arr_fillI_10 rfl (lv_at hl 0 rfl) ?_
        refine lv_iload_n hx hb d_Arr_fillI_11 rfl (lv_at hl 2 rfl) ?_
        refine lv_iload_n hx hb d_Arr_fillI_12 rfl (lv_at hl 1 rfl) ?_
        obtain ⟨h2, hf⟩ := gi_t hf
        refine va_iast hx hb hK hP hD hS 0 0 rfl rfl h2 d_Arr_fillI_13 (fun H locs hP hD hS => ?_)
        obtain ⟨F3, eF3⟩ : ∃ y : Nat → Int32, y = upd u v2.toNatClampNeg v1 := ⟨_, rfl⟩
        have hf := bd_t eF3 hf
        have hP : va_P (dC, dI) CL [(a0, .inl (cI, n0, .inl (F3)))] H := by rw [eF3]; exact hP
        have hD : va_D A [(a0, .inl (cI, n0, .inl (F3)))] := by rw [eF3]; exact hD
        obtain ⟨x4, ex4⟩ : ∃ y : Int32, y = v2 + (1 : Int32) := ⟨_, rfl⟩
        have hf := bd_t ex4 hf
        refine lv_iinc (v := x4) (lv' := [(2, .int x4), (0, .ref a0), (1, .int v1), (3, .int v3)]) hx hb d_Arr_fillI_14 hl (k := 2) rfl (by rw [ex4]; rfl) (by decide) rfl (fun ls hl => ?_)
        refine lv_goto (tgt := 5) hx hb d_Arr_fillI_17 (by decide) ?_
        have hl := lv_sub hl (l' := [(0, .ref a0), (1, .int v1), (2, .int x4), (3, .int v3)]) [1, 2, 0, 3] rfl
        exact k_5 v1 x4 v3 F3 hf _ _ hP hD hS ls hl
  rw [f_Arr_fillI] at hf
  refine lv_iconst (v := 0) hx hb d_Arr_fillI_0 (by decide) ?_
  refine lv_istore_n (lv' := [(2, .int (0 : Int32)), (0, .ref a0), (1, .int p1)]) hx hb d_Arr_fillI_1 rfl hl (by decide) rfl (fun ls hl => ?_)
  refine lv_aload_n hx hb d_Arr_fillI_2 rfl (lv_at hl 1 rfl) ?_
  refine va_alen (v := Int32.ofNat n0) hx hb hK hP 0 0 rfl rfl rfl d_Arr_fillI_3 ?_
  refine lv_istore_n (lv' := [(3, .int (Int32.ofNat n0)), (2, .int (0 : Int32)), (0, .ref a0), (1, .int p1)]) hx hb d_Arr_fillI_4 rfl hl (by decide) rfl (fun ls hl => ?_)
  have hl := lv_sub hl (l' := [(0, .ref a0), (1, .int p1), (2, .int (0 : Int32)), (3, .int (Int32.ofNat n0))]) [2, 3, 1, 0] rfl
  exact k_5 100 p1 (0 : Int32) (Int32.ofNat n0) u hf _ _ hP hD hS ls hl
def f_Arr_fillJ_6 (n0 : Nat) : Nat → Int64 → Int32 → Int32 → (Nat → Int64) → Option ((Nat → Int64))
  | 0, _, _, _, _ => none
  | n + 1, v1, v3, v4, u => (if v4 ≤ v3 then some u else gi v3 n0 (bd (vp_updL u v3.toNatClampNeg v1) (fun F3 : Nat → Int64 => bd (v3 + (1 : Int32)) (fun x4 : Int32 => (f_Arr_fillJ_6 n0 n) v1 x4 v4 F3))))
def f_Arr_fillJ (n0 : Nat) (p1 : Int64) (u : (Nat → Int64)) : Option ((Nat → Int64)) := f_Arr_fillJ_6 n0 100 p1 (0 : Int32) (Int32.ofNat n0) u
set_option maxHeartbeats 4000000 in
set_option maxRecDepth 100000 in
theorem c_Arr_fillJ (l : Launch) (dC : Nat → ClassId) (dI : Nat → Nat → Nat) (cI cL cD : ClassId) (a0 : Nat) (n0 : Nat) (sz : Nat) (p1 : Int64) (u : (Nat → Int64)) (res : (Nat → Int64)) (hf : f_Arr_fillJ n0 p1 u = some res) : Met l y_Arr_fillJ w_Arr_fillJ ({ frames := 0, cells := 0, slots := 0, locals := 0 }) (va_Pc [.ref a0, .long p1] (fun U => U.heap.size = sz ∧ va_P (dC, dI) CL [(a0, .inl (cL, n0, .inr (.inl (u))))] U.heap ∧ va_K (dC, dI) CL [(cI, .int), (cL, .long), (cD, .double)] U ∧ va_D (fun _ => True) [(a0, .inl (cL, n0, .inr (.inl (u))))] ∧ NWs U)) (va_Qv (fun (w : (Nat → Int64)) => w = res) (fun (w : (Nat → Int64)) t => va_P (dC, dI) CL [(a0, .inl (cL, n0, .inr (.inl (w))))] t.heap ∧ va_K (dC, dI) CL [(cI, .int), (cL, .long), (cD, .double)] t ∧ va_D (va_A [(a0, .inl (cL, n0, .inr (.inl (u))))] sz) [(a0, .inl (cL, n0, .inr (.inl (w))))]) (va_A [(a0, .inl (cL, n0, .inr (.inl (u))))] sz)) 0 0 (va_A [(a0, .inl (cL, n0, .inr (.inl (u))))] sz) := by
  refine Met.ofW (cc := b_Arr_fillJ) (maxL := 5) (ret := none) (by decide) rfl ?_
  intro p e s m args below meth c s₁ B hml hv
  obtain ⟨rfl, hsz, hP, hK, hD0, hN⟩ := hv
  have hx := B.exec
  have hb := B.bytes
  have hr := B.returns
  have hts : ∀ w ∈ TB, w.before _ s = true := fun w h => atoms_spec (ws := w_Arr_fillJ) B.pre w (List.mem_cons_of_mem _ h)
  have hown : s.vm.findClass R_Arr = some m.cls := findClass_of_methodNamed B.named
  have hlocks := B.notSynchronized
  subst hsz
  have hD := hD0.self (sz := s.heap.size)
  generalize hAe : va_A [(a0, .inl (cL, n0, .inr (.inl (u))))] s.heap.size = A at hD ⊢
  have hA : ∀ q : Nat, s.heap.size ≤ q → A q := fun q h => by rw [← hAe]; exact Or.inr h
  have hS : va_S A s.heap s.heap [] := va_S.rf
  have hl := lv_entry ([.ref a0, .long p1]) (n := 5) (Nat.le_of_ble_eq_true rfl)
  rw [lg_entry_eq]
  generalize (lg_sl ([.ref a0, .long p1]) ++ List.replicate (5 - (lg_sl ([.ref a0, .long p1])).length) Slot.unset).toArray = ls at hl ⊢
  have hl : lv_has ls 5 [(0, .ref a0), (1, .long p1)] := hl
  refine nameQ (fun Q hQe => ?_)
  have k_6 : ∀ (n : Nat), ∀ (v1 : Int64) (v3 : Int32) (v4 : Int32) (u : (Nat → Int64)), f_Arr_fillJ_6 n0 n v1 v3 v4 u = some res → ∀ (H : Heap) (locs : List Loc), va_P (dC, dI) CL [(a0, .inl (cL, n0, .inr (.inl (u))))] H → va_D A [(a0, .inl (cL, n0, .inr (.inl (u))))] → va_S A s.heap H locs → ∀ (ls : Array Slot), lv_has ls 5 [(0, .ref a0), (1, .long v1), (3, .int v3), (4, .int v4)] → W p l e (headSpec w_Arr_fillJ ({ frames := 0, cells := 0, slots := 0, locals := 0 })).room s m ([.ref a0, .long p1] : List Value).toArray below meth c H locs 0 0 Q (F0 m 6 ls []) := by
    intro n
    induction n with
    | zero =>
      intro v1 v3 v4 u hf
      simp [f_Arr_fillJ_6] at hf
    | succ n k_6 =>
      intro v1 v3 v4 u hf H locs hP hD hS ls hl
      rw [f_Arr_fillJ_6] at hf
      refine lv_iload_n hx hb d_Arr_fillJ_6 rfl (lv_at hl 2 rfl) ?_
      refine lv_iload hx hb d_Arr_fillJ_7 (lv_at hl 3 rfl) ?_
      refine lv_icmp_ge (tgt := 22) hx hb d_Arr_fillJ_9 (by decide) (fun c1 => ?_) (fun c1 => ?_)
      · have hf := ite_t c1 hf
        have hf := Option.some.inj hf
        rw [hQe]
        exact W.vret hx hb hr (fun t ht hW => ⟨⟨u, rfl, hf, by rw [ht]; exact hP, va_K.moved hW.alike hK, hD⟩, hS.F ht⟩) hS.2.2 d_Arr_fillJ_22
      · have hf := ite_f c1 hf
        refine lv_aload_n hx hb d_Arr_fillJ_12 rfl (lv_at hl 0 rfl) ?_
        refine lv_iload_n hx hb d_Arr_fillJ_13 rfl (lv_at hl 2 rfl) ?_
        refine lv_lload_n hx hb d_Arr_fillJ_14 rfl (lv_at hl 1 rfl) ?_
        obtain ⟨h2, hf⟩ := gi_t hf
        refine va_last hx hb hK hP hD hS 0 1 rfl rfl h2 d_Arr_fillJ_15 (fun H locs hP hD hS => ?_)
        obtain ⟨F3, eF3⟩ : ∃ y : Nat → Int64, y = vp_updL u v3.toNatClampNeg v1 := ⟨_, rfl⟩
        have hf := bd_t eF3 hf
        have hP : va_P (dC, dI) CL [(a0, .inl (cL, n0, .inr (.inl (F3))))] H := by rw [eF3]; exact hP
        have hD : va_D A [(a0, .inl (cL, n0, .inr (.inl (F3))))] := by rw [eF3]; exact hD
        obtain ⟨x4, ex4⟩ : ∃ y : Int32, y = v3 + (1 : Int32) := ⟨_, rfl⟩
        have hf := bd_t ex4 hf
        refine lv_iinc (v := x4) (lv' := [(3, .int x4), (0, .ref a0), (1, .long v1), (4, .int v4)]) hx hb d_Arr_fillJ_16 hl (k := 2) rfl (by rw [ex4]; rfl) (by decide) rfl (fun ls hl => ?_)
        refine lv_goto (tgt := 6) hx hb d_Arr_fillJ_19 (by decide) ?_
        have hl := lv_sub hl (l' := [(0, .ref a0), (1, .long v1), (3, .int x4), (4, .int v4)]) [1, 2, 0, 3] rfl
        exact k_6 v1 x4 v4 F3 hf _ _ hP hD hS ls hl
  rw [f_Arr_fillJ] at hf
  refine lv_iconst (v := 0) hx hb d_Arr_fillJ_0 (by decide) ?_
  refine lv_istore_n (lv' := [(3, .int (0 : Int32)), (0, .ref a0), (1, .long p1)]) hx hb d_Arr_fillJ_1 rfl hl (by decide) rfl (fun ls hl => ?_)
  refine lv_aload_n hx hb d_Arr_fillJ_2 rfl (lv_at hl 1 rfl) ?_
  refine va_alen (v := Int32.ofNat n0) hx hb hK hP 0 1 rfl rfl rfl d_Arr_fillJ_3 ?_
  refine lv_istore (lv' := [(4, .int (Int32.ofNat n0)), (3, .int (0 : Int32)), (0, .ref a0), (1, .long p1)]) hx hb d_Arr_fillJ_4 hl (by decide) rfl (fun ls hl => ?_)
  have hl := lv_sub hl (l' := [(0, .ref a0), (1, .long p1), (3, .int (0 : Int32)), (4, .int (Int32.ofNat n0))]) [2, 3, 1, 0] rfl
  exact k_6 100 p1 (0 : Int32) (Int32.ofNat n0) u hf _ _ hP hD hS ls hl
def f_Events_init : Option S_Events := some (fun _ => (0 : Int32), (0 : Int32))
set_option maxHeartbeats 4000000 in
set_option maxRecDepth 100000 in
theorem c_Events_init (l : Launch) (dC : Nat → ClassId) (dI : Nat → Nat → Nat) (cI cL cD : ClassId) (a0 : Nat) (sz : Nat) (res : S_Events) (hf : f_Events_init = some res) : Met l y_Events_init w_Events_init ({ frames := 1, cells := 1, slots := 12, locals := 12 }) (va_Pc [.ref a0] (fun U => U.heap.size = sz ∧ va_P (dC, dI) CL [(a0, .inr (0, [.null, .int (0 : Int32)]))] U.heap ∧ va_K (dC, dI) CL [(cI, .int), (cL, .long), (cD, .double)] U ∧ va_D (fun _ => True) [(a0, .inr (0, [.null, .int (0 : Int32)]))] ∧ NWs U)) (va_Qv (fun (w : S_Events) => w = res) (fun (w : S_Events) t => ∃ (b1 : Nat), va_P (dC, dI) CL [(a0, .inr (0, [.ref b1, .int w.2])), (b1, .inl (cI, 12, .inl (w.1)))] t.heap ∧ va_K (dC, dI) CL [(cI, .int), (cL, .long), (cD, .double)] t ∧ va_D (va_A [(a0, .inr (0, [.null, .int (0 : Int32)]))] sz) [(a0, .inr (0, [.ref b1, .int w.2])), (b1, .inl (cI, 12, .inl (w.1)))]) (va_A [(a0, .inr (0, [.null, .int (0 : Int32)]))] sz)) 1 12 (va_A [(a0, .inr (0, [.null, .int (0 : Int32)]))] sz) := by
  refine Met.ofW (cc := b_Events_init) (maxL := 1) (ret := none) (by decide) rfl ?_
  intro p e s m args below meth c s₁ B hml hv
  obtain ⟨rfl, hsz, hP, hK, hD0, hN⟩ := hv
  have hx := B.exec
  have hb := B.bytes
  have hr := B.returns
  have hts : ∀ w ∈ TB, w.before _ s = true := fun w h => atoms_spec (ws := w_Events_init) B.pre w (List.mem_cons_of_mem _ h)
  have hown : s.vm.findClass R_Events = some m.cls := findClass_of_methodNamed B.named
  have hlocks := B.notSynchronized
  have hin : meth.name = "<init>" := (name_of_methodNamed B.named B.method).1
  subst hsz
  have hD := hD0.self (sz := s.heap.size)
  generalize hAe : va_A [(a0, .inr (0, [.null, .int (0 : Int32)]))] s.heap.size = A at hD ⊢
  have hA : ∀ q : Nat, s.heap.size ≤ q → A q := fun q h => by rw [← hAe]; exact Or.inr h
  have hS : va_S A s.heap s.heap [] := va_S.rf
  have hl := lv_entry ([.ref a0]) (n := 1) (Nat.le_of_ble_eq_true rfl)
  rw [lg_entry_eq]
  generalize (lg_sl ([.ref a0]) ++ List.replicate (1 - (lg_sl ([.ref a0])).length) Slot.unset).toArray = ls at hl ⊢
  have hl : lv_has ls 1 [(0, .ref a0)] := hl
  refine nameQ (fun Q hQe => ?_)
  rw [f_Events_init] at hf
  refine lv_aload_n hx hb d_Events_init_0 rfl (lv_at hl 0 rfl) ?_
  refine W.objInit hx hb hown (hts _ t_126) (hts _ t_62) (hts _ t_63) rfl (by rw [hml]; exact hl.1) rfl d_Events_init_1 (Nat.le_of_ble_eq_true rfl) (Nat.le_of_ble_eq_true rfl) ?_
  refine W.eq (g2 := F0 m 4 ls []) rfl ?_
  refine lv_aload_n hx hb d_Events_init_4 rfl (lv_at hl 0 rfl) ?_
  refine lv_bipush (v := 12) hx hb d_Events_init_5 (by decide) ?_
  refine va_newa (atype := .int) (ty := .int) (N' := 12) (a0 := (12, .inl (fun _ => (0 : Int32)))) hx hb (hts _ t_81) rfl hK hP hD hS hA (fun _ => rfl) (by decide) (by decide) (by decide) (Nat.le_of_ble_eq_true rfl) (Nat.le_of_ble_eq_true rfl) d_Events_init_7 (fun q1 cN H hKn hP hD hS => ?_)
  have eN := (cA_I hKn).symm
  subst eN
  clear hKn
  have hP : va_P (dC, dI) CL [(a0, .inr (0, [.null, .int (0 : Int32)])), (q1, .inl (cI, 12, .inl (fun _ => (0 : Int32))))] H := hP
  have hD : va_D A [(a0, .inr (0, [.null, .int (0 : Int32)])), (q1, .inl (cI, 12, .inl (fun _ => (0 : Int32))))] := hD
  refine va_putF (D := (dC, dI)) (ci := 0) (v := .ref q1) (ty := .array .int) (C := R_Events) (T := T_Events) (N := 2) hx hb hts in_Events ty_Events ty_Events_ok nm_Events hown hK hP hD hS 0 rfl rfl 0 (by decide) (hts _ t_127) (fun _ h9 => h9) rfl hin rfl (by decide +kernel) rfl rfl (Nat.le_of_ble_eq_true rfl) d_Events_init_9 (fun H locs hP hD hS => ?_)
  have hP : va_P (dC, dI) CL [(a0, .inr (0, [.ref q1, .int (0 : Int32)])), (q1, .inl (cI, 12, .inl (fun _ => (0 : Int32))))] H := hP
  have hD : va_D A [(a0, .inr (0, [.ref q1, .int (0 : Int32)])), (q1, .inl (cI, 12, .inl (fun _ => (0 : Int32))))] := hD
  refine W.widen (k := 1) (n := 12) (Nat.le_of_ble_eq_true rfl) (Nat.le_of_ble_eq_true rfl) ?_
  have hP := hP.sub (ws' := [(a0, .inr (0, [.ref q1, .int (0 : Int32)])), (q1, .inl (cI, 12, .inl (fun _ => (0 : Int32))))]) [0, 1] rfl
  have hD := hD.sub (ws' := [(a0, .inr (0, [.ref q1, .int (0 : Int32)])), (q1, .inl (cI, 12, .inl (fun _ => (0 : Int32))))]) [0, 1] (by decide) rfl
  have hf := Option.some.inj hf
  rw [hQe]
  exact W.vret hx hb hr (fun t ht hW => ⟨⟨(fun _ => (0 : Int32), (0 : Int32)), rfl, hf, q1, by rw [ht]; exact hP, va_K.moved hW.alike hK, hD⟩, hS.F ht⟩) hS.2.2 d_Events_init_12
def f_Flash_init : Option S_Flash := cv (f_Arr_fillJ 72 (-1 : Int64) (fun _ => (0 : Int64))) (fun w1 => some (w1, fun _ => (0 : Int32), fun _ => (0 : Int64), (-1 : Int32), (-1 : Int32)))
set_option maxHeartbeats 4000000 in
set_option maxRecDepth 100000 in
theorem c_Flash_init (l : Launch) (dC : Nat → ClassId) (dI : Nat → Nat → Nat) (cI cL cD : ClassId) (a0 : Nat) (sz : Nat) (res : S_Flash) (hf : f_Flash_init = some res) : Met l y_Flash_init w_Flash_init ({ frames := 1, cells := 3, slots := 82, locals := 24 }) (va_Pc [.ref a0] (fun U => U.heap.size = sz ∧ va_P (dC, dI) CL [(a0, .inr (1, [.null, .null, .null, .int (0 : Int32), .int (0 : Int32)]))] U.heap ∧ va_K (dC, dI) CL [(cI, .int), (cL, .long), (cD, .double)] U ∧ va_D (fun _ => True) [(a0, .inr (1, [.null, .null, .null, .int (0 : Int32), .int (0 : Int32)]))] ∧ NWs U)) (va_Qv (fun (w : S_Flash) => w = res) (fun (w : S_Flash) t => ∃ (b1 b2 b3 : Nat), va_P (dC, dI) CL [(a0, .inr (1, [.ref b1, .ref b2, .ref b3, .int w.2.2.2.1, .int w.2.2.2.2])), (b1, .inl (cL, 72, .inr (.inl (w.1)))), (b2, .inl (cI, 4, .inl (w.2.1))), (b3, .inl (cL, 6, .inr (.inl (w.2.2.1))))] t.heap ∧ va_K (dC, dI) CL [(cI, .int), (cL, .long), (cD, .double)] t ∧ va_D (va_A [(a0, .inr (1, [.null, .null, .null, .int (0 : Int32), .int (0 : Int32)]))] sz) [(a0, .inr (1, [.ref b1, .ref b2, .ref b3, .int w.2.2.2.1, .int w.2.2.2.2])), (b1, .inl (cL, 72, .inr (.inl (w.1)))), (b2, .inl (cI, 4, .inl (w.2.1))), (b3, .inl (cL, 6, .inr (.inl (w.2.2.1))))]) (va_A [(a0, .inr (1, [.null, .null, .null, .int (0 : Int32), .int (0 : Int32)]))] sz)) 3 82 (va_A [(a0, .inr (1, [.null, .null, .null, .int (0 : Int32), .int (0 : Int32)]))] sz) := by
  refine Met.ofW (cc := b_Flash_init) (maxL := 1) (ret := none) (by decide) rfl ?_
  intro p e s m args below meth c s₁ B hml hv
  obtain ⟨rfl, hsz, hP, hK, hD0, hN⟩ := hv
  have hx := B.exec
  have hb := B.bytes
  have hr := B.returns
  have hts : ∀ w ∈ TB, w.before _ s = true := fun w h => atoms_spec (ws := w_Flash_init) B.pre w (List.mem_cons_of_mem _ h)
  have hown : s.vm.findClass R_Flash = some m.cls := findClass_of_methodNamed B.named
  have hlocks := B.notSynchronized
  have hin : meth.name = "<init>" := (name_of_methodNamed B.named B.method).1
  subst hsz
  have hD := hD0.self (sz := s.heap.size)
  generalize hAe : va_A [(a0, .inr (1, [.null, .null, .null, .int (0 : Int32), .int (0 : Int32)]))] s.heap.size = A at hD ⊢
  have hA : ∀ q : Nat, s.heap.size ≤ q → A q := fun q h => by rw [← hAe]; exact Or.inr h
  have hS : va_S A s.heap s.heap [] := va_S.rf
  have hl := lv_entry ([.ref a0]) (n := 1) (Nat.le_of_ble_eq_true rfl)
  rw [lg_entry_eq]
  generalize (lg_sl ([.ref a0]) ++ List.replicate (1 - (lg_sl ([.ref a0])).length) Slot.unset).toArray = ls at hl ⊢
  have hl : lv_has ls 1 [(0, .ref a0)] := hl
  refine nameQ (fun Q hQe => ?_)
  rw [f_Flash_init] at hf
  refine lv_aload_n hx hb d_Flash_init_0 rfl (lv_at hl 0 rfl) ?_
  refine W.objInit hx hb hown (hts _ t_141) (hts _ t_62) (hts _ t_63) rfl (by rw [hml]; exact hl.1) rfl d_Flash_init_1 (Nat.le_of_ble_eq_true rfl) (Nat.le_of_ble_eq_true rfl) ?_
  refine W.eq (g2 := F0 m 4 ls []) rfl ?_
  refine lv_aload_n hx hb d_Flash_init_4 rfl (lv_at hl 0 rfl) ?_
  refine lv_bipush (v := 72) hx hb d_Flash_init_5 (by decide) ?_
  refine va_newa (atype := .long) (ty := .long) (N' := 72) (a0 := (72, .inr (.inl (fun _ => (0 : Int64))))) hx hb (hts _ t_165) rfl hK hP hD hS hA (fun _ => rfl) (by decide) (by decide) (by decide) (Nat.le_of_ble_eq_true rfl) (Nat.le_of_ble_eq_true rfl) d_Flash_init_7 (fun q1 cN H hKn hP hD hS => ?_)
  have eN := (cA_J hKn).symm
  subst eN
  clear hKn
  have hP : va_P (dC, dI) CL [(a0, .inr (1, [.null, .null, .null, .int (0 : Int32), .int (0 : Int32)])), (q1, .inl (cL, 72, .inr (.inl (fun _ => (0 : Int64)))))] H := hP
  have hD : va_D A [(a0, .inr (1, [.null, .null, .null, .int (0 : Int32), .int (0 : Int32)])), (q1, .inl (cL, 72, .inr (.inl (fun _ => (0 : Int64)))))] := hD
  refine va_putF (D := (dC, dI)) (ci := 1) (v := .ref q1) (ty := .array .long) (C := R_Flash) (T := T_Flash) (N := 5) hx hb hts in_Flash ty_Flash ty_Flash_ok nm_Flash hown hK hP hD hS 0 rfl rfl 0 (by decide) (hts _ t_146) (fun _ h9 => h9) rfl hin rfl (by decide +kernel) rfl rfl (Nat.le_of_ble_eq_true rfl) d_Flash_init_9 (fun H locs hP hD hS => ?_)
  have hP : va_P (dC, dI) CL [(a0, .inr (1, [.ref q1, .null, .null, .int (0 : Int32), .int (0 : Int32)])), (q1, .inl (cL, 72, .inr (.inl (fun _ => (0 : Int64)))))] H := hP
  have hD : va_D A [(a0, .inr (1, [.ref q1, .null, .null, .int (0 : Int32), .int (0 : Int32)])), (q1, .inl (cL, 72, .inr (.inl (fun _ => (0 : Int64)))))] := hD
  refine lv_aload_n hx hb d_Flash_init_12 rfl (lv_at hl 0 rfl) ?_
  refine lv_iconst (v := 4) hx hb d_Flash_init_13 (by decide) ?_
  refine va_newa (atype := .int) (ty := .int) (N' := 4) (a0 := (4, .inl (fun _ => (0 : Int32)))) hx hb (hts _ t_81) rfl hK hP hD hS hA (fun _ => rfl) (by decide) (by decide) (by decide) (Nat.le_of_ble_eq_true rfl) (Nat.le_of_ble_eq_true rfl) d_Flash_init_14 (fun q2 cN H hKn hP hD hS => ?_)
  have eN := (cA_I hKn).symm
  subst eN
  clear hKn
  have hP : va_P (dC, dI) CL [(a0, .inr (1, [.ref q1, .null, .null, .int (0 : Int32), .int (0 : Int32)])), (q1, .inl (cL, 72, .inr (.inl (fun _ => (0 : Int64))))), (q2, .inl (cI, 4, .inl (fun _ => (0 : Int32))))] H := hP
  have hD : va_D A [(a0, .inr (1, [.ref q1, .null, .null, .int (0 : Int32), .int (0 : Int32)])), (q1, .inl (cL, 72, .inr (.inl (fun _ => (0 : Int64))))), (q2, .inl (cI, 4, .inl (fun _ => (0 : Int32))))] := hD
  refine va_putF (D := (dC, dI)) (ci := 1) (v := .ref q2) (ty := .array .int) (C := R_Flash) (T := T_Flash) (N := 5) hx hb hts in_Flash ty_Flash ty_Flash_ok nm_Flash hown hK hP hD hS 0 rfl rfl 1 (by decide) (hts _ t_147) (fun _ h9 => h9) rfl hin rfl (by decide +kernel) rfl rfl (Nat.le_of_ble_eq_true rfl) d_Flash_init_16 (fun H locs hP hD hS => ?_)
  have hP : va_P (dC, dI) CL [(a0, .inr (1, [.ref q1, .ref q2, .null, .int (0 : Int32), .int (0 : Int32)])), (q1, .inl (cL, 72, .inr (.inl (fun _ => (0 : Int64))))), (q2, .inl (cI, 4, .inl (fun _ => (0 : Int32))))] H := hP
  have hD : va_D A [(a0, .inr (1, [.ref q1, .ref q2, .null, .int (0 : Int32), .int (0 : Int32)])), (q1, .inl (cL, 72, .inr (.inl (fun _ => (0 : Int64))))), (q2, .inl (cI, 4, .inl (fun _ => (0 : Int32))))] := hD
  refine lv_aload_n hx hb d_Flash_init_19 rfl (lv_at hl 0 rfl) ?_
  refine lv_bipush (v := 6) hx hb d_Flash_init_20 (by decide) ?_
  refine va_newa (atype := .long) (ty := .long) (N' := 6) (a0 := (6, .inr (.inl (fun _ => (0 : Int64))))) hx hb (hts _ t_165) rfl hK hP hD hS hA (fun _ => rfl) (by decide) (by decide) (by decide) (Nat.le_of_ble_eq_true rfl) (Nat.le_of_ble_eq_true rfl) d_Flash_init_22 (fun q3 cN H hKn hP hD hS => ?_)
  have eN := (cA_J hKn).symm
  subst eN
  clear hKn
  have hP : va_P (dC, dI) CL [(a0, .inr (1, [.ref q1, .ref q2, .null, .int (0 : Int32), .int (0 : Int32)])), (q1, .inl (cL, 72, .inr (.inl (fun _ => (0 : Int64))))), (q2, .inl (cI, 4, .inl (fun _ => (0 : Int32)))), (q3, .inl (cL, 6, .inr (.inl (fun _ => (0 : Int64)))))] H := hP
  have hD : va_D A [(a0, .inr (1, [.ref q1, .ref q2, .null, .int (0 : Int32), .int (0 : Int32)])), (q1, .inl (cL, 72, .inr (.inl (fun _ => (0 : Int64))))), (q2, .inl (cI, 4, .inl (fun _ => (0 : Int32)))), (q3, .inl (cL, 6, .inr (.inl (fun _ => (0 : Int64)))))] := hD
  refine va_putF (D := (dC, dI)) (ci := 1) (v := .ref q3) (ty := .array .long) (C := R_Flash) (T := T_Flash) (N := 5) hx hb hts in_Flash ty_Flash ty_Flash_ok nm_Flash hown hK hP hD hS 0 rfl rfl 2 (by decide) (hts _ t_149) (fun _ h9 => h9) rfl hin rfl (by decide +kernel) rfl rfl (Nat.le_of_ble_eq_true rfl) d_Flash_init_24 (fun H locs hP hD hS => ?_)
  have hP : va_P (dC, dI) CL [(a0, .inr (1, [.ref q1, .ref q2, .ref q3, .int (0 : Int32), .int (0 : Int32)])), (q1, .inl (cL, 72, .inr (.inl (fun _ => (0 : Int64))))), (q2, .inl (cI, 4, .inl (fun _ => (0 : Int32)))), (q3, .inl (cL, 6, .inr (.inl (fun _ => (0 : Int64)))))] H := hP
  have hD : va_D A [(a0, .inr (1, [.ref q1, .ref q2, .ref q3, .int (0 : Int32), .int (0 : Int32)])), (q1, .inl (cL, 72, .inr (.inl (fun _ => (0 : Int64))))), (q2, .inl (cI, 4, .inl (fun _ => (0 : Int32)))), (q3, .inl (cL, 6, .inr (.inl (fun _ => (0 : Int64)))))] := hD
  refine lv_aload_n hx hb d_Flash_init_27 rfl (lv_at hl 0 rfl) ?_
  refine lv_iconst (v := -1) hx hb d_Flash_init_28 (by decide) ?_
  refine va_put (D := (dC, dI)) (ci := 1) (v := .int (-1 : Int32)) (ty := .int) (C := R_Flash) (T := T_Flash) (N := 5) hx hb hts in_Flash ty_Flash ty_Flash_ok nm_Flash hown hK hP hD hS 0 rfl rfl 3 (by decide) (hts _ t_151) (fun _ h9 => h9) rfl (by decide +kernel) rfl rfl (Nat.le_of_ble_eq_true rfl) d_Flash_init_29 (fun H locs hP hD hS => ?_)
  have hP : va_P (dC, dI) CL [(a0, .inr (1, [.ref q1, .ref q2, .ref q3, .int (-1 : Int32), .int (0 : Int32)])), (q1, .inl (cL, 72, .inr (.inl (fun _ => (0 : Int64))))), (q2, .inl (cI, 4, .inl (fun _ => (0 : Int32)))), (q3, .inl (cL, 6, .inr (.inl (fun _ => (0 : Int64)))))] H := hP
  have hD : va_D A [(a0, .inr (1, [.ref q1, .ref q2, .ref q3, .int (-1 : Int32), .int (0 : Int32)])), (q1, .inl (cL, 72, .inr (.inl (fun _ => (0 : Int64))))), (q2, .inl (cI, 4, .inl (fun _ => (0 : Int32)))), (q3, .inl (cL, 6, .inr (.inl (fun _ => (0 : Int64)))))] := hD
  refine lv_aload_n hx hb d_Flash_init_32 rfl (lv_at hl 0 rfl) ?_
  refine lv_iconst (v := -1) hx hb d_Flash_init_33 (by decide) ?_
  refine va_put (D := (dC, dI)) (ci := 1) (v := .int (-1 : Int32)) (ty := .int) (C := R_Flash) (T := T_Flash) (N := 5) hx hb hts in_Flash ty_Flash ty_Flash_ok nm_Flash hown hK hP hD hS 0 rfl rfl 4 (by decide) (hts _ t_153) (fun _ h9 => h9) rfl (by decide +kernel) rfl rfl (Nat.le_of_ble_eq_true rfl) d_Flash_init_34 (fun H locs hP hD hS => ?_)
  have hP : va_P (dC, dI) CL [(a0, .inr (1, [.ref q1, .ref q2, .ref q3, .int (-1 : Int32), .int (-1 : Int32)])), (q1, .inl (cL, 72, .inr (.inl (fun _ => (0 : Int64))))), (q2, .inl (cI, 4, .inl (fun _ => (0 : Int32)))), (q3, .inl (cL, 6, .inr (.inl (fun _ => (0 : Int64)))))] H := hP
  have hD : va_D A [(a0, .inr (1, [.ref q1, .ref q2, .ref q3, .int (-1 : Int32), .int (-1 : Int32)])), (q1, .inl (cL, 72, .inr (.inl (fun _ => (0 : Int64))))), (q2, .inl (cI, 4, .inl (fun _ => (0 : Int32)))), (q3, .inl (cL, 6, .inr (.inl (fun _ => (0 : Int64)))))] := hD
  refine lv_aload_n hx hb d_Flash_init_37 rfl (lv_at hl 0 rfl) ?_
  refine va_get (D := (dC, dI)) (ci := 1) (v := .ref q1) (C := R_Flash) (T := T_Flash) (N := 5) hx hb hts in_Flash hown hK hP 0 rfl rfl 0 (by decide) (hts _ t_146) (fun _ h9 => h9) rfl d_Flash_init_38 ?_
  refine lv_ldc2 (v := -1) hx hb hown (hts _ t_142) d_Flash_init_41 ?_
  obtain ⟨w1, hc, hf⟩ := cv_t hf
  have hPc := hP.sub (ws' := [(q1, .inl (cL, 72, .inr (.inl (fun _ => (0 : Int64)))))]) [1] rfl
  have hDc := hD.sub (ws' := [(q1, .inl (cL, 72, .inr (.inl (fun _ => (0 : Int64)))))]) [1] (by decide) rfl
  have hFc := va_free (wc := [(q1, .inl (cL, 72, .inr (.inl (fun _ => (0 : Int64)))))]) hD hS hA [1] rfl
  refine va_callv (va_runS (As := [.ref q1, .long (-1 : Int64)]) (rest := []) ⟨hx, hb, hml, hown, hts⟩ (c_Arr_fillJ l dC dI cI cL cD q1 72 H.size (-1 : Int64) (fun _ => (0 : Int64)) w1 hc) (va_cwS 2 hts (gS t_143 t_144 t_40 t_145) rfl rfl rfl (by decide +kernel) ⟨(Nat.le_of_ble_eq_true rfl), (Nat.le_of_ble_eq_true rfl)⟩) ⟨fun a U g mk q => by obtain ⟨q0, q1, qP, qK, qD, qN⟩ := q; exact ⟨q0, q1, qP, va_K.moved (u := U) (U := U.calling g mk a) (Vm.Alike.refl U.vm) qK, qD, NWs.same (u := U) (U := U.calling g mk a) rfl qN⟩, fun U hU hW => ⟨rfl, by rw [hU], by rw [hU]; exact hPc, va_K.moved hW.alike hK, hDc.weaken (fun _ _ _ _ => trivial), hN.warm hW⟩⟩ rfl rfl hl.1 rfl (lv_room (Nat.le_of_ble_eq_true rfl)) d_Flash_init_44 ⟨(Nat.le_of_ble_eq_true rfl), (Nat.le_of_ble_eq_true rfl)⟩) hS (fun q _ h => hFc q h) hFc (fun wZ t H1 locs ht hvm hw hB hz1 hk1 hS => ?_)
  replace hw : w1 = wZ := hw.symm
  subst hw
  obtain ⟨hP1, hK1, hD1⟩ := hB
  rw [ht] at hP1
  obtain ⟨hP, hD⟩ := va_join (wr := [(a0, .inr (1, [.ref q1, .ref q2, .ref q3, .int (-1 : Int32), .int (-1 : Int32)])), (q2, .inl (cI, 4, .inl (fun _ => (0 : Int32)))), (q3, .inl (cL, 6, .inr (.inl (fun _ => (0 : Int64)))))]) (w1 := [(q1, .inl (cL, 72, .inr (.inl (w1))))]) hP hD [1] [0, 2, 3] rfl rfl (by decide) (by decide) hk1 hFc hP1 hD1
  generalize H1 = H at hP hS ⊢
  have hP : va_P (dC, dI) CL [(a0, .inr (1, [.ref q1, .ref q2, .ref q3, .int (-1 : Int32), .int (-1 : Int32)])), (q2, .inl (cI, 4, .inl (fun _ => (0 : Int32)))), (q3, .inl (cL, 6, .inr (.inl (fun _ => (0 : Int64))))), (q1, .inl (cL, 72, .inr (.inl (w1))))] H := hP
  have hD : va_D A [(a0, .inr (1, [.ref q1, .ref q2, .ref q3, .int (-1 : Int32), .int (-1 : Int32)])), (q2, .inl (cI, 4, .inl (fun _ => (0 : Int32)))), (q3, .inl (cL, 6, .inr (.inl (fun _ => (0 : Int64))))), (q1, .inl (cL, 72, .inr (.inl (w1))))] := hD
  refine W.widen (k := 3) (n := 82) (Nat.le_of_ble_eq_true rfl) (Nat.le_of_ble_eq_true rfl) ?_
  have hP := hP.sub (ws' := [(a0, .inr (1, [.ref q1, .ref q2, .ref q3, .int (-1 : Int32), .int (-1 : Int32)])), (q1, .inl (cL, 72, .inr (.inl (w1)))), (q2, .inl (cI, 4, .inl (fun _ => (0 : Int32)))), (q3, .inl (cL, 6, .inr (.inl (fun _ => (0 : Int64)))))]) [0, 3, 1, 2] rfl
  have hD := hD.sub (ws' := [(a0, .inr (1, [.ref q1, .ref q2, .ref q3, .int (-1 : Int32), .int (-1 : Int32)])), (q1, .inl (cL, 72, .inr (.inl (w1)))), (q2, .inl (cI, 4, .inl (fun _ => (0 : Int32)))), (q3, .inl (cL, 6, .inr (.inl (fun _ => (0 : Int64)))))]) [0, 3, 1, 2] (by decide) rfl
  have hf := Option.some.inj hf
  rw [hQe]
  exact W.vret hx hb hr (fun t ht hW => ⟨⟨(w1, fun _ => (0 : Int32), fun _ => (0 : Int64), (-1 : Int32), (-1 : Int32)), rfl, hf, q1, q2, q3, by rw [ht]; exact hP, va_K.moved hW.alike hK, hD⟩, hS.F ht⟩) hS.2.2 d_Flash_init_47
def f_Line_init : Option S_Line := some (fun _ => (0 : Int32), fun _ => (0 : Int32), fun _ => (0 : Int32), (0 : Int32), (0 : Int32), (0 : Int32), (0 : Int32))
set_option maxHeartbeats 4000000 in
set_option maxRecDepth 100000 in
theorem c_Line_init (l : Launch) (dC : Nat → ClassId) (dI : Nat → Nat → Nat) (cI cL cD : ClassId) (a0 : Nat) (sz : Nat) (res : S_Line) (hf : f_Line_init = some res) : Met l y_Line_init w_Line_init ({ frames := 1, cells := 3, slots := 47, locals := 12 }) (va_Pc [.ref a0] (fun U => U.heap.size = sz ∧ va_P (dC, dI) CL [(a0, .inr (2, [.null, .null, .null, .int (0 : Int32), .int (0 : Int32), .int (0 : Int32), .int (0 : Int32)]))] U.heap ∧ va_K (dC, dI) CL [(cI, .int), (cL, .long), (cD, .double)] U ∧ va_D (fun _ => True) [(a0, .inr (2, [.null, .null, .null, .int (0 : Int32), .int (0 : Int32), .int (0 : Int32), .int (0 : Int32)]))] ∧ NWs U)) (va_Qv (fun (w : S_Line) => w = res) (fun (w : S_Line) t => ∃ (b1 b2 b3 : Nat), va_P (dC, dI) CL [(a0, .inr (2, [.ref b1, .ref b2, .ref b3, .int w.2.2.2.1, .int w.2.2.2.2.1, .int w.2.2.2.2.2.1, .int w.2.2.2.2.2.2])), (b1, .inl (cI, 12, .inl (w.1))), (b2, .inl (cI, 11, .inl (w.2.1))), (b3, .inl (cI, 24, .inl (w.2.2.1)))] t.heap ∧ va_K (dC, dI) CL [(cI, .int), (cL, .long), (cD, .double)] t ∧ va_D (va_A [(a0, .inr (2, [.null, .null, .null, .int (0 : Int32), .int (0 : Int32), .int (0 : Int32), .int (0 : Int32)]))] sz) [(a0, .inr (2, [.ref b1, .ref b2, .ref b3, .int w.2.2.2.1, .int w.2.2.2.2.1, .int w.2.2.2.2.2.1, .int w.2.2.2.2.2.2])), (b1, .inl (cI, 12, .inl (w.1))), (b2, .inl (cI, 11, .inl (w.2.1))), (b3, .inl (cI, 24, .inl (w.2.2.1)))]) (va_A [(a0, .inr (2, [.null, .null, .null, .int (0 : Int32), .int (0 : Int32), .int (0 : Int32), .int (0 : Int32)]))] sz)) 3 47 (va_A [(a0, .inr (2, [.null, .null, .null, .int (0 : Int32), .int (0 : Int32), .int (0 : Int32), .int (0 : Int32)]))] sz) := by
  refine Met.ofW (cc := b_Line_init) (maxL := 1) (ret := none) (by decide) rfl ?_
  intro p e s m args below meth c s₁ B hml hv
  obtain ⟨rfl, hsz, hP, hK, hD0, hN⟩ := hv
  have hx := B.exec
  have hb := B.bytes
  have hr := B.returns
  have hts : ∀ w ∈ TB, w.before _ s = true := fun w h => atoms_spec (ws := w_Line_init) B.pre w (List.mem_cons_of_mem _ h)
  have hown : s.vm.findClass R_Line = some m.cls := findClass_of_methodNamed B.named
  have hlocks := B.notSynchronized
  have hin : meth.name = "<init>" := (name_of_methodNamed B.named B.method).1
  subst hsz
  have hD := hD0.self (sz := s.heap.size)
  generalize hAe : va_A [(a0, .inr (2, [.null, .null, .null, .int (0 : Int32), .int (0 : Int32), .int (0 : Int32), .int (0 : Int32)]))] s.heap.size = A at hD ⊢
  have hA : ∀ q : Nat, s.heap.size ≤ q → A q := fun q h => by rw [← hAe]; exact Or.inr h
  have hS : va_S A s.heap s.heap [] := va_S.rf
  have hl := lv_entry ([.ref a0]) (n := 1) (Nat.le_of_ble_eq_true rfl)
  rw [lg_entry_eq]
  generalize (lg_sl ([.ref a0]) ++ List.replicate (1 - (lg_sl ([.ref a0])).length) Slot.unset).toArray = ls at hl ⊢
  have hl : lv_has ls 1 [(0, .ref a0)] := hl
  refine nameQ (fun Q hQe => ?_)
  rw [f_Line_init] at hf
  refine lv_aload_n hx hb d_Line_init_0 rfl (lv_at hl 0 rfl) ?_
  refine W.objInit hx hb hown (hts _ t_171) (hts _ t_62) (hts _ t_63) rfl (by rw [hml]; exact hl.1) rfl d_Line_init_1 (Nat.le_of_ble_eq_true rfl) (Nat.le_of_ble_eq_true rfl) ?_
  refine W.eq (g2 := F0 m 4 ls []) rfl ?_
  refine lv_aload_n hx hb d_Line_init_4 rfl (lv_at hl 0 rfl) ?_
  refine lv_bipush (v := 12) hx hb d_Line_init_5 (by decide) ?_
  refine va_newa (atype := .int) (ty := .int) (N' := 12) (a0 := (12, .inl (fun _ => (0 : Int32)))) hx hb (hts _ t_81) rfl hK hP hD hS hA (fun _ => rfl) (by decide) (by decide) (by decide) (Nat.le_of_ble_eq_true rfl) (Nat.le_of_ble_eq_true rfl) d_Line_init_7 (fun q1 cN H hKn hP hD hS => ?_)
  have eN := (cA_I hKn).symm
  subst eN
  clear hKn
  have hP : va_P (dC, dI) CL [(a0, .inr (2, [.null, .null, .null, .int (0 : Int32), .int (0 : Int32), .int (0 : Int32), .int (0 : Int32)])), (q1, .inl (cI, 12, .inl (fun _ => (0 : Int32))))] H := hP
  have hD : va_D A [(a0, .inr (2, [.null, .null, .null, .int (0 : Int32), .int (0 : Int32), .int (0 : Int32), .int (0 : Int32)])), (q1, .inl (cI, 12, .inl (fun _ => (0 : Int32))))] := hD
  refine va_putF (D := (dC, dI)) (ci := 2) (v := .ref q1) (ty := .array .int) (C := R_Line) (T := T_Line) (N := 7) hx hb hts in_Line ty_Line ty_Line_ok nm_Line hown hK hP hD hS 0 rfl rfl 0 (by decide) (hts _ t_172) (fun _ h9 => h9) rfl hin rfl (by decide +kernel) rfl rfl (Nat.le_of_ble_eq_true rfl) d_Line_init_9 (fun H locs hP hD hS => ?_)
  have hP : va_P (dC, dI) CL [(a0, .inr (2, [.ref q1, .null, .null, .int (0 : Int32), .int (0 : Int32), .int (0 : Int32), .int (0 : Int32)])), (q1, .inl (cI, 12, .inl (fun _ => (0 : Int32))))] H := hP
  have hD : va_D A [(a0, .inr (2, [.ref q1, .null, .null, .int (0 : Int32), .int (0 : Int32), .int (0 : Int32), .int (0 : Int32)])), (q1, .inl (cI, 12, .inl (fun _ => (0 : Int32))))] := hD
  refine lv_aload_n hx hb d_Line_init_12 rfl (lv_at hl 0 rfl) ?_
  refine lv_bipush (v := 11) hx hb d_Line_init_13 (by decide) ?_
  refine va_newa (atype := .int) (ty := .int) (N' := 11) (a0 := (11, .inl (fun _ => (0 : Int32)))) hx hb (hts _ t_81) rfl hK hP hD hS hA (fun _ => rfl) (by decide) (by decide) (by decide) (Nat.le_of_ble_eq_true rfl) (Nat.le_of_ble_eq_true rfl) d_Line_init_15 (fun q2 cN H hKn hP hD hS => ?_)
  have eN := (cA_I hKn).symm
  subst eN
  clear hKn
  have hP : va_P (dC, dI) CL [(a0, .inr (2, [.ref q1, .null, .null, .int (0 : Int32), .int (0 : Int32), .int (0 : Int32), .int (0 : Int32)])), (q1, .inl (cI, 12, .inl (fun _ => (0 : Int32)))), (q2, .inl (cI, 11, .inl (fun _ => (0 : Int32))))] H := hP
  have hD : va_D A [(a0, .inr (2, [.ref q1, .null, .null, .int (0 : Int32), .int (0 : Int32), .int (0 : Int32), .int (0 : Int32)])), (q1, .inl (cI, 12, .inl (fun _ => (0 : Int32)))), (q2, .inl (cI, 11, .inl (fun _ => (0 : Int32))))] := hD
  refine va_putF (D := (dC, dI)) (ci := 2) (v := .ref q2) (ty := .array .int) (C := R_Line) (T := T_Line) (N := 7) hx hb hts in_Line ty_Line ty_Line_ok nm_Line hown hK hP hD hS 0 rfl rfl 1 (by decide) (hts _ t_173) (fun _ h9 => h9) rfl hin rfl (by decide +kernel) rfl rfl (Nat.le_of_ble_eq_true rfl) d_Line_init_17 (fun H locs hP hD hS => ?_)
  have hP : va_P (dC, dI) CL [(a0, .inr (2, [.ref q1, .ref q2, .null, .int (0 : Int32), .int (0 : Int32), .int (0 : Int32), .int (0 : Int32)])), (q1, .inl (cI, 12, .inl (fun _ => (0 : Int32)))), (q2, .inl (cI, 11, .inl (fun _ => (0 : Int32))))] H := hP
  have hD : va_D A [(a0, .inr (2, [.ref q1, .ref q2, .null, .int (0 : Int32), .int (0 : Int32), .int (0 : Int32), .int (0 : Int32)])), (q1, .inl (cI, 12, .inl (fun _ => (0 : Int32)))), (q2, .inl (cI, 11, .inl (fun _ => (0 : Int32))))] := hD
  refine lv_aload_n hx hb d_Line_init_20 rfl (lv_at hl 0 rfl) ?_
  refine lv_bipush (v := 24) hx hb d_Line_init_21 (by decide) ?_
  refine va_newa (atype := .int) (ty := .int) (N' := 24) (a0 := (24, .inl (fun _ => (0 : Int32)))) hx hb (hts _ t_81) rfl hK hP hD hS hA (fun _ => rfl) (by decide) (by decide) (by decide) (Nat.le_of_ble_eq_true rfl) (Nat.le_of_ble_eq_true rfl) d_Line_init_23 (fun q3 cN H hKn hP hD hS => ?_)
  have eN := (cA_I hKn).symm
  subst eN
  clear hKn
  have hP : va_P (dC, dI) CL [(a0, .inr (2, [.ref q1, .ref q2, .null, .int (0 : Int32), .int (0 : Int32), .int (0 : Int32), .int (0 : Int32)])), (q1, .inl (cI, 12, .inl (fun _ => (0 : Int32)))), (q2, .inl (cI, 11, .inl (fun _ => (0 : Int32)))), (q3, .inl (cI, 24, .inl (fun _ => (0 : Int32))))] H := hP
  have hD : va_D A [(a0, .inr (2, [.ref q1, .ref q2, .null, .int (0 : Int32), .int (0 : Int32), .int (0 : Int32), .int (0 : Int32)])), (q1, .inl (cI, 12, .inl (fun _ => (0 : Int32)))), (q2, .inl (cI, 11, .inl (fun _ => (0 : Int32)))), (q3, .inl (cI, 24, .inl (fun _ => (0 : Int32))))] := hD
  refine va_putF (D := (dC, dI)) (ci := 2) (v := .ref q3) (ty := .array .int) (C := R_Line) (T := T_Line) (N := 7) hx hb hts in_Line ty_Line ty_Line_ok nm_Line hown hK hP hD hS 0 rfl rfl 2 (by decide) (hts _ t_174) (fun _ h9 => h9) rfl hin rfl (by decide +kernel) rfl rfl (Nat.le_of_ble_eq_true rfl) d_Line_init_25 (fun H locs hP hD hS => ?_)
  have hP : va_P (dC, dI) CL [(a0, .inr (2, [.ref q1, .ref q2, .ref q3, .int (0 : Int32), .int (0 : Int32), .int (0 : Int32), .int (0 : Int32)])), (q1, .inl (cI, 12, .inl (fun _ => (0 : Int32)))), (q2, .inl (cI, 11, .inl (fun _ => (0 : Int32)))), (q3, .inl (cI, 24, .inl (fun _ => (0 : Int32))))] H := hP
  have hD : va_D A [(a0, .inr (2, [.ref q1, .ref q2, .ref q3, .int (0 : Int32), .int (0 : Int32), .int (0 : Int32), .int (0 : Int32)])), (q1, .inl (cI, 12, .inl (fun _ => (0 : Int32)))), (q2, .inl (cI, 11, .inl (fun _ => (0 : Int32)))), (q3, .inl (cI, 24, .inl (fun _ => (0 : Int32))))] := hD
  refine W.widen (k := 3) (n := 47) (Nat.le_of_ble_eq_true rfl) (Nat.le_of_ble_eq_true rfl) ?_
  have hP := hP.sub (ws' := [(a0, .inr (2, [.ref q1, .ref q2, .ref q3, .int (0 : Int32), .int (0 : Int32), .int (0 : Int32), .int (0 : Int32)])), (q1, .inl (cI, 12, .inl (fun _ => (0 : Int32)))), (q2, .inl (cI, 11, .inl (fun _ => (0 : Int32)))), (q3, .inl (cI, 24, .inl (fun _ => (0 : Int32))))]) [0, 1, 2, 3] rfl
  have hD := hD.sub (ws' := [(a0, .inr (2, [.ref q1, .ref q2, .ref q3, .int (0 : Int32), .int (0 : Int32), .int (0 : Int32), .int (0 : Int32)])), (q1, .inl (cI, 12, .inl (fun _ => (0 : Int32)))), (q2, .inl (cI, 11, .inl (fun _ => (0 : Int32)))), (q3, .inl (cI, 24, .inl (fun _ => (0 : Int32))))]) [0, 1, 2, 3] (by decide) rfl
  have hf := Option.some.inj hf
  rw [hQe]
  exact W.vret hx hb hr (fun t ht hW => ⟨⟨(fun _ => (0 : Int32), fun _ => (0 : Int32), fun _ => (0 : Int32), (0 : Int32), (0 : Int32), (0 : Int32), (0 : Int32)), rfl, hf, q1, q2, q3, by rw [ht]; exact hP, va_K.moved hW.alike hK, hD⟩, hS.F ht⟩) hS.2.2 d_Line_init_28
def f_Plans_init : Option S_Plans := cv (f_Arr_fillI 8 (-1 : Int32) (fun _ => (0 : Int32))) (fun w1 => some (fun _ => (0 : Int32), w1))
set_option maxHeartbeats 4000000 in
set_option maxRecDepth 100000 in
theorem c_Plans_init (l : Launch) (dC : Nat → ClassId) (dI : Nat → Nat → Nat) (cI cL cD : ClassId) (a0 : Nat) (sz : Nat) (res : S_Plans) (hf : f_Plans_init = some res) : Met l y_Plans_init w_Plans_init ({ frames := 1, cells := 2, slots := 16, locals := 23 }) (va_Pc [.ref a0] (fun U => U.heap.size = sz ∧ va_P (dC, dI) CL [(a0, .inr (3, [.null, .null]))] U.heap ∧ va_K (dC, dI) CL [(cI, .int), (cL, .long), (cD, .double)] U ∧ va_D (fun _ => True) [(a0, .inr (3, [.null, .null]))] ∧ NWs U)) (va_Qv (fun (w : S_Plans) => w = res) (fun (w : S_Plans) t => ∃ (b1 b2 : Nat), va_P (dC, dI) CL [(a0, .inr (3, [.ref b1, .ref b2])), (b1, .inl (cI, 8, .inl (w.1))), (b2, .inl (cI, 8, .inl (w.2)))] t.heap ∧ va_K (dC, dI) CL [(cI, .int), (cL, .long), (cD, .double)] t ∧ va_D (va_A [(a0, .inr (3, [.null, .null]))] sz) [(a0, .inr (3, [.ref b1, .ref b2])), (b1, .inl (cI, 8, .inl (w.1))), (b2, .inl (cI, 8, .inl (w.2)))]) (va_A [(a0, .inr (3, [.null, .null]))] sz)) 2 16 (va_A [(a0, .inr (3, [.null, .null]))] sz) := by
  refine Met.ofW (cc := b_Plans_init) (maxL := 1) (ret := none) (by decide) rfl ?_
  intro p e s m args below meth c s₁ B hml hv
  obtain ⟨rfl, hsz, hP, hK, hD0, hN⟩ := hv
  have hx := B.exec
  have hb := B.bytes
  have hr := B.returns
  have hts : ∀ w ∈ TB, w.before _ s = true := fun w h => atoms_spec (ws := w_Plans_init) B.pre w (List.mem_cons_of_mem _ h)
  have hown : s.vm.findClass R_Plans = some m.cls := findClass_of_methodNamed B.named
  have hlocks := B.notSynchronized
  have hin : meth.name = "<init>" := (name_of_methodNamed B.named B.method).1
  subst hsz
  have hD := hD0.self (sz := s.heap.size)
  generalize hAe : va_A [(a0, .inr (3, [.null, .null]))] s.heap.size = A at hD ⊢
  have hA : ∀ q : Nat, s.heap.size ≤ q → A q := fun q h => by rw [← hAe]; exact Or.inr h
  have hS : va_S A s.heap s.heap [] := va_S.rf
  have hl := lv_entry ([.ref a0]) (n := 1) (Nat.le_of_ble_eq_true rfl)
  rw [lg_entry_eq]
  generalize (lg_sl ([.ref a0]) ++ List.replicate (1 - (lg_sl ([.ref a0])).length) Slot.unset).toArray = ls at hl ⊢
  have hl : lv_has ls 1 [(0, .ref a0)] := hl
  refine nameQ (fun Q hQe => ?_)
  rw [f_Plans_init] at hf
  refine lv_aload_n hx hb d_Plans_init_0 rfl (lv_at hl 0 rfl) ?_
  refine W.objInit hx hb hown (hts _ t_69) (hts _ t_62) (hts _ t_63) rfl (by rw [hml]; exact hl.1) rfl d_Plans_init_1 (Nat.le_of_ble_eq_true rfl) (Nat.le_of_ble_eq_true rfl) ?_
  refine W.eq (g2 := F0 m 4 ls []) rfl ?_
  refine lv_aload_n hx hb d_Plans_init_4 rfl (lv_at hl 0 rfl) ?_
  refine lv_bipush (v := 8) hx hb d_Plans_init_5 (by decide) ?_
  refine va_newa (atype := .int) (ty := .int) (N' := 8) (a0 := (8, .inl (fun _ => (0 : Int32)))) hx hb (hts _ t_81) rfl hK hP hD hS hA (fun _ => rfl) (by decide) (by decide) (by decide) (Nat.le_of_ble_eq_true rfl) (Nat.le_of_ble_eq_true rfl) d_Plans_init_7 (fun q1 cN H hKn hP hD hS => ?_)
  have eN := (cA_I hKn).symm
  subst eN
  clear hKn
  have hP : va_P (dC, dI) CL [(a0, .inr (3, [.null, .null])), (q1, .inl (cI, 8, .inl (fun _ => (0 : Int32))))] H := hP
  have hD : va_D A [(a0, .inr (3, [.null, .null])), (q1, .inl (cI, 8, .inl (fun _ => (0 : Int32))))] := hD
  refine va_putF (D := (dC, dI)) (ci := 3) (v := .ref q1) (ty := .array .int) (C := R_Plans) (T := T_Plans) (N := 2) hx hb hts in_Plans ty_Plans ty_Plans_ok nm_Plans hown hK hP hD hS 0 rfl rfl 0 (by decide) (hts _ t_73) (fun _ h9 => h9) rfl hin rfl (by decide +kernel) rfl rfl (Nat.le_of_ble_eq_true rfl) d_Plans_init_9 (fun H locs hP hD hS => ?_)
  have hP : va_P (dC, dI) CL [(a0, .inr (3, [.ref q1, .null])), (q1, .inl (cI, 8, .inl (fun _ => (0 : Int32))))] H := hP
  have hD : va_D A [(a0, .inr (3, [.ref q1, .null])), (q1, .inl (cI, 8, .inl (fun _ => (0 : Int32))))] := hD
  refine lv_aload_n hx hb d_Plans_init_12 rfl (lv_at hl 0 rfl) ?_
  refine lv_bipush (v := 8) hx hb d_Plans_init_13 (by decide) ?_
  refine va_newa (atype := .int) (ty := .int) (N' := 8) (a0 := (8, .inl (fun _ => (0 : Int32)))) hx hb (hts _ t_81) rfl hK hP hD hS hA (fun _ => rfl) (by decide) (by decide) (by decide) (Nat.le_of_ble_eq_true rfl) (Nat.le_of_ble_eq_true rfl) d_Plans_init_15 (fun q2 cN H hKn hP hD hS => ?_)
  have eN := (cA_I hKn).symm
  subst eN
  clear hKn
  have hP : va_P (dC, dI) CL [(a0, .inr (3, [.ref q1, .null])), (q1, .inl (cI, 8, .inl (fun _ => (0 : Int32)))), (q2, .inl (cI, 8, .inl (fun _ => (0 : Int32))))] H := hP
  have hD : va_D A [(a0, .inr (3, [.ref q1, .null])), (q1, .inl (cI, 8, .inl (fun _ => (0 : Int32)))), (q2, .inl (cI, 8, .inl (fun _ => (0 : Int32))))] := hD
  refine va_putF (D := (dC, dI)) (ci := 3) (v := .ref q2) (ty := .array .int) (C := R_Plans) (T := T_Plans) (N := 2) hx hb hts in_Plans ty_Plans ty_Plans_ok nm_Plans hown hK hP hD hS 0 rfl rfl 1 (by decide) (hts _ t_74) (fun _ h9 => h9) rfl hin rfl (by decide +kernel) rfl rfl (Nat.le_of_ble_eq_true rfl) d_Plans_init_17 (fun H locs hP hD hS => ?_)
  have hP : va_P (dC, dI) CL [(a0, .inr (3, [.ref q1, .ref q2])), (q1, .inl (cI, 8, .inl (fun _ => (0 : Int32)))), (q2, .inl (cI, 8, .inl (fun _ => (0 : Int32))))] H := hP
  have hD : va_D A [(a0, .inr (3, [.ref q1, .ref q2])), (q1, .inl (cI, 8, .inl (fun _ => (0 : Int32)))), (q2, .inl (cI, 8, .inl (fun _ => (0 : Int32))))] := hD
  refine lv_aload_n hx hb d_Plans_init_20 rfl (lv_at hl 0 rfl) ?_
  refine va_get (D := (dC, dI)) (ci := 3) (v := .ref q2) (C := R_Plans) (T := T_Plans) (N := 2) hx hb hts in_Plans hown hK hP 0 rfl rfl 1 (by decide) (hts _ t_74) (fun _ h9 => h9) rfl d_Plans_init_21 ?_
  refine lv_iconst (v := -1) hx hb d_Plans_init_24 (by decide) ?_
  obtain ⟨w1, hc, hf⟩ := cv_t hf
  have hPc := hP.sub (ws' := [(q2, .inl (cI, 8, .inl (fun _ => (0 : Int32))))]) [2] rfl
  have hDc := hD.sub (ws' := [(q2, .inl (cI, 8, .inl (fun _ => (0 : Int32))))]) [2] (by decide) rfl
  have hFc := va_free (wc := [(q2, .inl (cI, 8, .inl (fun _ => (0 : Int32))))]) hD hS hA [2] rfl
  refine va_callv (va_runS (As := [.ref q2, .int (-1 : Int32)]) (rest := []) ⟨hx, hb, hml, hown, hts⟩ (c_Arr_fillI l dC dI cI cL cD q2 8 H.size (-1 : Int32) (fun _ => (0 : Int32)) w1 hc) (va_cwS 2 hts (gS t_70 t_71 t_40 t_72) rfl rfl rfl (by decide +kernel) ⟨(Nat.le_of_ble_eq_true rfl), (Nat.le_of_ble_eq_true rfl)⟩) ⟨fun a U g mk q => by obtain ⟨q0, q1, qP, qK, qD, qN⟩ := q; exact ⟨q0, q1, qP, va_K.moved (u := U) (U := U.calling g mk a) (Vm.Alike.refl U.vm) qK, qD, NWs.same (u := U) (U := U.calling g mk a) rfl qN⟩, fun U hU hW => ⟨rfl, by rw [hU], by rw [hU]; exact hPc, va_K.moved hW.alike hK, hDc.weaken (fun _ _ _ _ => trivial), hN.warm hW⟩⟩ rfl rfl hl.1 rfl (lv_room (Nat.le_of_ble_eq_true rfl)) d_Plans_init_25 ⟨(Nat.le_of_ble_eq_true rfl), (Nat.le_of_ble_eq_true rfl)⟩) hS (fun q _ h => hFc q h) hFc (fun wZ t H1 locs ht hvm hw hB hz1 hk1 hS => ?_)
  replace hw : w1 = wZ := hw.symm
  subst hw
  obtain ⟨hP1, hK1, hD1⟩ := hB
  rw [ht] at hP1
  obtain ⟨hP, hD⟩ := va_join (wr := [(a0, .inr (3, [.ref q1, .ref q2])), (q1, .inl (cI, 8, .inl (fun _ => (0 : Int32))))]) (w1 := [(q2, .inl (cI, 8, .inl (w1)))]) hP hD [2] [0, 1] rfl rfl (by decide) (by decide) hk1 hFc hP1 hD1
  generalize H1 = H at hP hS ⊢
  have hP : va_P (dC, dI) CL [(a0, .inr (3, [.ref q1, .ref q2])), (q1, .inl (cI, 8, .inl (fun _ => (0 : Int32)))), (q2, .inl (cI, 8, .inl (w1)))] H := hP
  have hD : va_D A [(a0, .inr (3, [.ref q1, .ref q2])), (q1, .inl (cI, 8, .inl (fun _ => (0 : Int32)))), (q2, .inl (cI, 8, .inl (w1)))] := hD
  refine W.widen (k := 2) (n := 16) (Nat.le_of_ble_eq_true rfl) (Nat.le_of_ble_eq_true rfl) ?_
  have hP := hP.sub (ws' := [(a0, .inr (3, [.ref q1, .ref q2])), (q1, .inl (cI, 8, .inl (fun _ => (0 : Int32)))), (q2, .inl (cI, 8, .inl (w1)))]) [0, 1, 2] rfl
  have hD := hD.sub (ws' := [(a0, .inr (3, [.ref q1, .ref q2])), (q1, .inl (cI, 8, .inl (fun _ => (0 : Int32)))), (q2, .inl (cI, 8, .inl (w1)))]) [0, 1, 2] (by decide) rfl
  have hf := Option.some.inj hf
  rw [hQe]
  exact W.vret hx hb hr (fun t ht hW => ⟨⟨(fun _ => (0 : Int32), w1), rfl, hf, q1, q2, by rw [ht]; exact hP, va_K.moved hW.alike hK, hD⟩, hS.F ht⟩) hS.2.2 d_Plans_init_28
def f_State_init : Option S_State := cv (f_State_begin (fun _ => (0 : UInt64), (0 : Int32), (0 : UInt64), (0 : UInt64), (0 : Int32), (0 : Int32), (0 : Int32))) (fun w1 => some w1)
set_option maxHeartbeats 4000000 in
set_option maxRecDepth 100000 in
theorem c_State_init (l : Launch) (dC : Nat → ClassId) (dI : Nat → Nat → Nat) (cI cL cD : ClassId) (a0 : Nat) (sz : Nat) (res : S_State) (hf : f_State_init = some res) : Met l y_State_init w_State_init ({ frames := 1, cells := 1, slots := 3, locals := 21 }) (va_Pc [.ref a0] (fun U => U.heap.size = sz ∧ va_P (dC, dI) CL [(a0, .inr (4, [.null, .int (0 : Int32), .double (0 : UInt64), .double (0 : UInt64), .int (0 : Int32), .int (0 : Int32), .int (0 : Int32)]))] U.heap ∧ va_K (dC, dI) CL [(cI, .int), (cL, .long), (cD, .double)] U ∧ va_D (fun _ => True) [(a0, .inr (4, [.null, .int (0 : Int32), .double (0 : UInt64), .double (0 : UInt64), .int (0 : Int32), .int (0 : Int32), .int (0 : Int32)]))] ∧ NWs U)) (va_Qv (fun (w : S_State) => w = res) (fun (w : S_State) t => ∃ (b1 : Nat), va_P (dC, dI) CL [(a0, .inr (4, [.ref b1, .int w.2.1, .double w.2.2.1, .double w.2.2.2.1, .int w.2.2.2.2.1, .int w.2.2.2.2.2.1, .int w.2.2.2.2.2.2])), (b1, .inl (cD, 3, .inr (.inr (.inr (.inl (w.1))))))] t.heap ∧ va_K (dC, dI) CL [(cI, .int), (cL, .long), (cD, .double)] t ∧ va_D (va_A [(a0, .inr (4, [.null, .int (0 : Int32), .double (0 : UInt64), .double (0 : UInt64), .int (0 : Int32), .int (0 : Int32), .int (0 : Int32)]))] sz) [(a0, .inr (4, [.ref b1, .int w.2.1, .double w.2.2.1, .double w.2.2.2.1, .int w.2.2.2.2.1, .int w.2.2.2.2.2.1, .int w.2.2.2.2.2.2])), (b1, .inl (cD, 3, .inr (.inr (.inr (.inl (w.1))))))]) (va_A [(a0, .inr (4, [.null, .int (0 : Int32), .double (0 : UInt64), .double (0 : UInt64), .int (0 : Int32), .int (0 : Int32), .int (0 : Int32)]))] sz)) 1 3 (va_A [(a0, .inr (4, [.null, .int (0 : Int32), .double (0 : UInt64), .double (0 : UInt64), .int (0 : Int32), .int (0 : Int32), .int (0 : Int32)]))] sz) := by
  refine Met.ofW (cc := b_State_init) (maxL := 1) (ret := none) (by decide) rfl ?_
  intro p e s m args below meth c s₁ B hml hv
  obtain ⟨rfl, hsz, hP, hK, hD0, hN⟩ := hv
  have hx := B.exec
  have hb := B.bytes
  have hr := B.returns
  have hts : ∀ w ∈ TB, w.before _ s = true := fun w h => atoms_spec (ws := w_State_init) B.pre w (List.mem_cons_of_mem _ h)
  have hown : s.vm.findClass R_State = some m.cls := findClass_of_methodNamed B.named
  have hlocks := B.notSynchronized
  have hin : meth.name = "<init>" := (name_of_methodNamed B.named B.method).1
  subst hsz
  have hD := hD0.self (sz := s.heap.size)
  generalize hAe : va_A [(a0, .inr (4, [.null, .int (0 : Int32), .double (0 : UInt64), .double (0 : UInt64), .int (0 : Int32), .int (0 : Int32), .int (0 : Int32)]))] s.heap.size = A at hD ⊢
  have hA : ∀ q : Nat, s.heap.size ≤ q → A q := fun q h => by rw [← hAe]; exact Or.inr h
  have hS : va_S A s.heap s.heap [] := va_S.rf
  have hl := lv_entry ([.ref a0]) (n := 1) (Nat.le_of_ble_eq_true rfl)
  rw [lg_entry_eq]
  generalize (lg_sl ([.ref a0]) ++ List.replicate (1 - (lg_sl ([.ref a0])).length) Slot.unset).toArray = ls at hl ⊢
  have hl : lv_has ls 1 [(0, .ref a0)] := hl
  refine nameQ (fun Q hQe => ?_)
  rw [f_State_init] at hf
  refine lv_aload_n hx hb d_State_init_0 rfl (lv_at hl 0 rfl) ?_
  refine W.objInit hx hb hown (hts _ t_87) (hts _ t_62) (hts _ t_63) rfl (by rw [hml]; exact hl.1) rfl d_State_init_1 (Nat.le_of_ble_eq_true rfl) (Nat.le_of_ble_eq_true rfl) ?_
  refine W.eq (g2 := F0 m 4 ls []) rfl ?_
  refine lv_aload_n hx hb d_State_init_4 rfl (lv_at hl 0 rfl) ?_
  refine lv_iconst (v := 3) hx hb d_State_init_5 (by decide) ?_
  refine va_newa (atype := .double) (ty := .double) (N' := 3) (a0 := (3, .inr (.inr (.inr (.inl (fun _ => (0 : UInt64))))))) hx hb (hts _ t_80) rfl hK hP hD hS hA (fun _ => rfl) (by decide) (by decide) (by decide) (Nat.le_of_ble_eq_true rfl) (Nat.le_of_ble_eq_true rfl) d_State_init_6 (fun q1 cN H hKn hP hD hS => ?_)
  have eN := (cA_D hKn).symm
  subst eN
  clear hKn
  have hP : va_P (dC, dI) CL [(a0, .inr (4, [.null, .int (0 : Int32), .double (0 : UInt64), .double (0 : UInt64), .int (0 : Int32), .int (0 : Int32), .int (0 : Int32)])), (q1, .inl (cD, 3, .inr (.inr (.inr (.inl (fun _ => (0 : UInt64)))))))] H := hP
  have hD : va_D A [(a0, .inr (4, [.null, .int (0 : Int32), .double (0 : UInt64), .double (0 : UInt64), .int (0 : Int32), .int (0 : Int32), .int (0 : Int32)])), (q1, .inl (cD, 3, .inr (.inr (.inr (.inl (fun _ => (0 : UInt64)))))))] := hD
  refine va_putF (D := (dC, dI)) (ci := 4) (v := .ref q1) (ty := .array .double) (C := R_State) (T := T_State) (N := 7) hx hb hts in_State ty_State ty_State_ok nm_State hown hK hP hD hS 0 rfl rfl 0 (by decide) (hts _ t_93) (fun _ h9 => h9) rfl hin rfl (by decide +kernel) rfl rfl (Nat.le_of_ble_eq_true rfl) d_State_init_8 (fun H locs hP hD hS => ?_)
  have hP : va_P (dC, dI) CL [(a0, .inr (4, [.ref q1, .int (0 : Int32), .double (0 : UInt64), .double (0 : UInt64), .int (0 : Int32), .int (0 : Int32), .int (0 : Int32)])), (q1, .inl (cD, 3, .inr (.inr (.inr (.inl (fun _ => (0 : UInt64)))))))] H := hP
  have hD : va_D A [(a0, .inr (4, [.ref q1, .int (0 : Int32), .double (0 : UInt64), .double (0 : UInt64), .int (0 : Int32), .int (0 : Int32), .int (0 : Int32)])), (q1, .inl (cD, 3, .inr (.inr (.inr (.inl (fun _ => (0 : UInt64)))))))] := hD
  refine lv_aload_n hx hb d_State_init_11 rfl (lv_at hl 0 rfl) ?_
  obtain ⟨w1, hc, hf⟩ := cv_t hf
  have hPc := hP.sub (ws' := [(a0, .inr (4, [.ref q1, .int (0 : Int32), .double (0 : UInt64), .double (0 : UInt64), .int (0 : Int32), .int (0 : Int32), .int (0 : Int32)])), (q1, .inl (cD, 3, .inr (.inr (.inr (.inl (fun _ => (0 : UInt64)))))))]) [0, 1] rfl
  have hDc := hD.sub (ws' := [(a0, .inr (4, [.ref q1, .int (0 : Int32), .double (0 : UInt64), .double (0 : UInt64), .int (0 : Int32), .int (0 : Int32), .int (0 : Int32)])), (q1, .inl (cD, 3, .inr (.inr (.inr (.inl (fun _ => (0 : UInt64)))))))]) [0, 1] (by decide) rfl
  have hFc := va_free (wc := [(a0, .inr (4, [.ref q1, .int (0 : Int32), .double (0 : UInt64), .double (0 : UInt64), .int (0 : Int32), .int (0 : Int32), .int (0 : Int32)])), (q1, .inl (cD, 3, .inr (.inr (.inr (.inl (fun _ => (0 : UInt64)))))))]) hD hS hA [0, 1] rfl
  refine va_callv (va_runV (As := []) (rest := []) ⟨hx, hb, hml, hown, hts⟩ (c_State_begin l dC dI cI cL cD a0 q1 H.size (fun _ => (0 : UInt64), (0 : Int32), (0 : UInt64), (0 : UInt64), (0 : Int32), (0 : Int32), (0 : Int32)) w1 hc) (cwV 0 hts (gV t_88 t_89 t_90 t_41 t_91) rfl rfl rfl (by decide +kernel) ⟨(Nat.le_of_ble_eq_true rfl), (Nat.le_of_ble_eq_true rfl)⟩) ⟨fun a U g mk q => by obtain ⟨q0, q1, qP, qK, qD, qN⟩ := q; exact ⟨q0, q1, qP, va_K.moved (u := U) (U := U.calling g mk a) (Vm.Alike.refl U.vm) qK, qD, NWs.same (u := U) (U := U.calling g mk a) rfl qN⟩, va_recv hK hPc (ci := 4) (q0 := 0) rfl rfl, fun U hU hW => ⟨rfl, by rw [hU], by rw [hU]; exact hPc, va_K.moved hW.alike hK, hDc.weaken (fun _ _ _ _ => trivial), hN.warm hW⟩⟩ rfl rfl hl.1 rfl (lv_room (Nat.le_of_ble_eq_true rfl)) d_State_init_12 ⟨(Nat.le_of_ble_eq_true rfl), (Nat.le_of_ble_eq_true rfl)⟩) hS (fun q _ h => hFc q h) hFc (fun wZ t H1 locs ht hvm hw hB hz1 hk1 hS => ?_)
  replace hw : w1 = wZ := hw.symm
  subst hw
  obtain ⟨hP1, hK1, hD1⟩ := hB
  rw [ht] at hP1
  obtain ⟨hP, hD⟩ := va_join (wr := []) (w1 := [(a0, .inr (4, [.ref q1, .int w1.2.1, .double w1.2.2.1, .double w1.2.2.2.1, .int w1.2.2.2.2.1, .int w1.2.2.2.2.2.1, .int w1.2.2.2.2.2.2])), (q1, .inl (cD, 3, .inr (.inr (.inr (.inl (w1.1))))))]) hP hD [0, 1] [] rfl rfl (by decide) (by decide) hk1 hFc hP1 hD1
  generalize H1 = H at hP hS ⊢
  have hP : va_P (dC, dI) CL [(a0, .inr (4, [.ref q1, .int w1.2.1, .double w1.2.2.1, .double w1.2.2.2.1, .int w1.2.2.2.2.1, .int w1.2.2.2.2.2.1, .int w1.2.2.2.2.2.2])), (q1, .inl (cD, 3, .inr (.inr (.inr (.inl (w1.1))))))] H := hP
  have hD : va_D A [(a0, .inr (4, [.ref q1, .int w1.2.1, .double w1.2.2.1, .double w1.2.2.2.1, .int w1.2.2.2.2.1, .int w1.2.2.2.2.2.1, .int w1.2.2.2.2.2.2])), (q1, .inl (cD, 3, .inr (.inr (.inr (.inl (w1.1))))))] := hD
  refine W.widen (k := 1) (n := 3) (Nat.le_of_ble_eq_true rfl) (Nat.le_of_ble_eq_true rfl) ?_
  have hP := hP.sub (ws' := [(a0, .inr (4, [.ref q1, .int w1.2.1, .double w1.2.2.1, .double w1.2.2.2.1, .int w1.2.2.2.2.1, .int w1.2.2.2.2.2.1, .int w1.2.2.2.2.2.2])), (q1, .inl (cD, 3, .inr (.inr (.inr (.inl (w1.1))))))]) [0, 1] rfl
  have hD := hD.sub (ws' := [(a0, .inr (4, [.ref q1, .int w1.2.1, .double w1.2.2.1, .double w1.2.2.2.1, .int w1.2.2.2.2.1, .int w1.2.2.2.2.2.1, .int w1.2.2.2.2.2.2])), (q1, .inl (cD, 3, .inr (.inr (.inr (.inl (w1.1))))))]) [0, 1] (by decide) rfl
  have hf := Option.some.inj hf
  rw [hQe]
  exact W.vret hx hb hr (fun t ht hW => ⟨⟨w1, rfl, hf, q1, by rw [ht]; exact hP, va_K.moved hW.alike hK, hD⟩, hS.F ht⟩) hS.2.2 d_State_init_15
def f_Box_init_13 : Nat → Int32 → (Int32 × (Nat → UInt64)) → Option S_Box
  | 0, _, _ => none
  | n + 1, v1, u => (if (3 : Int32) ≤ v1 then cv (f_Plans_init) (fun w2 => cv (f_State_init) (fun w3 => cv (f_Events_init) (fun w4 => cv (f_Flash_init) (fun w5 => cv (f_Line_init) (fun w6 => some (u.2, w2, w3, w4, w5, w6, (1 : Int32))))))) else gi v1 3 (bd (vf_upd u.2 v1.toNatClampNeg FP.dconst1) (fun F8 : Nat → UInt64 => bd (v1 + (1 : Int32)) (fun x9 : Int32 => (f_Box_init_13 n) x9 (u.1, F8)))))
def f_Box_init : Option S_Box := f_Box_init_13 100 (0 : Int32) ((0 : Int32), fun _ => (0 : UInt64))
set_option maxHeartbeats 4000000 in
set_option maxRecDepth 100000 in
theorem c_Box_init (l : Launch) (dC : Nat → ClassId) (dI : Nat → Nat → Nat) (cI cL cD : ClassId) (a0 : Nat) (sz : Nat) (res : S_Box) (hf : f_Box_init = some res) : Met l y_Box_init w_Box_init ({ frames := 2, cells := 16, slots := 186, locals := 44 }) (va_Pc [.ref a0] (fun U => U.heap.size = sz ∧ va_P (dC, dI) CL [(a0, .inr (5, [.null, .null, .null, .null, .null, .null, .int (0 : Int32)]))] U.heap ∧ va_K (dC, dI) CL [(cI, .int), (cL, .long), (cD, .double)] U ∧ va_D (fun _ => True) [(a0, .inr (5, [.null, .null, .null, .null, .null, .null, .int (0 : Int32)]))] ∧ NWs U)) (va_Qv (fun (w : S_Box) => w = res) (fun (w : S_Box) t => ∃ (b1 b2 b3 b4 b5 b6 b7 b8 b9 b10 b11 b12 b13 b14 b15 b16 : Nat), va_P (dC, dI) CL [(a0, .inr (5, [.ref b1, .ref b2, .ref b5, .ref b7, .ref b9, .ref b13, .int w.2.2.2.2.2.2])), (b1, .inl (cD, 3, .inr (.inr (.inr (.inl (w.1)))))), (b2, .inr (3, [.ref b3, .ref b4])), (b3, .inl (cI, 8, .inl (w.2.1.1))), (b4, .inl (cI, 8, .inl (w.2.1.2))), (b5, .inr (4, [.ref b6, .int w.2.2.1.2.1, .double w.2.2.1.2.2.1, .double w.2.2.1.2.2.2.1, .int w.2.2.1.2.2.2.2.1, .int w.2.2.1.2.2.2.2.2.1, .int w.2.2.1.2.2.2.2.2.2])), (b6, .inl (cD, 3, .inr (.inr (.inr (.inl (w.2.2.1.1)))))), (b7, .inr (0, [.ref b8, .int w.2.2.2.1.2])), (b8, .inl (cI, 12, .inl (w.2.2.2.1.1))), (b9, .inr (1, [.ref b10, .ref b11, .ref b12, .int w.2.2.2.2.1.2.2.2.1, .int w.2.2.2.2.1.2.2.2.2])), (b10, .inl (cL, 72, .inr (.inl (w.2.2.2.2.1.1)))), (b11, .inl (cI, 4, .inl (w.2.2.2.2.1.2.1))), (b12, .inl (cL, 6, .inr (.inl (w.2.2.2.2.1.2.2.1)))), (b13, .inr (2, [.ref b14, .ref b15, .ref b16, .int w.2.2.2.2.2.1.2.2.2.1, .int w.2.2.2.2.2.1.2.2.2.2.1, .int w.2.2.2.2.2.1.2.2.2.2.2.1, .int w.2.2.2.2.2.1.2.2.2.2.2.2])), (b14, .inl (cI, 12, .inl (w.2.2.2.2.2.1.1))), (b15, .inl (cI, 11, .inl (w.2.2.2.2.2.1.2.1))), (b16, .inl (cI, 24, .inl (w.2.2.2.2.2.1.2.2.1)))] t.heap ∧ va_K (dC, dI) CL [(cI, .int), (cL, .long), (cD, .double)] t ∧ va_D (va_A [(a0, .inr (5, [.null, .null, .null, .null, .null, .null, .int (0 : Int32)]))] sz) [(a0, .inr (5, [.ref b1, .ref b2, .ref b5, .ref b7, .ref b9, .ref b13, .int w.2.2.2.2.2.2])), (b1, .inl (cD, 3, .inr (.inr (.inr (.inl (w.1)))))), (b2, .inr (3, [.ref b3, .ref b4])), (b3, .inl (cI, 8, .inl (w.2.1.1))), (b4, .inl (cI, 8, .inl (w.2.1.2))), (b5, .inr (4, [.ref b6, .int w.2.2.1.2.1, .double w.2.2.1.2.2.1, .double w.2.2.1.2.2.2.1, .int w.2.2.1.2.2.2.2.1, .int w.2.2.1.2.2.2.2.2.1, .int w.2.2.1.2.2.2.2.2.2])), (b6, .inl (cD, 3, .inr (.inr (.inr (.inl (w.2.2.1.1)))))), (b7, .inr (0, [.ref b8, .int w.2.2.2.1.2])), (b8, .inl (cI, 12, .inl (w.2.2.2.1.1))), (b9, .inr (1, [.ref b10, .ref b11, .ref b12, .int w.2.2.2.2.1.2.2.2.1, .int w.2.2.2.2.1.2.2.2.2])), (b10, .inl (cL, 72, .inr (.inl (w.2.2.2.2.1.1)))), (b11, .inl (cI, 4, .inl (w.2.2.2.2.1.2.1))), (b12, .inl (cL, 6, .inr (.inl (w.2.2.2.2.1.2.2.1)))), (b13, .inr (2, [.ref b14, .ref b15, .ref b16, .int w.2.2.2.2.2.1.2.2.2.1, .int w.2.2.2.2.2.1.2.2.2.2.1, .int w.2.2.2.2.2.1.2.2.2.2.2.1, .int w.2.2.2.2.2.1.2.2.2.2.2.2])), (b14, .inl (cI, 12, .inl (w.2.2.2.2.2.1.1))), (b15, .inl (cI, 11, .inl (w.2.2.2.2.2.1.2.1))), (b16, .inl (cI, 24, .inl (w.2.2.2.2.2.1.2.2.1)))]) (va_A [(a0, .inr (5, [.null, .null, .null, .null, .null, .null, .int (0 : Int32)]))] sz)) 16 186 (va_A [(a0, .inr (5, [.null, .null, .null, .null, .null, .null, .int (0 : Int32)]))] sz) := by
  refine Met.ofW (cc := b_Box_init) (maxL := 2) (ret := none) (by decide) rfl ?_
  intro p e s m args below meth c s₁ B hml hv
  obtain ⟨rfl, hsz, hP, hK, hD0, hN⟩ := hv
  have hx := B.exec
  have hb := B.bytes
  have hr := B.returns
  have hts : ∀ w ∈ TB, w.before _ s = true := fun w h => atoms_spec (ws := w_Box_init) B.pre w (List.mem_cons_of_mem _ h)
  have hown : s.vm.findClass R_Box = some m.cls := findClass_of_methodNamed B.named
  have hlocks := B.notSynchronized
  have hin : meth.name = "<init>" := (name_of_methodNamed B.named B.method).1
  subst hsz
  have hD := hD0.self (sz := s.heap.size)
  generalize hAe : va_A [(a0, .inr (5, [.null, .null, .null, .null, .null, .null, .int (0 : Int32)]))] s.heap.size = A at hD ⊢
  have hA : ∀ q : Nat, s.heap.size ≤ q → A q := fun q h => by rw [← hAe]; exact Or.inr h
  have hS : va_S A s.heap s.heap [] := va_S.rf
  have hl := lv_entry ([.ref a0]) (n := 2) (Nat.le_of_ble_eq_true rfl)
  rw [lg_entry_eq]
  generalize (lg_sl ([.ref a0]) ++ List.replicate (2 - (lg_sl ([.ref a0])).length) Slot.unset).toArray = ls at hl ⊢
  have hl : lv_has ls 2 [(0, .ref a0)] := hl
  refine nameQ (fun Q hQe => ?_)
  rw [f_Box_init] at hf
  refine lv_aload_n hx hb d_Box_init_0 rfl (lv_at hl 0 rfl) ?_
  refine W.objInit hx hb hown (hts _ t_61) (hts _ t_62) (hts _ t_63) rfl (by rw [hml]; exact hl.1) rfl d_Box_init_1 (Nat.le_of_ble_eq_true rfl) (Nat.le_of_ble_eq_true rfl) ?_
  refine W.eq (g2 := F0 m 4 ls []) rfl ?_
  refine lv_aload_n hx hb d_Box_init_4 rfl (lv_at hl 0 rfl) ?_
  refine lv_iconst (v := 3) hx hb d_Box_init_5 (by decide) ?_
  refine va_newa (atype := .double) (ty := .double) (N' := 3) (a0 := (3, .inr (.inr (.inr (.inl (fun _ => (0 : UInt64))))))) hx hb (hts _ t_80) rfl hK hP hD hS hA (fun _ => rfl) (by decide) (by decide) (by decide) (Nat.le_of_ble_eq_true rfl) (Nat.le_of_ble_eq_true rfl) d_Box_init_6 (fun q1 cN H hKn hP hD hS => ?_)
  have eN := (cA_D hKn).symm
  subst eN
  clear hKn
  have hP : va_P (dC, dI) CL [(a0, .inr (5, [.null, .null, .null, .null, .null, .null, .int (0 : Int32)])), (q1, .inl (cD, 3, .inr (.inr (.inr (.inl (fun _ => (0 : UInt64)))))))] H := hP
  have hD : va_D A [(a0, .inr (5, [.null, .null, .null, .null, .null, .null, .int (0 : Int32)])), (q1, .inl (cD, 3, .inr (.inr (.inr (.inl (fun _ => (0 : UInt64)))))))] := hD
  refine va_putF (D := (dC, dI)) (ci := 5) (v := .ref q1) (ty := .array .double) (C := R_Box) (T := T_Box) (N := 7) hx hb hts in_Box ty_Box ty_Box_ok nm_Box hown hK hP hD hS 0 rfl rfl 0 (by decide) (hts _ t_196) (fun _ h9 => h9) rfl hin rfl (by decide +kernel) rfl rfl (Nat.le_of_ble_eq_true rfl) d_Box_init_8 (fun H locs hP hD hS => ?_)
  have hP : va_P (dC, dI) CL [(a0, .inr (5, [.ref q1, .null, .null, .null, .null, .null, .int (0 : Int32)])), (q1, .inl (cD, 3, .inr (.inr (.inr (.inl (fun _ => (0 : UInt64)))))))] H := hP
  have hD : va_D A [(a0, .inr (5, [.ref q1, .null, .null, .null, .null, .null, .int (0 : Int32)])), (q1, .inl (cD, 3, .inr (.inr (.inr (.inl (fun _ => (0 : UInt64)))))))] := hD
  refine lv_iconst (v := 0) hx hb d_Box_init_11 (by decide) ?_
  refine lv_istore_n (lv' := [(1, .int (0 : Int32)), (0, .ref a0)]) hx hb d_Box_init_12 rfl hl (by decide) rfl (fun ls hl => ?_)
  have hl := lv_sub hl (l' := [(0, .ref a0), (1, .int (0 : Int32))]) [1, 0] rfl
  refine W.widen (k := 1) (n := 3) (Nat.le_of_ble_eq_true rfl) (Nat.le_of_ble_eq_true rfl) ?_
  have k_13 : ∀ (n : Nat) (v1 : Int32) (u : Int32 × (Nat → UInt64)), f_Box_init_13 n v1 u = some res → ∀ (H : Heap) (locs : List Loc), va_P (dC, dI) CL [(a0, .inr (5, [.ref q1, .null, .null, .null, .null, .null, .int u.1])), (q1, .inl (cD, 3, .inr (.inr (.inr (.inl (u.2))))))] H → va_D A [(a0, .inr (5, [.ref q1, .null, .null, .null, .null, .null, .int u.1])), (q1, .inl (cD, 3, .inr (.inr (.inr (.inl (u.2))))))] → va_S A s.heap H locs → ∀ (ls : Array Slot), lv_has ls 2 [(0, .ref a0), (1, .int v1)] → W p l e (headSpec w_Box_init ({ frames := 2, cells := 16, slots := 186, locals := 44 })).room s m ([.ref a0] : List Value).toArray below meth c H locs 1 3 Q (F0 m 13 ls []) := by
    intro n
    induction n with
    | zero =>
      intro v1 u hf
      simp [f_Box_init_13] at hf
    | succ n k_13 =>
      intro v1 u hf H locs hP hD hS ls hl
      rw [f_Box_init_13] at hf
      refine lv_iload_n hx hb d_Box_init_13 rfl (lv_at hl 1 rfl) ?_
      refine lv_iconst (v := 3) hx hb d_Box_init_14 (by decide) ?_
      refine lv_icmp_ge (tgt := 31) hx hb d_Box_init_15 (by decide) (fun c1 => ?_) (fun c1 => ?_)
      · have hf := ite_t c1 hf
        refine lv_aload_n hx hb d_Box_init_31 rfl (lv_at hl 0 rfl) ?_
        refine va_new (ci := 3) (fs := [.null, .null]) (C := R_Plans) (T := T_Plans) (N := 2) hx hb hts in_Plans ty_Plans ty_Plans_ok hown (hts _ t_64) (hts _ t_65) (hts _ t_39) hK hP hD hS hA rfl df_Plans (Nat.le_of_ble_eq_true rfl) (Nat.le_of_ble_eq_true rfl) d_Box_init_32 (fun q2 H hP hD hS => ?_)
        have hP : va_P (dC, dI) CL [(a0, .inr (5, [.ref q1, .null, .null, .null, .null, .null, .int u.1])), (q1, .inl (cD, 3, .inr (.inr (.inr (.inl (u.2)))))), (q2, .inr (3, [.null, .null]))] H := hP
        have hD : va_D A [(a0, .inr (5, [.ref q1, .null, .null, .null, .null, .null, .int u.1])), (q1, .inl (cD, 3, .inr (.inr (.inr (.inl (u.2)))))), (q2, .inr (3, [.null, .null]))] := hD
        refine lv_dup hx hb d_Box_init_35 rfl ?_
        obtain ⟨w2, hc, hf⟩ := cv_t hf
        have hPc := hP.sub (ws' := [(q2, .inr (3, [.null, .null]))]) [2] rfl
        have hDc := hD.sub (ws' := [(q2, .inr (3, [.null, .null]))]) [2] (by decide) rfl
        have hFc := va_free (wc := [(q2, .inr (3, [.null, .null]))]) hD hS hA [2] rfl
        refine va_callv (va_runI (As := []) (rest := [.ref q2, .ref a0]) ⟨hx, hb, hml, hown, hts⟩ (c_Plans_init l dC dI cI cL cD q2 H.size w2 hc) (cwI 0 hts (gC t_68) rfl rfl rfl (hts _ t_39) (hts _ t_66) (hts _ t_67) rfl (by decide +kernel) ⟨(Nat.le_of_ble_eq_true rfl), (Nat.le_of_ble_eq_true rfl)⟩) ⟨fun a U g mk q => by obtain ⟨q0, q1, qP, qK, qD, qN⟩ := q; exact ⟨q0, q1, qP, va_K.moved (u := U) (U := U.calling g mk a) (Vm.Alike.refl U.vm) qK, qD, NWs.same (u := U) (U := U.calling g mk a) rfl qN⟩, fun U hU hW => ⟨rfl, by rw [hU], by rw [hU]; exact hPc, va_K.moved hW.alike hK, hDc.weaken (fun _ _ _ _ => trivial), hN.warm hW⟩⟩ rfl rfl hl.1 rfl (lv_room (Nat.le_of_ble_eq_true rfl)) d_Box_init_36 ⟨(Nat.le_of_ble_eq_true rfl), (Nat.le_of_ble_eq_true rfl)⟩) hS (fun q _ h => hFc q h) hFc (fun wZ t H1 locs ht hvm hw hB hz1 hk1 hS => ?_)
        replace hw : w2 = wZ := hw.symm
        subst hw
        obtain ⟨q3, q4, hP1, hK1, hD1⟩ := hB
        rw [ht] at hP1
        obtain ⟨hP, hD⟩ := va_join (wr := [(a0, .inr (5, [.ref q1, .null, .null, .null, .null, .null, .int u.1])), (q1, .inl (cD, 3, .inr (.inr (.inr (.inl (u.2))))))]) (w1 := [(q2, .inr (3, [.ref q3, .ref q4])), (q3, .inl (cI, 8, .inl (w2.1))), (q4, .inl (cI, 8, .inl (w2.2)))]) hP hD [2] [0, 1] rfl rfl (by decide) (by decide) hk1 hFc hP1 hD1
        generalize H1 = H at hP hS ⊢
        have hP : va_P (dC, dI) CL [(a0, .inr (5, [.ref q1, .null, .null, .null, .null, .null, .int u.1])), (q1, .inl (cD, 3, .inr (.inr (.inr (.inl (u.2)))))), (q2, .inr (3, [.ref q3, .ref q4])), (q3, .inl (cI, 8, .inl (w2.1))), (q4, .inl (cI, 8, .inl (w2.2)))] H := hP
        have hD : va_D A [(a0, .inr (5, [.ref q1, .null, .null, .null, .null, .null, .int u.1])), (q1, .inl (cD, 3, .inr (.inr (.inr (.inl (u.2)))))), (q2, .inr (3, [.ref q3, .ref q4])), (q3, .inl (cI, 8, .inl (w2.1))), (q4, .inl (cI, 8, .inl (w2.2)))] := hD
        refine va_putF (D := (dC, dI)) (ci := 5) (v := .ref q2) (ty := .object "MeterBox$Plans") (C := R_Box) (T := T_Box) (N := 7) hx hb hts in_Box ty_Box ty_Box_ok nm_Box hown hK hP hD hS 0 rfl rfl 1 (by decide) (hts _ t_197) (fun _ h9 => h9) rfl hin rfl (by decide +kernel) rfl rfl (Nat.le_of_ble_eq_true rfl) d_Box_init_39 (fun H locs hP hD hS => ?_)
        have hP : va_P (dC, dI) CL [(a0, .inr (5, [.ref q1, .ref q2, .null, .null, .null, .null, .int u.1])), (q1, .inl (cD, 3, .inr (.inr (.inr (.inl (u.2)))))), (q2, .inr (3, [.ref q3, .ref q4])), (q3, .inl (cI, 8, .inl (w2.1))), (q4, .inl (cI, 8, .inl (w2.2)))] H := hP
        have hD : va_D A [(a0, .inr (5, [.ref q1, .ref q2, .null, .null, .null, .null, .int u.1])), (q1, .inl (cD, 3, .inr (.inr (.inr (.inl (u.2)))))), (q2, .inr (3, [.ref q3, .ref q4])), (q3, .inl (cI, 8, .inl (w2.1))), (q4, .inl (cI, 8, .inl (w2.2)))] := hD
        refine lv_aload_n hx hb d_Box_init_42 rfl (lv_at hl 0 rfl) ?_
        refine va_new (ci := 4) (fs := [.null, .int (0 : Int32), .double (0 : UInt64), .double (0 : UInt64), .int (0 : Int32), .int (0 : Int32), .int (0 : Int32)]) (C := R_State) (T := T_State) (N := 7) hx hb hts in_State ty_State ty_State_ok hown (hts _ t_82) (hts _ t_83) (hts _ t_41) hK hP hD hS hA rfl df_State (Nat.le_of_ble_eq_true rfl) (Nat.le_of_ble_eq_true rfl) d_Box_init_43 (fun q5 H hP hD hS => ?_)
        have hP : va_P (dC, dI) CL [(a0, .inr (5, [.ref q1, .ref q2, .null, .null, .null, .null, .int u.1])), (q1, .inl (cD, 3, .inr (.inr (.inr (.inl (u.2)))))), (q2, .inr (3, [.ref q3, .ref q4])), (q3, .inl (cI, 8, .inl (w2.1))), (q4, .inl (cI, 8, .inl (w2.2))), (q5, .inr (4, [.null, .int (0 : Int32), .double (0 : UInt64), .double (0 : UInt64), .int (0 : Int32), .int (0 : Int32), .int (0 : Int32)]))] H := hP
        have hD : va_D A [(a0, .inr (5, [.ref q1, .ref q2, .null, .null, .null, .null, .int u.1])), (q1, .inl (cD, 3, .inr (.inr (.inr (.inl (u.2)))))), (q2, .inr (3, [.ref q3, .ref q4])), (q3, .inl (cI, 8, .inl (w2.1))), (q4, .inl (cI, 8, .inl (w2.2))), (q5, .inr (4, [.null, .int (0 : Int32), .double (0 : UInt64), .double (0 : UInt64), .int (0 : Int32), .int (0 : Int32), .int (0 : Int32)]))] := hD
        refine lv_dup hx hb d_Box_init_46 rfl ?_
        obtain ⟨w3, hc, hf⟩ := cv_t hf
        have hPc := hP.sub (ws' := [(q5, .inr (4, [.null, .int (0 : Int32), .double (0 : UInt64), .double (0 : UInt64), .int (0 : Int32), .int (0 : Int32), .int (0 : Int32)]))]) [5] rfl
        have hDc := hD.sub (ws' := [(q5, .inr (4, [.null, .int (0 : Int32), .double (0 : UInt64), .double (0 : UInt64), .int (0 : Int32), .int (0 : Int32), .int (0 : Int32)]))]) [5] (by decide) rfl
        have hFc := va_free (wc := [(q5, .inr (4, [.null, .int (0 : Int32), .double (0 : UInt64), .double (0 : UInt64), .int (0 : Int32), .int (0 : Int32), .int (0 : Int32)]))]) hD hS hA [5] rfl
        refine va_callv (va_runI (As := []) (rest := [.ref q5, .ref a0]) ⟨hx, hb, hml, hown, hts⟩ (c_State_init l dC dI cI cL cD q5 H.size w3 hc) (cwI 0 hts (gC t_86) rfl rfl rfl (hts _ t_41) (hts _ t_84) (hts _ t_85) rfl (by decide +kernel) ⟨(Nat.le_of_ble_eq_true rfl), (Nat.le_of_ble_eq_true rfl)⟩) ⟨fun a U g mk q => by obtain ⟨q0, q1, qP, qK, qD, qN⟩ := q; exact ⟨q0, q1, qP, va_K.moved (u := U) (U := U.calling g mk a) (Vm.Alike.refl U.vm) qK, qD, NWs.same (u := U) (U := U.calling g mk a) rfl qN⟩, fun U hU hW => ⟨rfl, by rw [hU], by rw [hU]; exact hPc, va_K.moved hW.alike hK, hDc.weaken (fun _ _ _ _ => trivial), hN.warm hW⟩⟩ rfl rfl hl.1 rfl (lv_room (Nat.le_of_ble_eq_true rfl)) d_Box_init_47 ⟨(Nat.le_of_ble_eq_true rfl), (Nat.le_of_ble_eq_true rfl)⟩) hS (fun q _ h => hFc q h) hFc (fun wZ t H1 locs ht hvm hw hB hz1 hk1 hS => ?_)
        replace hw : w3 = wZ := hw.symm
        subst hw
        obtain ⟨q6, hP1, hK1, hD1⟩ := hB
        rw [ht] at hP1
        obtain ⟨hP, hD⟩ := va_join (wr := [(a0, .inr (5, [.ref q1, .ref q2, .null, .null, .null, .null, .int u.1])), (q1, .inl (cD, 3, .inr (.inr (.inr (.inl (u.2)))))), (q2, .inr (3, [.ref q3, .ref q4])), (q3, .inl (cI, 8, .inl (w2.1))), (q4, .inl (cI, 8, .inl (w2.2)))]) (w1 := [(q5, .inr (4, [.ref q6, .int w3.2.1, .double w3.2.2.1, .double w3.2.2.2.1, .int w3.2.2.2.2.1, .int w3.2.2.2.2.2.1, .int w3.2.2.2.2.2.2])), (q6, .inl (cD, 3, .inr (.inr (.inr (.inl (w3.1))))))]) hP hD [5] [0, 1, 2, 3, 4] rfl rfl (by decide) (by decide) hk1 hFc hP1 hD1
        generalize H1 = H at hP hS ⊢
        have hP : va_P (dC, dI) CL [(a0, .inr (5, [.ref q1, .ref q2, .null, .null, .null, .null, .int u.1])), (q1, .inl (cD, 3, .inr (.inr (.inr (.inl (u.2)))))), (q2, .inr (3, [.ref q3, .ref q4])), (q3, .inl (cI, 8, .inl (w2.1))), (q4, .inl (cI, 8, .inl (w2.2))), (q5, .inr (4, [.ref q6, .int w3.2.1, .double w3.2.2.1, .double w3.2.2.2.1, .int w3.2.2.2.2.1, .int w3.2.2.2.2.2.1, .int w3.2.2.2.2.2.2])), (q6, .inl (cD, 3, .inr (.inr (.inr (.inl (w3.1))))))] H := hP
        have hD : va_D A [(a0, .inr (5, [.ref q1, .ref q2, .null, .null, .null, .null, .int u.1])), (q1, .inl (cD, 3, .inr (.inr (.inr (.inl (u.2)))))), (q2, .inr (3, [.ref q3, .ref q4])), (q3, .inl (cI, 8, .inl (w2.1))), (q4, .inl (cI, 8, .inl (w2.2))), (q5, .inr (4, [.ref q6, .int w3.2.1, .double w3.2.2.1, .double w3.2.2.2.1, .int w3.2.2.2.2.1, .int w3.2.2.2.2.2.1, .int w3.2.2.2.2.2.2])), (q6, .inl (cD, 3, .inr (.inr (.inr (.inl (w3.1))))))] := hD
        refine va_putF (D := (dC, dI)) (ci := 5) (v := .ref q5) (ty := .object "MeterBox$State") (C := R_Box) (T := T_Box) (N := 7) hx hb hts in_Box ty_Box ty_Box_ok nm_Box hown hK hP hD hS 0 rfl rfl 2 (by decide) (hts _ t_198) (fun _ h9 => h9) rfl hin rfl (by decide +kernel) rfl rfl (Nat.le_of_ble_eq_true rfl) d_Box_init_50 (fun H locs hP hD hS => ?_)
        have hP : va_P (dC, dI) CL [(a0, .inr (5, [.ref q1, .ref q2, .ref q5, .null, .null, .null, .int u.1])), (q1, .inl (cD, 3, .inr (.inr (.inr (.inl (u.2)))))), (q2, .inr (3, [.ref q3, .ref q4])), (q3, .inl (cI, 8, .inl (w2.1))), (q4, .inl (cI, 8, .inl (w2.2))), (q5, .inr (4, [.ref q6, .int w3.2.1, .double w3.2.2.1, .double w3.2.2.2.1, .int w3.2.2.2.2.1, .int w3.2.2.2.2.2.1, .int w3.2.2.2.2.2.2])), (q6, .inl (cD, 3, .inr (.inr (.inr (.inl (w3.1))))))] H := hP
        have hD : va_D A [(a0, .inr (5, [.ref q1, .ref q2, .ref q5, .null, .null, .null, .int u.1])), (q1, .inl (cD, 3, .inr (.inr (.inr (.inl (u.2)))))), (q2, .inr (3, [.ref q3, .ref q4])), (q3, .inl (cI, 8, .inl (w2.1))), (q4, .inl (cI, 8, .inl (w2.2))), (q5, .inr (4, [.ref q6, .int w3.2.1, .double w3.2.2.1, .double w3.2.2.2.1, .int w3.2.2.2.2.1, .int w3.2.2.2.2.2.1, .int w3.2.2.2.2.2.2])), (q6, .inl (cD, 3, .inr (.inr (.inr (.inl (w3.1))))))] := hD
        refine lv_aload_n hx hb d_Box_init_53 rfl (lv_at hl 0 rfl) ?_
        refine va_new (ci := 0) (fs := [.null, .int (0 : Int32)]) (C := R_Events) (T := T_Events) (N := 2) hx hb hts in_Events ty_Events ty_Events_ok hown (hts _ t_121) (hts _ t_122) (hts _ t_42) hK hP hD hS hA rfl df_Events (Nat.le_of_ble_eq_true rfl) (Nat.le_of_ble_eq_true rfl) d_Box_init_54 (fun q7 H hP hD hS => ?_)
        have hP : va_P (dC, dI) CL [(a0, .inr (5, [.ref q1, .ref q2, .ref q5, .null, .null, .null, .int u.1])), (q1, .inl (cD, 3, .inr (.inr (.inr (.inl (u.2)))))), (q2, .inr (3, [.ref q3, .ref q4])), (q3, .inl (cI, 8, .inl (w2.1))), (q4, .inl (cI, 8, .inl (w2.2))), (q5, .inr (4, [.ref q6, .int w3.2.1, .double w3.2.2.1, .double w3.2.2.2.1, .int w3.2.2.2.2.1, .int w3.2.2.2.2.2.1, .int w3.2.2.2.2.2.2])), (q6, .inl (cD, 3, .inr (.inr (.inr (.inl (w3.1)))))), (q7, .inr (0, [.null, .int (0 : Int32)]))] H := hP
        have hD : va_D A [(a0, .inr (5, [.ref q1, .ref q2, .ref q5, .null, .null, .null, .int u.1])), (q1, .inl (cD, 3, .inr (.inr (.inr (.inl (u.2)))))), (q2, .inr (3, [.ref q3, .ref q4])), (q3, .inl (cI, 8, .inl (w2.1))), (q4, .inl (cI, 8, .inl (w2.2))), (q5, .inr (4, [.ref q6, .int w3.2.1, .double w3.2.2.1, .double w3.2.2.2.1, .int w3.2.2.2.2.1, .int w3.2.2.2.2.2.1, .int w3.2.2.2.2.2.2])), (q6, .inl (cD, 3, .inr (.inr (.inr (.inl (w3.1)))))), (q7, .inr (0, [.null, .int (0 : Int32)]))] := hD
        refine lv_dup hx hb d_Box_init_57 rfl ?_
        obtain ⟨w4, hc, hf⟩ := cv_t hf
        have hPc := hP.sub (ws' := [(q7, .inr (0, [.null, .int (0 : Int32)]))]) [7] rfl
        have hDc := hD.sub (ws' := [(q7, .inr (0, [.null, .int (0 : Int32)]))]) [7] (by decide) rfl
        have hFc := va_free (wc := [(q7, .inr (0, [.null, .int (0 : Int32)]))]) hD hS hA [7] rfl
        refine va_callv (va_runIN (As := []) (rest := [.ref q7, .ref a0]) ⟨hx, hb, hml, hown, hts⟩ (c_Events_init l dC dI cI cL cD q7 H.size w4 hc) ⟨va_cnB 0 hts (gC t_125) rfl rfl rfl (hN _ n_6) (hts _ t_42) (by decide +kernel) ⟨(Nat.le_of_ble_eq_true rfl), (Nat.le_of_ble_eq_true rfl)⟩, rfl, hts _ t_124⟩ ⟨fun a U g mk q => by obtain ⟨q0, q1, qP, qK, qD, qN⟩ := q; exact ⟨q0, q1, qP, va_K.moved (u := U) (U := U.calling g mk a) (Vm.Alike.refl U.vm) qK, qD, NWs.same (u := U) (U := U.calling g mk a) rfl qN⟩, fun U hU hW => ⟨rfl, by rw [hU], by rw [hU]; exact hPc, va_K.moved hW.alike hK, hDc.weaken (fun _ _ _ _ => trivial), hN.warm hW⟩⟩ rfl rfl hl.1 rfl (lv_room (Nat.le_of_ble_eq_true rfl)) d_Box_init_58 ⟨(Nat.le_of_ble_eq_true rfl), (Nat.le_of_ble_eq_true rfl)⟩) hS (fun q _ h => hFc q h) hFc (fun wZ t H1 locs ht hvm hw hB hz1 hk1 hS => ?_)
        replace hw : w4 = wZ := hw.symm
        subst hw
        obtain ⟨q8, hP1, hK1, hD1⟩ := hB
        rw [ht] at hP1
        obtain ⟨hP, hD⟩ := va_join (wr := [(a0, .inr (5, [.ref q1, .ref q2, .ref q5, .null, .null, .null, .int u.1])), (q1, .inl (cD, 3, .inr (.inr (.inr (.inl (u.2)))))), (q2, .inr (3, [.ref q3, .ref q4])), (q3, .inl (cI, 8, .inl (w2.1))), (q4, .inl (cI, 8, .inl (w2.2))), (q5, .inr (4, [.ref q6, .int w3.2.1, .double w3.2.2.1, .double w3.2.2.2.1, .int w3.2.2.2.2.1, .int w3.2.2.2.2.2.1, .int w3.2.2.2.2.2.2])), (q6, .inl (cD, 3, .inr (.inr (.inr (.inl (w3.1))))))]) (w1 := [(q7, .inr (0, [.ref q8, .int w4.2])), (q8, .inl (cI, 12, .inl (w4.1)))]) hP hD [7] [0, 1, 2, 3, 4, 5, 6] rfl rfl (by decide) (by decide) hk1 hFc hP1 hD1
        generalize H1 = H at hP hS ⊢
        have hP : va_P (dC, dI) CL [(a0, .inr (5, [.ref q1, .ref q2, .ref q5, .null, .null, .null, .int u.1])), (q1, .inl (cD, 3, .inr (.inr (.inr (.inl (u.2)))))), (q2, .inr (3, [.ref q3, .ref q4])), (q3, .inl (cI, 8, .inl (w2.1))), (q4, .inl (cI, 8, .inl (w2.2))), (q5, .inr (4, [.ref q6, .int w3.2.1, .double w3.2.2.1, .double w3.2.2.2.1, .int w3.2.2.2.2.1, .int w3.2.2.2.2.2.1, .int w3.2.2.2.2.2.2])), (q6, .inl (cD, 3, .inr (.inr (.inr (.inl (w3.1)))))), (q7, .inr (0, [.ref q8, .int w4.2])), (q8, .inl (cI, 12, .inl (w4.1)))] H := hP
        have hD : va_D A [(a0, .inr (5, [.ref q1, .ref q2, .ref q5, .null, .null, .null, .int u.1])), (q1, .inl (cD, 3, .inr (.inr (.inr (.inl (u.2)))))), (q2, .inr (3, [.ref q3, .ref q4])), (q3, .inl (cI, 8, .inl (w2.1))), (q4, .inl (cI, 8, .inl (w2.2))), (q5, .inr (4, [.ref q6, .int w3.2.1, .double w3.2.2.1, .double w3.2.2.2.1, .int w3.2.2.2.2.1, .int w3.2.2.2.2.2.1, .int w3.2.2.2.2.2.2])), (q6, .inl (cD, 3, .inr (.inr (.inr (.inl (w3.1)))))), (q7, .inr (0, [.ref q8, .int w4.2])), (q8, .inl (cI, 12, .inl (w4.1)))] := hD
        refine va_putF (D := (dC, dI)) (ci := 5) (v := .ref q7) (ty := .object "MeterBox$Events") (C := R_Box) (T := T_Box) (N := 7) hx hb hts in_Box ty_Box ty_Box_ok nm_Box hown hK hP hD hS 0 rfl rfl 3 (by decide) (hts _ t_199) (fun _ h9 => h9) rfl hin rfl (by decide +kernel) rfl rfl (Nat.le_of_ble_eq_true rfl) d_Box_init_61 (fun H locs hP hD hS => ?_)
        have hP : va_P (dC, dI) CL [(a0, .inr (5, [.ref q1, .ref q2, .ref q5, .ref q7, .null, .null, .int u.1])), (q1, .inl (cD, 3, .inr (.inr (.inr (.inl (u.2)))))), (q2, .inr (3, [.ref q3, .ref q4])), (q3, .inl (cI, 8, .inl (w2.1))), (q4, .inl (cI, 8, .inl (w2.2))), (q5, .inr (4, [.ref q6, .int w3.2.1, .double w3.2.2.1, .double w3.2.2.2.1, .int w3.2.2.2.2.1, .int w3.2.2.2.2.2.1, .int w3.2.2.2.2.2.2])), (q6, .inl (cD, 3, .inr (.inr (.inr (.inl (w3.1)))))), (q7, .inr (0, [.ref q8, .int w4.2])), (q8, .inl (cI, 12, .inl (w4.1)))] H := hP
        have hD : va_D A [(a0, .inr (5, [.ref q1, .ref q2, .ref q5, .ref q7, .null, .null, .int u.1])), (q1, .inl (cD, 3, .inr (.inr (.inr (.inl (u.2)))))), (q2, .inr (3, [.ref q3, .ref q4])), (q3, .inl (cI, 8, .inl (w2.1))), (q4, .inl (cI, 8, .inl (w2.2))), (q5, .inr (4, [.ref q6, .int w3.2.1, .double w3.2.2.1, .double w3.2.2.2.1, .int w3.2.2.2.2.1, .int w3.2.2.2.2.2.1, .int w3.2.2.2.2.2.2])), (q6, .inl (cD, 3, .inr (.inr (.inr (.inl (w3.1)))))), (q7, .inr (0, [.ref q8, .int w4.2])), (q8, .inl (cI, 12, .inl (w4.1)))] := hD
        refine lv_aload_n hx hb d_Box_init_64 rfl (lv_at hl 0 rfl) ?_
        refine va_new (ci := 1) (fs := [.null, .null, .null, .int (0 : Int32), .int (0 : Int32)]) (C := R_Flash) (T := T_Flash) (N := 5) hx hb hts in_Flash ty_Flash ty_Flash_ok hown (hts _ t_136) (hts _ t_137) (hts _ t_43) hK hP hD hS hA rfl df_Flash (Nat.le_of_ble_eq_true rfl) (Nat.le_of_ble_eq_true rfl) d_Box_init_65 (fun q9 H hP hD hS => ?_)
        have hP : va_P (dC, dI) CL [(a0, .inr (5, [.ref q1, .ref q2, .ref q5, .ref q7, .null, .null, .int u.1])), (q1, .inl (cD, 3, .inr (.inr (.inr (.inl (u.2)))))), (q2, .inr (3, [.ref q3, .ref q4])), (q3, .inl (cI, 8, .inl (w2.1))), (q4, .inl (cI, 8, .inl (w2.2))), (q5, .inr (4, [.ref q6, .int w3.2.1, .double w3.2.2.1, .double w3.2.2.2.1, .int w3.2.2.2.2.1, .int w3.2.2.2.2.2.1, .int w3.2.2.2.2.2.2])), (q6, .inl (cD, 3, .inr (.inr (.inr (.inl (w3.1)))))), (q7, .inr (0, [.ref q8, .int w4.2])), (q8, .inl (cI, 12, .inl (w4.1))), (q9, .inr (1, [.null, .null, .null, .int (0 : Int32), .int (0 : Int32)]))] H := hP
        have hD : va_D A [(a0, .inr (5, [.ref q1, .ref q2, .ref q5, .ref q7, .null, .null, .int u.1])), (q1, .inl (cD, 3, .inr (.inr (.inr (.inl (u.2)))))), (q2, .inr (3, [.ref q3, .ref q4])), (q3, .inl (cI, 8, .inl (w2.1))), (q4, .inl (cI, 8, .inl (w2.2))), (q5, .inr (4, [.ref q6, .int w3.2.1, .double w3.2.2.1, .double w3.2.2.2.1, .int w3.2.2.2.2.1, .int w3.2.2.2.2.2.1, .int w3.2.2.2.2.2.2])), (q6, .inl (cD, 3, .inr (.inr (.inr (.inl (w3.1)))))), (q7, .inr (0, [.ref q8, .int w4.2])), (q8, .inl (cI, 12, .inl (w4.1))), (q9, .inr (1, [.null, .null, .null, .int (0 : Int32), .int (0 : Int32)]))] := hD
        refine lv_dup hx hb d_Box_init_68 rfl ?_
        obtain ⟨w5, hc, hf⟩ := cv_t hf
        have hPc := hP.sub (ws' := [(q9, .inr (1, [.null, .null, .null, .int (0 : Int32), .int (0 : Int32)]))]) [9] rfl
        have hDc := hD.sub (ws' := [(q9, .inr (1, [.null, .null, .null, .int (0 : Int32), .int (0 : Int32)]))]) [9] (by decide) rfl
        have hFc := va_free (wc := [(q9, .inr (1, [.null, .null, .null, .int (0 : Int32), .int (0 : Int32)]))]) hD hS hA [9] rfl
        refine va_callv (va_runI (As := []) (rest := [.ref q9, .ref a0]) ⟨hx, hb, hml, hown, hts⟩ (c_Flash_init l dC dI cI cL cD q9 H.size w5 hc) (cwI 0 hts (gC t_140) rfl rfl rfl (hts _ t_43) (hts _ t_138) (hts _ t_139) rfl (by decide +kernel) ⟨(Nat.le_of_ble_eq_true rfl), (Nat.le_of_ble_eq_true rfl)⟩) ⟨fun a U g mk q => by obtain ⟨q0, q1, qP, qK, qD, qN⟩ := q; exact ⟨q0, q1, qP, va_K.moved (u := U) (U := U.calling g mk a) (Vm.Alike.refl U.vm) qK, qD, NWs.same (u := U) (U := U.calling g mk a) rfl qN⟩, fun U hU hW => ⟨rfl, by rw [hU], by rw [hU]; exact hPc, va_K.moved hW.alike hK, hDc.weaken (fun _ _ _ _ => trivial), hN.warm hW⟩⟩ rfl rfl hl.1 rfl (lv_room (Nat.le_of_ble_eq_true rfl)) d_Box_init_69 ⟨(Nat.le_of_ble_eq_true rfl), (Nat.le_of_ble_eq_true rfl)⟩) hS (fun q _ h => hFc q h) hFc (fun wZ t H1 locs ht hvm hw hB hz1 hk1 hS => ?_)
        replace hw : w5 = wZ := hw.symm
        subst hw
        obtain ⟨q10, q11, q12, hP1, hK1, hD1⟩ := hB
        rw [ht] at hP1
        obtain ⟨hP, hD⟩ := va_join (wr := [(a0, .inr (5, [.ref q1, .ref q2, .ref q5, .ref q7, .null, .null, .int u.1])), (q1, .inl (cD, 3, .inr (.inr (.inr (.inl (u.2)))))), (q2, .inr (3, [.ref q3, .ref q4])), (q3, .inl (cI, 8, .inl (w2.1))), (q4, .inl (cI, 8, .inl (w2.2))), (q5, .inr (4, [.ref q6, .int w3.2.1, .double w3.2.2.1, .double w3.2.2.2.1, .int w3.2.2.2.2.1, .int w3.2.2.2.2.2.1, .int w3.2.2.2.2.2.2])), (q6, .inl (cD, 3, .inr (.inr (.inr (.inl (w3.1)))))), (q7, .inr (0, [.ref q8, .int w4.2])), (q8, .inl (cI, 12, .inl (w4.1)))]) (w1 := [(q9, .inr (1, [.ref q10, .ref q11, .ref q12, .int w5.2.2.2.1, .int w5.2.2.2.2])), (q10, .inl (cL, 72, .inr (.inl (w5.1)))), (q11, .inl (cI, 4, .inl (w5.2.1))), (q12, .inl (cL, 6, .inr (.inl (w5.2.2.1))))]) hP hD [9] [0, 1, 2, 3, 4, 5, 6, 7, 8] rfl rfl (by decide) (by decide) hk1 hFc hP1 hD1
        generalize H1 = H at hP hS ⊢
        have hP : va_P (dC, dI) CL [(a0, .inr (5, [.ref q1, .ref q2, .ref q5, .ref q7, .null, .null, .int u.1])), (q1, .inl (cD, 3, .inr (.inr (.inr (.inl (u.2)))))), (q2, .inr (3, [.ref q3, .ref q4])), (q3, .inl (cI, 8, .inl (w2.1))), (q4, .inl (cI, 8, .inl (w2.2))), (q5, .inr (4, [.ref q6, .int w3.2.1, .double w3.2.2.1, .double w3.2.2.2.1, .int w3.2.2.2.2.1, .int w3.2.2.2.2.2.1, .int w3.2.2.2.2.2.2])), (q6, .inl (cD, 3, .inr (.inr (.inr (.inl (w3.1)))))), (q7, .inr (0, [.ref q8, .int w4.2])), (q8, .inl (cI, 12, .inl (w4.1))), (q9, .inr (1, [.ref q10, .ref q11, .ref q12, .int w5.2.2.2.1, .int w5.2.2.2.2])), (q10, .inl (cL, 72, .inr (.inl (w5.1)))), (q11, .inl (cI, 4, .inl (w5.2.1))), (q12, .inl (cL, 6, .inr (.inl (w5.2.2.1))))] H := hP
        have hD : va_D A [(a0, .inr (5, [.ref q1, .ref q2, .ref q5, .ref q7, .null, .null, .int u.1])), (q1, .inl (cD, 3, .inr (.inr (.inr (.inl (u.2)))))), (q2, .inr (3, [.ref q3, .ref q4])), (q3, .inl (cI, 8, .inl (w2.1))), (q4, .inl (cI, 8, .inl (w2.2))), (q5, .inr (4, [.ref q6, .int w3.2.1, .double w3.2.2.1, .double w3.2.2.2.1, .int w3.2.2.2.2.1, .int w3.2.2.2.2.2.1, .int w3.2.2.2.2.2.2])), (q6, .inl (cD, 3, .inr (.inr (.inr (.inl (w3.1)))))), (q7, .inr (0, [.ref q8, .int w4.2])), (q8, .inl (cI, 12, .inl (w4.1))), (q9, .inr (1, [.ref q10, .ref q11, .ref q12, .int w5.2.2.2.1, .int w5.2.2.2.2])), (q10, .inl (cL, 72, .inr (.inl (w5.1)))), (q11, .inl (cI, 4, .inl (w5.2.1))), (q12, .inl (cL, 6, .inr (.inl (w5.2.2.1))))] := hD
        refine va_putF (D := (dC, dI)) (ci := 5) (v := .ref q9) (ty := .object "MeterBox$Flash") (C := R_Box) (T := T_Box) (N := 7) hx hb hts in_Box ty_Box ty_Box_ok nm_Box hown hK hP hD hS 0 rfl rfl 4 (by decide) (hts _ t_200) (fun _ h9 => h9) rfl hin rfl (by decide +kernel) rfl rfl (Nat.le_of_ble_eq_true rfl) d_Box_init_72 (fun H locs hP hD hS => ?_)
        have hP : va_P (dC, dI) CL [(a0, .inr (5, [.ref q1, .ref q2, .ref q5, .ref q7, .ref q9, .null, .int u.1])), (q1, .inl (cD, 3, .inr (.inr (.inr (.inl (u.2)))))), (q2, .inr (3, [.ref q3, .ref q4])), (q3, .inl (cI, 8, .inl (w2.1))), (q4, .inl (cI, 8, .inl (w2.2))), (q5, .inr (4, [.ref q6, .int w3.2.1, .double w3.2.2.1, .double w3.2.2.2.1, .int w3.2.2.2.2.1, .int w3.2.2.2.2.2.1, .int w3.2.2.2.2.2.2])), (q6, .inl (cD, 3, .inr (.inr (.inr (.inl (w3.1)))))), (q7, .inr (0, [.ref q8, .int w4.2])), (q8, .inl (cI, 12, .inl (w4.1))), (q9, .inr (1, [.ref q10, .ref q11, .ref q12, .int w5.2.2.2.1, .int w5.2.2.2.2])), (q10, .inl (cL, 72, .inr (.inl (w5.1)))), (q11, .inl (cI, 4, .inl (w5.2.1))), (q12, .inl (cL, 6, .inr (.inl (w5.2.2.1))))] H := hP
        have hD : va_D A [(a0, .inr (5, [.ref q1, .ref q2, .ref q5, .ref q7, .ref q9, .null, .int u.1])), (q1, .inl (cD, 3, .inr (.inr (.inr (.inl (u.2)))))), (q2, .inr (3, [.ref q3, .ref q4])), (q3, .inl (cI, 8, .inl (w2.1))), (q4, .inl (cI, 8, .inl (w2.2))), (q5, .inr (4, [.ref q6, .int w3.2.1, .double w3.2.2.1, .double w3.2.2.2.1, .int w3.2.2.2.2.1, .int w3.2.2.2.2.2.1, .int w3.2.2.2.2.2.2])), (q6, .inl (cD, 3, .inr (.inr (.inr (.inl (w3.1)))))), (q7, .inr (0, [.ref q8, .int w4.2])), (q8, .inl (cI, 12, .inl (w4.1))), (q9, .inr (1, [.ref q10, .ref q11, .ref q12, .int w5.2.2.2.1, .int w5.2.2.2.2])), (q10, .inl (cL, 72, .inr (.inl (w5.1)))), (q11, .inl (cI, 4, .inl (w5.2.1))), (q12, .inl (cL, 6, .inr (.inl (w5.2.2.1))))] := hD
        refine lv_aload_n hx hb d_Box_init_75 rfl (lv_at hl 0 rfl) ?_
        refine va_new (ci := 2) (fs := [.null, .null, .null, .int (0 : Int32), .int (0 : Int32), .int (0 : Int32), .int (0 : Int32)]) (C := R_Line) (T := T_Line) (N := 7) hx hb hts in_Line ty_Line ty_Line_ok hown (hts _ t_166) (hts _ t_167) (hts _ t_44) hK hP hD hS hA rfl df_Line (Nat.le_of_ble_eq_true rfl) (Nat.le_of_ble_eq_true rfl) d_Box_init_76 (fun q13 H hP hD hS => ?_)
        have hP : va_P (dC, dI) CL [(a0, .inr (5, [.ref q1, .ref q2, .ref q5, .ref q7, .ref q9, .null, .int u.1])), (q1, .inl (cD, 3, .inr (.inr (.inr (.inl (u.2)))))), (q2, .inr (3, [.ref q3, .ref q4])), (q3, .inl (cI, 8, .inl (w2.1))), (q4, .inl (cI, 8, .inl (w2.2))), (q5, .inr (4, [.ref q6, .int w3.2.1, .double w3.2.2.1, .double w3.2.2.2.1, .int w3.2.2.2.2.1, .int w3.2.2.2.2.2.1, .int w3.2.2.2.2.2.2])), (q6, .inl (cD, 3, .inr (.inr (.inr (.inl (w3.1)))))), (q7, .inr (0, [.ref q8, .int w4.2])), (q8, .inl (cI, 12, .inl (w4.1))), (q9, .inr (1, [.ref q10, .ref q11, .ref q12, .int w5.2.2.2.1, .int w5.2.2.2.2])), (q10, .inl (cL, 72, .inr (.inl (w5.1)))), (q11, .inl (cI, 4, .inl (w5.2.1))), (q12, .inl (cL, 6, .inr (.inl (w5.2.2.1)))), (q13, .inr (2, [.null, .null, .null, .int (0 : Int32), .int (0 : Int32), .int (0 : Int32), .int (0 : Int32)]))] H := hP
        have hD : va_D A [(a0, .inr (5, [.ref q1, .ref q2, .ref q5, .ref q7, .ref q9, .null, .int u.1])), (q1, .inl (cD, 3, .inr (.inr (.inr (.inl (u.2)))))), (q2, .inr (3, [.ref q3, .ref q4])), (q3, .inl (cI, 8, .inl (w2.1))), (q4, .inl (cI, 8, .inl (w2.2))), (q5, .inr (4, [.ref q6, .int w3.2.1, .double w3.2.2.1, .double w3.2.2.2.1, .int w3.2.2.2.2.1, .int w3.2.2.2.2.2.1, .int w3.2.2.2.2.2.2])), (q6, .inl (cD, 3, .inr (.inr (.inr (.inl (w3.1)))))), (q7, .inr (0, [.ref q8, .int w4.2])), (q8, .inl (cI, 12, .inl (w4.1))), (q9, .inr (1, [.ref q10, .ref q11, .ref q12, .int w5.2.2.2.1, .int w5.2.2.2.2])), (q10, .inl (cL, 72, .inr (.inl (w5.1)))), (q11, .inl (cI, 4, .inl (w5.2.1))), (q12, .inl (cL, 6, .inr (.inl (w5.2.2.1)))), (q13, .inr (2, [.null, .null, .null, .int (0 : Int32), .int (0 : Int32), .int (0 : Int32), .int (0 : Int32)]))] := hD
        refine lv_dup hx hb d_Box_init_79 rfl ?_
        obtain ⟨w6, hc, hf⟩ := cv_t hf
        have hPc := hP.sub (ws' := [(q13, .inr (2, [.null, .null, .null, .int (0 : Int32), .int (0 : Int32), .int (0 : Int32), .int (0 : Int32)]))]) [13] rfl
        have hDc := hD.sub (ws' := [(q13, .inr (2, [.null, .null, .null, .int (0 : Int32), .int (0 : Int32), .int (0 : Int32), .int (0 : Int32)]))]) [13] (by decide) rfl
        have hFc := va_free (wc := [(q13, .inr (2, [.null, .null, .null, .int (0 : Int32), .int (0 : Int32), .int (0 : Int32), .int (0 : Int32)]))]) hD hS hA [13] rfl
        refine va_callv (va_runIN (As := []) (rest := [.ref q13, .ref a0]) ⟨hx, hb, hml, hown, hts⟩ (c_Line_init l dC dI cI cL cD q13 H.size w6 hc) ⟨va_cnB 0 hts (gC t_170) rfl rfl rfl (hN _ n_12) (hts _ t_44) (by decide +kernel) ⟨(Nat.le_of_ble_eq_true rfl), (Nat.le_of_ble_eq_true rfl)⟩, rfl, hts _ t_169⟩ ⟨fun a U g mk q => by obtain ⟨q0, q1, qP, qK, qD, qN⟩ := q; exact ⟨q0, q1, qP, va_K.moved (u := U) (U := U.calling g mk a) (Vm.Alike.refl U.vm) qK, qD, NWs.same (u := U) (U := U.calling g mk a) rfl qN⟩, fun U hU hW => ⟨rfl, by rw [hU], by rw [hU]; exact hPc, va_K.moved hW.alike hK, hDc.weaken (fun _ _ _ _ => trivial), hN.warm hW⟩⟩ rfl rfl hl.1 rfl (lv_room (Nat.le_of_ble_eq_true rfl)) d_Box_init_80 ⟨(Nat.le_of_ble_eq_true rfl), (Nat.le_of_ble_eq_true rfl)⟩) hS (fun q _ h => hFc q h) hFc (fun wZ t H1 locs ht hvm hw hB hz1 hk1 hS => ?_)
        replace hw : w6 = wZ := hw.symm
        subst hw
        obtain ⟨q14, q15, q16, hP1, hK1, hD1⟩ := hB
        rw [ht] at hP1
        obtain ⟨hP, hD⟩ := va_join (wr := [(a0, .inr (5, [.ref q1, .ref q2, .ref q5, .ref q7, .ref q9, .null, .int u.1])), (q1, .inl (cD, 3, .inr (.inr (.inr (.inl (u.2)))))), (q2, .inr (3, [.ref q3, .ref q4])), (q3, .inl (cI, 8, .inl (w2.1))), (q4, .inl (cI, 8, .inl (w2.2))), (q5, .inr (4, [.ref q6, .int w3.2.1, .double w3.2.2.1, .double w3.2.2.2.1, .int w3.2.2.2.2.1, .int w3.2.2.2.2.2.1, .int w3.2.2.2.2.2.2])), (q6, .inl (cD, 3, .inr (.inr (.inr (.inl (w3.1)))))), (q7, .inr (0, [.ref q8, .int w4.2])), (q8, .inl (cI, 12, .inl (w4.1))), (q9, .inr (1, [.ref q10, .ref q11, .ref q12, .int w5.2.2.2.1, .int w5.2.2.2.2])), (q10, .inl (cL, 72, .inr (.inl (w5.1)))), (q11, .inl (cI, 4, .inl (w5.2.1))), (q12, .inl (cL, 6, .inr (.inl (w5.2.2.1))))]) (w1 := [(q13, .inr (2, [.ref q14, .ref q15, .ref q16, .int w6.2.2.2.1, .int w6.2.2.2.2.1, .int w6.2.2.2.2.2.1, .int w6.2.2.2.2.2.2])), (q14, .inl (cI, 12, .inl (w6.1))), (q15, .inl (cI, 11, .inl (w6.2.1))), (q16, .inl (cI, 24, .inl (w6.2.2.1)))]) hP hD [13] [0, 1, 2, 3, 4, 5, 6, 7, 8, 9, 10, 11, 12] rfl rfl (by decide) (by decide) hk1 hFc hP1 hD1
        generalize H1 = H at hP hS ⊢
        have hP : va_P (dC, dI) CL [(a0, .inr (5, [.ref q1, .ref q2, .ref q5, .ref q7, .ref q9, .null, .int u.1])), (q1, .inl (cD, 3, .inr (.inr (.inr (.inl (u.2)))))), (q2, .inr (3, [.ref q3, .ref q4])), (q3, .inl (cI, 8, .inl (w2.1))), (q4, .inl (cI, 8, .inl (w2.2))), (q5, .inr (4, [.ref q6, .int w3.2.1, .double w3.2.2.1, .double w3.2.2.2.1, .int w3.2.2.2.2.1, .int w3.2.2.2.2.2.1, .int w3.2.2.2.2.2.2])), (q6, .inl (cD, 3, .inr (.inr (.inr (.inl (w3.1)))))), (q7, .inr (0, [.ref q8, .int w4.2])), (q8, .inl (cI, 12, .inl (w4.1))), (q9, .inr (1, [.ref q10, .ref q11, .ref q12, .int w5.2.2.2.1, .int w5.2.2.2.2])), (q10, .inl (cL, 72, .inr (.inl (w5.1)))), (q11, .inl (cI, 4, .inl (w5.2.1))), (q12, .inl (cL, 6, .inr (.inl (w5.2.2.1)))), (q13, .inr (2, [.ref q14, .ref q15, .ref q16, .int w6.2.2.2.1, .int w6.2.2.2.2.1, .int w6.2.2.2.2.2.1, .int w6.2.2.2.2.2.2])), (q14, .inl (cI, 12, .inl (w6.1))), (q15, .inl (cI, 11, .inl (w6.2.1))), (q16, .inl (cI, 24, .inl (w6.2.2.1)))] H := hP
        have hD : va_D A [(a0, .inr (5, [.ref q1, .ref q2, .ref q5, .ref q7, .ref q9, .null, .int u.1])), (q1, .inl (cD, 3, .inr (.inr (.inr (.inl (u.2)))))), (q2, .inr (3, [.ref q3, .ref q4])), (q3, .inl (cI, 8, .inl (w2.1))), (q4, .inl (cI, 8, .inl (w2.2))), (q5, .inr (4, [.ref q6, .int w3.2.1, .double w3.2.2.1, .double w3.2.2.2.1, .int w3.2.2.2.2.1, .int w3.2.2.2.2.2.1, .int w3.2.2.2.2.2.2])), (q6, .inl (cD, 3, .inr (.inr (.inr (.inl (w3.1)))))), (q7, .inr (0, [.ref q8, .int w4.2])), (q8, .inl (cI, 12, .inl (w4.1))), (q9, .inr (1, [.ref q10, .ref q11, .ref q12, .int w5.2.2.2.1, .int w5.2.2.2.2])), (q10, .inl (cL, 72, .inr (.inl (w5.1)))), (q11, .inl (cI, 4, .inl (w5.2.1))), (q12, .inl (cL, 6, .inr (.inl (w5.2.2.1)))), (q13, .inr (2, [.ref q14, .ref q15, .ref q16, .int w6.2.2.2.1, .int w6.2.2.2.2.1, .int w6.2.2.2.2.2.1, .int w6.2.2.2.2.2.2])), (q14, .inl (cI, 12, .inl (w6.1))), (q15, .inl (cI, 11, .inl (w6.2.1))), (q16, .inl (cI, 24, .inl (w6.2.2.1)))] := hD
        refine va_putF (D := (dC, dI)) (ci := 5) (v := .ref q13) (ty := .object "MeterBox$Line") (C := R_Box) (T := T_Box) (N := 7) hx hb hts in_Box ty_Box ty_Box_ok nm_Box hown hK hP hD hS 0 rfl rfl 5 (by decide) (hts _ t_201) (fun _ h9 => h9) rfl hin rfl (by decide +kernel) rfl rfl (Nat.le_of_ble_eq_true rfl) d_Box_init_83 (fun H locs hP hD hS => ?_)
        have hP : va_P (dC, dI) CL [(a0, .inr (5, [.ref q1, .ref q2, .ref q5, .ref q7, .ref q9, .ref q13, .int u.1])), (q1, .inl (cD, 3, .inr (.inr (.inr (.inl (u.2)))))), (q2, .inr (3, [.ref q3, .ref q4])), (q3, .inl (cI, 8, .inl (w2.1))), (q4, .inl (cI, 8, .inl (w2.2))), (q5, .inr (4, [.ref q6, .int w3.2.1, .double w3.2.2.1, .double w3.2.2.2.1, .int w3.2.2.2.2.1, .int w3.2.2.2.2.2.1, .int w3.2.2.2.2.2.2])), (q6, .inl (cD, 3, .inr (.inr (.inr (.inl (w3.1)))))), (q7, .inr (0, [.ref q8, .int w4.2])), (q8, .inl (cI, 12, .inl (w4.1))), (q9, .inr (1, [.ref q10, .ref q11, .ref q12, .int w5.2.2.2.1, .int w5.2.2.2.2])), (q10, .inl (cL, 72, .inr (.inl (w5.1)))), (q11, .inl (cI, 4, .inl (w5.2.1))), (q12, .inl (cL, 6, .inr (.inl (w5.2.2.1)))), (q13, .inr (2, [.ref q14, .ref q15, .ref q16, .int w6.2.2.2.1, .int w6.2.2.2.2.1, .int w6.2.2.2.2.2.1, .int w6.2.2.2.2.2.2])), (q14, .inl (cI, 12, .inl (w6.1))), (q15, .inl (cI, 11, .inl (w6.2.1))), (q16, .inl (cI, 24, .inl (w6.2.2.1)))] H := hP
        have hD : va_D A [(a0, .inr (5, [.ref q1, .ref q2, .ref q5, .ref q7, .ref q9, .ref q13, .int u.1])), (q1, .inl (cD, 3, .inr (.inr (.inr (.inl (u.2)))))), (q2, .inr (3, [.ref q3, .ref q4])), (q3, .inl (cI, 8, .inl (w2.1))), (q4, .inl (cI, 8, .inl (w2.2))), (q5, .inr (4, [.ref q6, .int w3.2.1, .double w3.2.2.1, .double w3.2.2.2.1, .int w3.2.2.2.2.1, .int w3.2.2.2.2.2.1, .int w3.2.2.2.2.2.2])), (q6, .inl (cD, 3, .inr (.inr (.inr (.inl (w3.1)))))), (q7, .inr (0, [.ref q8, .int w4.2])), (q8, .inl (cI, 12, .inl (w4.1))), (q9, .inr (1, [.ref q10, .ref q11, .ref q12, .int w5.2.2.2.1, .int w5.2.2.2.2])), (q10, .inl (cL, 72, .inr (.inl (w5.1)))), (q11, .inl (cI, 4, .inl (w5.2.1))), (q12, .inl (cL, 6, .inr (.inl (w5.2.2.1)))), (q13, .inr (2, [.ref q14, .ref q15, .ref q16, .int w6.2.2.2.1, .int w6.2.2.2.2.1, .int w6.2.2.2.2.2.1, .int w6.2.2.2.2.2.2])), (q14, .inl (cI, 12, .inl (w6.1))), (q15, .inl (cI, 11, .inl (w6.2.1))), (q16, .inl (cI, 24, .inl (w6.2.2.1)))] := hD
        refine lv_aload_n hx hb d_Box_init_86 rfl (lv_at hl 0 rfl) ?_
        refine lv_iconst (v := 1) hx hb d_Box_init_87 (by decide) ?_
        refine va_put (D := (dC, dI)) (ci := 5) (v := .int (1 : Int32)) (ty := .boolean) (C := R_Box) (T := T_Box) (N := 7) hx hb hts in_Box ty_Box ty_Box_ok nm_Box hown hK hP hD hS 0 rfl rfl 6 (by decide) (hts _ t_202) (fun _ h9 => h9) rfl (by decide +kernel) (by decide) (by decide) (Nat.le_of_ble_eq_true rfl) d_Box_init_88 (fun H locs hP hD hS => ?_)
        have hP : va_P (dC, dI) CL [(a0, .inr (5, [.ref q1, .ref q2, .ref q5, .ref q7, .ref q9, .ref q13, .int (1 : Int32)])), (q1, .inl (cD, 3, .inr (.inr (.inr (.inl (u.2)))))), (q2, .inr (3, [.ref q3, .ref q4])), (q3, .inl (cI, 8, .inl (w2.1))), (q4, .inl (cI, 8, .inl (w2.2))), (q5, .inr (4, [.ref q6, .int w3.2.1, .double w3.2.2.1, .double w3.2.2.2.1, .int w3.2.2.2.2.1, .int w3.2.2.2.2.2.1, .int w3.2.2.2.2.2.2])), (q6, .inl (cD, 3, .inr (.inr (.inr (.inl (w3.1)))))), (q7, .inr (0, [.ref q8, .int w4.2])), (q8, .inl (cI, 12, .inl (w4.1))), (q9, .inr (1, [.ref q10, .ref q11, .ref q12, .int w5.2.2.2.1, .int w5.2.2.2.2])), (q10, .inl (cL, 72, .inr (.inl (w5.1)))), (q11, .inl (cI, 4, .inl (w5.2.1))), (q12, .inl (cL, 6, .inr (.inl (w5.2.2.1)))), (q13, .inr (2, [.ref q14, .ref q15, .ref q16, .int w6.2.2.2.1, .int w6.2.2.2.2.1, .int w6.2.2.2.2.2.1, .int w6.2.2.2.2.2.2])), (q14, .inl (cI, 12, .inl (w6.1))), (q15, .inl (cI, 11, .inl (w6.2.1))), (q16, .inl (cI, 24, .inl (w6.2.2.1)))] H := hP
        have hD : va_D A [(a0, .inr (5, [.ref q1, .ref q2, .ref q5, .ref q7, .ref q9, .ref q13, .int (1 : Int32)])), (q1, .inl (cD, 3, .inr (.inr (.inr (.inl (u.2)))))), (q2, .inr (3, [.ref q3, .ref q4])), (q3, .inl (cI, 8, .inl (w2.1))), (q4, .inl (cI, 8, .inl (w2.2))), (q5, .inr (4, [.ref q6, .int w3.2.1, .double w3.2.2.1, .double w3.2.2.2.1, .int w3.2.2.2.2.1, .int w3.2.2.2.2.2.1, .int w3.2.2.2.2.2.2])), (q6, .inl (cD, 3, .inr (.inr (.inr (.inl (w3.1)))))), (q7, .inr (0, [.ref q8, .int w4.2])), (q8, .inl (cI, 12, .inl (w4.1))), (q9, .inr (1, [.ref q10, .ref q11, .ref q12, .int w5.2.2.2.1, .int w5.2.2.2.2])), (q10, .inl (cL, 72, .inr (.inl (w5.1)))), (q11, .inl (cI, 4, .inl (w5.2.1))), (q12, .inl (cL, 6, .inr (.inl (w5.2.2.1)))), (q13, .inr (2, [.ref q14, .ref q15, .ref q16, .int w6.2.2.2.1, .int w6.2.2.2.2.1, .int w6.2.2.2.2.2.1, .int w6.2.2.2.2.2.2])), (q14, .inl (cI, 12, .inl (w6.1))), (q15, .inl (cI, 11, .inl (w6.2.1))), (q16, .inl (cI, 24, .inl (w6.2.2.1)))] := hD
        refine W.widen (k := 16) (n := 186) (Nat.le_of_ble_eq_true rfl) (Nat.le_of_ble_eq_true rfl) ?_
        have hP := hP.sub (ws' := [(a0, .inr (5, [.ref q1, .ref q2, .ref q5, .ref q7, .ref q9, .ref q13, .int (1 : Int32)])), (q1, .inl (cD, 3, .inr (.inr (.inr (.inl (u.2)))))), (q2, .inr (3, [.ref q3, .ref q4])), (q3, .inl (cI, 8, .inl (w2.1))), (q4, .inl (cI, 8, .inl (w2.2))), (q5, .inr (4, [.ref q6, .int w3.2.1, .double w3.2.2.1, .double w3.2.2.2.1, .int w3.2.2.2.2.1, .int w3.2.2.2.2.2.1, .int w3.2.2.2.2.2.2])), (q6, .inl (cD, 3, .inr (.inr (.inr (.inl (w3.1)))))), (q7, .inr (0, [.ref q8, .int w4.2])), (q8, .inl (cI, 12, .inl (w4.1))), (q9, .inr (1, [.ref q10, .ref q11, .ref q12, .int w5.2.2.2.1, .int w5.2.2.2.2])), (q10, .inl (cL, 72, .inr (.inl (w5.1)))), (q11, .inl (cI, 4, .inl (w5.2.1))), (q12, .inl (cL, 6, .inr (.inl (w5.2.2.1)))), (q13, .inr (2, [.ref q14, .ref q15, .ref q16, .int w6.2.2.2.1, .int w6.2.2.2.2.1, .int w6.2.2.2.2.2.1, .int w6.2.2.2.2.2.2])), (q14, .inl (cI, 12, .inl (w6.1))), (q15, .inl (cI, 11, .inl (w6.2.1))), (q16, .inl (cI, 24, .inl (w6.2.2.1)))]) [0, 1, 2, 3, 4, 5, 6, 7, 8, 9, 10, 11, 12, 13, 14, 15, 16] rfl
        have hD := hD.sub (ws' := [(a0, .inr (5, [.ref q1, .ref q2, .ref q5, .ref q7, .ref q9, .ref q13, .int (1 : Int32)])), (q1, .inl (cD, 3, .inr (.inr (.inr (.inl (u.2)))))), (q2, .inr (3, [.ref q3, .ref q4])), (q3, .inl (cI, 8, .inl (w2.1))), (q4, .inl (cI, 8, .inl (w2.2))), (q5, .inr (4, [.ref q6, .int w3.2.1, .double w3.2.2.1, .double w3.2.2.2.1, .int w3.2.2.2.2.1, .int w3.2.2.2.2.2.1, .int w3.2.2.2.2.2.2])), (q6, .inl (cD, 3, .inr (.inr (.inr (.inl (w3.1)))))), (q7, .inr (0, [.ref q8, .int w4.2])), (q8, .inl (cI, 12, .inl (w4.1))), (q9, .inr (1, [.ref q10, .ref q11, .ref q12, .int w5.2.2.2.1, .int w5.2.2.2.2])), (q10, .inl (cL, 72, .inr (.inl (w5.1)))), (q11, .inl (cI, 4, .inl (w5.2.1))), (q12, .inl (cL, 6, .inr (.inl (w5.2.2.1)))), (q13, .inr (2, [.ref q14, .ref q15, .ref q16, .int w6.2.2.2.1, .int w6.2.2.2.2.1, .int w6.2.2.2.2.2.1, .int w6.2.2.2.2.2.2])), (q14, .inl (cI, 12, .inl (w6.1))), (q15, .inl (cI, 11, .inl (w6.2.1))), (q16, .inl (cI, 24, .inl (w6.2.2.1)))]) [0, 1, 2, 3, 4, 5, 6, 7, 8, 9, 10, 11, 12, 13, 14, 15, 16] (by decide) rfl
        have hf := Option.some.inj hf
        rw [hQe]
        exact W.vret hx hb hr (fun t ht hW => ⟨⟨(u.2, w2, w3, w4, w5, w6, (1 : Int32)), rfl, hf, q1, q2, q3, q4, q5, q6, q7, q8, q9, q10, q11, q12, q13, q14, q15, q16, by rw [ht]; exact hP, va_K.moved hW.alike hK, hD⟩, hS.F ht⟩) hS.2.2 d_Box_init_91
      · have hf := ite_f c1 hf
        refine lv_aload_n hx hb d_Box_init_18 rfl (lv_at hl 0 rfl) ?_
        refine va_get (D := (dC, dI)) (ci := 5) (v := .ref q1) (C := R_Box) (T := T_Box) (N := 7) hx hb hts in_Box hown hK hP 0 rfl rfl 0 (by decide) (hts _ t_196) (fun _ h9 => h9) rfl d_Box_init_19 ?_
        refine lv_iload_n hx hb d_Box_init_22 rfl (lv_at hl 1 rfl) ?_
        refine lv_dconst1 hx hb d_Box_init_23 ?_
        obtain ⟨h7, hf⟩ := gi_t hf
        refine va_dast hx hb hK hP hD hS 1 2 rfl rfl h7 d_Box_init_24 (fun H locs hP hD hS => ?_)
        obtain ⟨F8, eF8⟩ : ∃ y : Nat → UInt64, y = vf_upd u.2 v1.toNatClampNeg FP.dconst1 := ⟨_, rfl⟩
        have hf := bd_t eF8 hf
        have hP : va_P (dC, dI) CL [(a0, .inr (5, [.ref q1, .null, .null, .null, .null, .null, .int u.1])), (q1, .inl (cD, 3, .inr (.inr (.inr (.inl (F8))))))] H := by rw [eF8]; exact hP
        have hD : va_D A [(a0, .inr (5, [.ref q1, .null, .null, .null, .null, .null, .int u.1])), (q1, .inl (cD, 3, .inr (.inr (.inr (.inl (F8))))))] := by rw [eF8]; exact hD
        obtain ⟨x9, ex9⟩ : ∃ y : Int32, y = v1 + (1 : Int32) := ⟨_, rfl⟩
        have hf := bd_t ex9 hf
        refine lv_iinc (v := x9) (lv' := [(1, .int x9), (0, .ref a0)]) hx hb d_Box_init_25 hl (k := 1) rfl (by rw [ex9]; rfl) (by decide) rfl (fun ls hl => ?_)
        refine lv_goto (tgt := 13) hx hb d_Box_init_28 (by decide) ?_
        have hl := lv_sub hl (l' := [(0, .ref a0), (1, .int x9)]) [1, 0] rfl
        exact k_13 x9 (u.1, F8) hf _ _ hP hD hS ls hl
  exact k_13 100 (0 : Int32) ((0 : Int32), fun _ => (0 : UInt64)) hf _ _ hP hD hS ls hl
def f_Mod_init_143 : Nat → Int32 → (Int32 × Int32 × Int32 × UInt64 × UInt64 × Int32 × Int32 × Int32 × Int32 × Int32 × Int32 × Int32 × Int32 × Int32 × Int32 × Int32 × (Nat → UInt64) × (Nat → UInt64) × (Nat → Int32) × (Nat → Int32) × (Nat → Int32) × (Nat → Int64) × (Nat → Int32) × (Nat → Int32) × (Nat → Int32)) → Option S_Mod
  | 0, _, _ => none
  | n + 1, v1, u => (if (72 : Int32) ≤ v1 then some (u.1, u.2.1, u.2.2.1, u.2.2.2.1, u.2.2.2.2.2.2.2.2.2.2.2.2.2.2.2.2.1, u.2.2.2.2.1, u.2.2.2.2.2.1, u.2.2.2.2.2.2.1, u.2.2.2.2.2.2.2.1, u.2.2.2.2.2.2.2.2.2.2.2.2.2.2.2.2.2.1, u.2.2.2.2.2.2.2.2.2.2.2.2.2.2.2.2.2.2.1, u.2.2.2.2.2.2.2.2.2.2.2.2.2.2.2.2.2.2.2.1, u.2.2.2.2.2.2.2.2.2.2.2.2.2.2.2.2.2.2.2.2.1, u.2.2.2.2.2.2.2.2.1, u.2.2.2.2.2.2.2.2.2.2.2.2.2.2.2.2.2.2.2.2.2.1, u.2.2.2.2.2.2.2.2.2.2.2.2.2.2.2.2.2.2.2.2.2.2.1, u.2.2.2.2.2.2.2.2.2.1, u.2.2.2.2.2.2.2.2.2.2.1, u.2.2.2.2.2.2.2.2.2.2.2.1, u.2.2.2.2.2.2.2.2.2.2.2.2.1, u.2.2.2.2.2.2.2.2.2.2.2.2.2.1, u.2.2.2.2.2.2.2.2.2.2.2.2.2.2.2.2.2.2.2.2.2.2.2.1, u.2.2.2.2.2.2.2.2.2.2.2.2.2.2.1, u.2.2.2.2.2.2.2.2.2.2.2.2.2.2.2.2.2.2.2.2.2.2.2.2, u.2.2.2.2.2.2.2.2.2.2.2.2.2.2.2.1) else gi v1 72 (bd (vp_updL u.2.2.2.2.2.2.2.2.2.2.2.2.2.2.2.2.2.2.2.2.2.1 v1.toNatClampNeg (-1 : Int64)) (fun F25 : Nat → Int64 => bd (v1 + (1 : Int32)) (fun x26 : Int32 => (f_Mod_init_143 n) x26 (u.1, u.2.1, u.2.2.1, u.2.2.2.1, u.2.2.2.2.1, u.2.2.2.2.2.1, u.2.2.2.2.2.2.1, u.2.2.2.2.2.2.2.1, u.2.2.2.2.2.2.2.2.1, u.2.2.2.2.2.2.2.2.2.1, u.2.2.2.2.2.2.2.2.2.2.1, u.2.2.2.2.2.2.2.2.2.2.2.1, u.2.2.2.2.2.2.2.2.2.2.2.2.1, u.2.2.2.2.2.2.2.2.2.2.2.2.2.1, u.2.2.2.2.2.2.2.2.2.2.2.2.2.2.1, u.2.2.2.2.2.2.2.2.2.2.2.2.2.2.2.1, u.2.2.2.2.2.2.2.2.2.2.2.2.2.2.2.2.1, u.2.2.2.2.2.2.2.2.2.2.2.2.2.2.2.2.2.1, u.2.2.2.2.2.2.2.2.2.2.2.2.2.2.2.2.2.2.1, u.2.2.2.2.2.2.2.2.2.2.2.2.2.2.2.2.2.2.2.1, u.2.2.2.2.2.2.2.2.2.2.2.2.2.2.2.2.2.2.2.2.1, F25, u.2.2.2.2.2.2.2.2.2.2.2.2.2.2.2.2.2.2.2.2.2.2.1, u.2.2.2.2.2.2.2.2.2.2.2.2.2.2.2.2.2.2.2.2.2.2.2.1, u.2.2.2.2.2.2.2.2.2.2.2.2.2.2.2.2.2.2.2.2.2.2.2.2)))))
def f_Mod_init : Option S_Mod := gi (0 : Int32) 3 (bd (vf_upd (fun _ => (0 : UInt64)) (0 : Int32).toNatClampNeg FP.dconst1) (fun F2 : Nat → UInt64 => gi (1 : Int32) 3 (bd (vf_upd F2 (1 : Int32).toNatClampNeg FP.dconst1) (fun F4 : Nat → UInt64 => gi (2 : Int32) 3 (bd (vf_upd F4 (2 : Int32).toNatClampNeg FP.dconst1) (fun F6 : Nat → UInt64 => gi (0 : Int32) 8 (bd (upd (fun _ => (0 : Int32)) (0 : Int32).toNatClampNeg (-1 : Int32)) (fun F8 : Nat → Int32 => gi (1 : Int32) 8 (bd (upd F8 (1 : Int32).toNatClampNeg (-1 : Int32)) (fun F10 : Nat → Int32 => gi (2 : Int32) 8 (bd (upd F10 (2 : Int32).toNatClampNeg (-1 : Int32)) (fun F12 : Nat → Int32 => gi (3 : Int32) 8 (bd (upd F12 (3 : Int32).toNatClampNeg (-1 : Int32)) (fun F14 : Nat → Int32 => gi (4 : Int32) 8 (bd (upd F14 (4 : Int32).toNatClampNeg (-1 : Int32)) (fun F16 : Nat → Int32 => gi (5 : Int32) 8 (bd (upd F16 (5 : Int32).toNatClampNeg (-1 : Int32)) (fun F18 : Nat → Int32 => gi (6 : Int32) 8 (bd (upd F18 (6 : Int32).toNatClampNeg (-1 : Int32)) (fun F20 : Nat → Int32 => gi (7 : Int32) 8 (bd (upd F20 (7 : Int32).toNatClampNeg (-1 : Int32)) (fun F22 : Nat → Int32 => f_Mod_init_143 100 (0 : Int32) ((0 : Int32), (1 : Int32), (0 : Int32), (4617315517961601024 : UInt64), (0 : UInt64), (0 : Int32), (0 : Int32), (0 : Int32), (0 : Int32), (-1 : Int32), (-1 : Int32), (0 : Int32), (0 : Int32), (0 : Int32), (0 : Int32), (0 : Int32), fun _ => (0 : UInt64), F6, fun _ => (0 : Int32), F22, fun _ => (0 : Int32), fun _ => (0 : Int64), fun _ => (0 : Int32), fun _ => (0 : Int32), fun _ => (0 : Int32))))))))))))))))))))))))
set_option maxHeartbeats 4000000 in
set_option maxRecDepth 100000 in
theorem c_Mod_init (l : Launch) (dC : Nat → ClassId) (dI : Nat → Nat → Nat) (cI cL cD : ClassId) (a0 : Nat) (sz : Nat) (res : S_Mod) (hf : f_Mod_init = some res) : Met l y_Mod_init w_Mod_init ({ frames := 1, cells := 9, slots := 154, locals := 12 }) (va_Pc [.ref a0] (fun U => U.heap.size = sz ∧ va_P (dC, dI) CL [(a0, .inr (6, [.int (0 : Int32), .int (0 : Int32), .int (0 : Int32), .double (0 : UInt64), .null, .double (0 : UInt64), .int (0 : Int32), .int (0 : Int32), .int (0 : Int32), .null, .null, .null, .null, .int (0 : Int32), .null, .null, .int (0 : Int32), .int (0 : Int32), .int (0 : Int32), .int (0 : Int32), .int (0 : Int32), .null, .int (0 : Int32), .null, .int (0 : Int32)]))] U.heap ∧ va_K (dC, dI) CL [(cI, .int), (cL, .long), (cD, .double)] U ∧ va_D (fun _ => True) [(a0, .inr (6, [.int (0 : Int32), .int (0 : Int32), .int (0 : Int32), .double (0 : UInt64), .null, .double (0 : UInt64), .int (0 : Int32), .int (0 : Int32), .int (0 : Int32), .null, .null, .null, .null, .int (0 : Int32), .null, .null, .int (0 : Int32), .int (0 : Int32), .int (0 : Int32), .int (0 : Int32), .int (0 : Int32), .null, .int (0 : Int32), .null, .int (0 : Int32)]))] ∧ NWs U)) (va_Qv (fun (w : S_Mod) => w = res) (fun (w : S_Mod) t => ∃ (b1 b2 b3 b4 b5 b6 b7 b8 b9 : Nat), va_P (dC, dI) CL [(a0, .inr (6, [.int w.1, .int w.2.1, .int w.2.2.1, .double w.2.2.2.1, .ref b1, .double w.2.2.2.2.2.1, .int w.2.2.2.2.2.2.1, .int w.2.2.2.2.2.2.2.1, .int w.2.2.2.2.2.2.2.2.1, .ref b2, .ref b3, .ref b4, .ref b5, .int w.2.2.2.2.2.2.2.2.2.2.2.2.2.1, .ref b6, .ref b7, .int w.2.2.2.2.2.2.2.2.2.2.2.2.2.2.2.2.1, .int w.2.2.2.2.2.2.2.2.2.2.2.2.2.2.2.2.2.1, .int w.2.2.2.2.2.2.2.2.2.2.2.2.2.2.2.2.2.2.1, .int w.2.2.2.2.2.2.2.2.2.2.2.2.2.2.2.2.2.2.2.1, .int w.2.2.2.2.2.2.2.2.2.2.2.2.2.2.2.2.2.2.2.2.1, .ref b8, .int w.2.2.2.2.2.2.2.2.2.2.2.2.2.2.2.2.2.2.2.2.2.2.1, .ref b9, .int w.2.2.2.2.2.2.2.2.2.2.2.2.2.2.2.2.2.2.2.2.2.2.2.2])), (b1, .inl (cD, 3, .inr (.inr (.inr (.inl (w.2.2.2.2.1)))))), (b2, .inl (cD, 3, .inr (.inr (.inr (.inl (w.2.2.2.2.2.2.2.2.2.1)))))), (b3, .inl (cI, 8, .inl (w.2.2.2.2.2.2.2.2.2.2.1))), (b4, .inl (cI, 8, .inl (w.2.2.2.2.2.2.2.2.2.2.2.1))), (b5, .inl (cI, 12, .inl (w.2.2.2.2.2.2.2.2.2.2.2.2.1))), (b6, .inl (cL, 72, .inr (.inl (w.2.2.2.2.2.2.2.2.2.2.2.2.2.2.1)))), (b7, .inl (cI, 4, .inl (w.2.2.2.2.2.2.2.2.2.2.2.2.2.2.2.1))), (b8, .inl (cI, 14, .inl (w.2.2.2.2.2.2.2.2.2.2.2.2.2.2.2.2.2.2.2.2.2.1))), (b9, .inl (cI, 30, .inl (w.2.2.2.2.2.2.2.2.2.2.2.2.2.2.2.2.2.2.2.2.2.2.2.1)))] t.heap ∧ va_K (dC, dI) CL [(cI, .int), (cL, .long), (cD, .double)] t ∧ va_D (va_A [(a0, .inr (6, [.int (0 : Int32), .int (0 : Int32), .int (0 : Int32), .double (0 : UInt64), .null, .double (0 : UInt64), .int (0 : Int32), .int (0 : Int32), .int (0 : Int32), .null, .null, .null, .null, .int (0 : Int32), .null, .null, .int (0 : Int32), .int (0 : Int32), .int (0 : Int32), .int (0 : Int32), .int (0 : Int32), .null, .int (0 : Int32), .null, .int (0 : Int32)]))] sz) [(a0, .inr (6, [.int w.1, .int w.2.1, .int w.2.2.1, .double w.2.2.2.1, .ref b1, .double w.2.2.2.2.2.1, .int w.2.2.2.2.2.2.1, .int w.2.2.2.2.2.2.2.1, .int w.2.2.2.2.2.2.2.2.1, .ref b2, .ref b3, .ref b4, .ref b5, .int w.2.2.2.2.2.2.2.2.2.2.2.2.2.1, .ref b6, .ref b7, .int w.2.2.2.2.2.2.2.2.2.2.2.2.2.2.2.2.1, .int w.2.2.2.2.2.2.2.2.2.2.2.2.2.2.2.2.2.1, .int w.2.2.2.2.2.2.2.2.2.2.2.2.2.2.2.2.2.2.1, .int w.2.2.2.2.2.2.2.2.2.2.2.2.2.2.2.2.2.2.2.1, .int w.2.2.2.2.2.2.2.2.2.2.2.2.2.2.2.2.2.2.2.2.1, .ref b8, .int w.2.2.2.2.2.2.2.2.2.2.2.2.2.2.2.2.2.2.2.2.2.2.1, .ref b9, .int w.2.2.2.2.2.2.2.2.2.2.2.2.2.2.2.2.2.2.2.2.2.2.2.2])), (b1, .inl (cD, 3, .inr (.inr (.inr (.inl (w.2.2.2.2.1)))))), (b2, .inl (cD, 3, .inr (.inr (.inr (.inl (w.2.2.2.2.2.2.2.2.2.1)))))), (b3, .inl (cI, 8, .inl (w.2.2.2.2.2.2.2.2.2.2.1))), (b4, .inl (cI, 8, .inl (w.2.2.2.2.2.2.2.2.2.2.2.1))), (b5, .inl (cI, 12, .inl (w.2.2.2.2.2.2.2.2.2.2.2.2.1))), (b6, .inl (cL, 72, .inr (.inl (w.2.2.2.2.2.2.2.2.2.2.2.2.2.2.1)))), (b7, .inl (cI, 4, .inl (w.2.2.2.2.2.2.2.2.2.2.2.2.2.2.2.1))), (b8, .inl (cI, 14, .inl (w.2.2.2.2.2.2.2.2.2.2.2.2.2.2.2.2.2.2.2.2.2.1))), (b9, .inl (cI, 30, .inl (w.2.2.2.2.2.2.2.2.2.2.2.2.2.2.2.2.2.2.2.2.2.2.2.1)))]) (va_A [(a0, .inr (6, [.int (0 : Int32), .int (0 : Int32), .int (0 : Int32), .double (0 : UInt64), .null, .double (0 : UInt64), .int (0 : Int32), .int (0 : Int32), .int (0 : Int32), .null, .null, .null, .null, .int (0 : Int32), .null, .null, .int (0 : Int32), .int (0 : Int32), .int (0 : Int32), .int (0 : Int32), .int (0 : Int32), .null, .int (0 : Int32), .null, .int (0 : Int32)]))] sz)) 9 154 (va_A [(a0, .inr (6, [.int (0 : Int32), .int (0 : Int32), .int (0 : Int32), .double (0 : UInt64), .null, .double (0 : UInt64), .int (0 : Int32), .int (0 : Int32), .int (0 : Int32), .null, .null, .null, .null, .int (0 : Int32), .null, .null, .int (0 : Int32), .int (0 : Int32), .int (0 : Int32), .int (0 : Int32), .int (0 : Int32), .null, .int (0 : Int32), .null, .int (0 : Int32)]))] sz) := by
  refine Met.ofW (cc := b_Mod_init) (maxL := 2) (ret := none) (by decide) rfl ?_
  intro p e s m args below meth c s₁ B hml hv
  obtain ⟨rfl, hsz, hP, hK, hD0, hN⟩ := hv
  have hx := B.exec
  have hb := B.bytes
  have hr := B.returns
  have hts : ∀ w ∈ TB, w.before _ s = true := fun w h => atoms_spec (ws := w_Mod_init) B.pre w (List.mem_cons_of_mem _ h)
  have hown : s.vm.findClass R_Mod = some m.cls := findClass_of_methodNamed B.named
  have hlocks := B.notSynchronized
  have hin : meth.name = "<init>" := (name_of_methodNamed B.named B.method).1
  subst hsz
  have hD := hD0.self (sz := s.heap.size)
  generalize hAe : va_A [(a0, .inr (6, [.int (0 : Int32), .int (0 : Int32), .int (0 : Int32), .double (0 : UInt64), .null, .double (0 : UInt64), .int (0 : Int32), .int (0 : Int32), .int (0 : Int32), .null, .null, .null, .null, .int (0 : Int32), .null, .null, .int (0 : Int32), .int (0 : Int32), .int (0 : Int32), .int (0 : Int32), .int (0 : Int32), .null, .int (0 : Int32), .null, .int (0 : Int32)]))] s.heap.size = A at hD ⊢
  have hA : ∀ q : Nat, s.heap.size ≤ q → A q := fun q h => by rw [← hAe]; exact Or.inr h
  have hS : va_S A s.heap s.heap [] := va_S.rf
  have hl := lv_entry ([.ref a0]) (n := 2) (Nat.le_of_ble_eq_true rfl)
  rw [lg_entry_eq]
  generalize (lg_sl ([.ref a0]) ++ List.replicate (2 - (lg_sl ([.ref a0])).length) Slot.unset).toArray = ls at hl ⊢
  have hl : lv_has ls 2 [(0, .ref a0)] := hl
  refine nameQ (fun Q hQe => ?_)
  rw [f_Mod_init] at hf
  refine lv_aload_n hx hb d_Mod_init_0 rfl (lv_at hl 0 rfl) ?_
  refine W.objInit hx hb hown (hts _ t_696) (hts _ t_62) (hts _ t_63) rfl (by rw [hml]; exact hl.1) rfl d_Mod_init_1 (Nat.le_of_ble_eq_true rfl) (Nat.le_of_ble_eq_true rfl) ?_
  refine W.eq (g2 := F0 m 4 ls []) rfl ?_
  refine lv_aload_n hx hb d_Mod_init_4 rfl (lv_at hl 0 rfl) ?_
  refine lv_iconst (v := 1) hx hb d_Mod_init_5 (by decide) ?_
  refine va_put (D := (dC, dI)) (ci := 6) (v := .int (1 : Int32)) (ty := .boolean) (C := R_Mod) (T := T_Mod) (N := 25) hx hb hts in_Mod ty_Mod ty_Mod_ok nm_Mod hown hK hP hD hS 0 rfl rfl 1 (by decide) (hts _ t_700) (fun _ h9 => h9) rfl (by decide +kernel) (by decide) (by decide) (Nat.le_of_ble_eq_true rfl) d_Mod_init_6 (fun H locs hP hD hS => ?_)
  have hP : va_P (dC, dI) CL [(a0, .inr (6, [.int (0 : Int32), .int (1 : Int32), .int (0 : Int32), .double (0 : UInt64), .null, .double (0 : UInt64), .int (0 : Int32), .int (0 : Int32), .int (0 : Int32), .null, .null, .null, .null, .int (0 : Int32), .null, .null, .int (0 : Int32), .int (0 : Int32), .int (0 : Int32), .int (0 : Int32), .int (0 : Int32), .null, .int (0 : Int32), .null, .int (0 : Int32)]))] H := hP
  have hD : va_D A [(a0, .inr (6, [.int (0 : Int32), .int (1 : Int32), .int (0 : Int32), .double (0 : UInt64), .null, .double (0 : UInt64), .int (0 : Int32), .int (0 : Int32), .int (0 : Int32), .null, .null, .null, .null, .int (0 : Int32), .null, .null, .int (0 : Int32), .int (0 : Int32), .int (0 : Int32), .int (0 : Int32), .int (0 : Int32), .null, .int (0 : Int32), .null, .int (0 : Int32)]))] := hD
  refine lv_aload_n hx hb d_Mod_init_9 rfl (lv_at hl 0 rfl) ?_
  refine lv_ldc2d (v := 4617315517961601024) hx hb hown (hts _ t_697) d_Mod_init_10 ?_
  refine va_put (D := (dC, dI)) (ci := 6) (v := .double (4617315517961601024 : UInt64)) (ty := .double) (C := R_Mod) (T := T_Mod) (N := 25) hx hb hts in_Mod ty_Mod ty_Mod_ok nm_Mod hown hK hP hD hS 0 rfl rfl 3 (by decide) (hts _ t_702) (fun _ h9 => h9) rfl (by decide +kernel) rfl rfl (Nat.le_of_ble_eq_true rfl) d_Mod_init_13 (fun H locs hP hD hS => ?_)
  have hP : va_P (dC, dI) CL [(a0, .inr (6, [.int (0 : Int32), .int (1 : Int32), .int (0 : Int32), .double (4617315517961601024 : UInt64), .null, .double (0 : UInt64), .int (0 : Int32), .int (0 : Int32), .int (0 : Int32), .null, .null, .null, .null, .int (0 : Int32), .null, .null, .int (0 : Int32), .int (0 : Int32), .int (0 : Int32), .int (0 : Int32), .int (0 : Int32), .null, .int (0 : Int32), .null, .int (0 : Int32)]))] H := hP
  have hD : va_D A [(a0, .inr (6, [.int (0 : Int32), .int (1 : Int32), .int (0 : Int32), .double (4617315517961601024 : UInt64), .null, .double (0 : UInt64), .int (0 : Int32), .int (0 : Int32), .int (0 : Int32), .null, .null, .null, .null, .int (0 : Int32), .null, .null, .int (0 : Int32), .int (0 : Int32), .int (0 : Int32), .int (0 : Int32), .int (0 : Int32), .null, .int (0 : Int32), .null, .int (0 : Int32)]))] := hD
  refine lv_aload_n hx hb d_Mod_init_16 rfl (lv_at hl 0 rfl) ?_
  refine lv_iconst (v := 3) hx hb d_Mod_init_17 (by decide) ?_
  refine va_newa (atype := .double) (ty := .double) (N' := 3) (a0 := (3, .inr (.inr (.inr (.inl (fun _ => (0 : UInt64))))))) hx hb (hts _ t_80) rfl hK hP hD hS hA (fun _ => rfl) (by decide) (by decide) (by decide) (Nat.le_of_ble_eq_true rfl) (Nat.le_of_ble_eq_true rfl) d_Mod_init_18 (fun q1 cN H hKn hP hD hS => ?_)
  have eN := (cA_D hKn).symm
  subst eN
  clear hKn
  have hP : va_P (dC, dI) CL [(a0, .inr (6, [.int (0 : Int32), .int (1 : Int32), .int (0 : Int32), .double (4617315517961601024 : UInt64), .null, .double (0 : UInt64), .int (0 : Int32), .int (0 : Int32), .int (0 : Int32), .null, .null, .null, .null, .int (0 : Int32), .null, .null, .int (0 : Int32), .int (0 : Int32), .int (0 : Int32), .int (0 : Int32), .int (0 : Int32), .null, .int (0 : Int32), .null, .int (0 : Int32)])), (q1, .inl (cD, 3, .inr (.inr (.inr (.inl (fun _ => (0 : UInt64)))))))] H := hP
  have hD : va_D A [(a0, .inr (6, [.int (0 : Int32), .int (1 : Int32), .int (0 : Int32), .double (4617315517961601024 : UInt64), .null, .double (0 : UInt64), .int (0 : Int32), .int (0 : Int32), .int (0 : Int32), .null, .null, .null, .null, .int (0 : Int32), .null, .null, .int (0 : Int32), .int (0 : Int32), .int (0 : Int32), .int (0 : Int32), .int (0 : Int32), .null, .int (0 : Int32), .null, .int (0 : Int32)])), (q1, .inl (cD, 3, .inr (.inr (.inr (.inl (fun _ => (0 : UInt64)))))))] := hD
  refine va_putF (D := (dC, dI)) (ci := 6) (v := .ref q1) (ty := .array .double) (C := R_Mod) (T := T_Mod) (N := 25) hx hb hts in_Mod ty_Mod ty_Mod_ok nm_Mod hown hK hP hD hS 0 rfl rfl 4 (by decide) (hts _ t_703) (fun _ h9 => h9) rfl hin rfl (by decide +kernel) rfl rfl (Nat.le_of_ble_eq_true rfl) d_Mod_init_20 (fun H locs hP hD hS => ?_)
  have hP : va_P (dC, dI) CL [(a0, .inr (6, [.int (0 : Int32), .int (1 : Int32), .int (0 : Int32), .double (4617315517961601024 : UInt64), .ref q1, .double (0 : UInt64), .int (0 : Int32), .int (0 : Int32), .int (0 : Int32), .null, .null, .null, .null, .int (0 : Int32), .null, .null, .int (0 : Int32), .int (0 : Int32), .int (0 : Int32), .int (0 : Int32), .int (0 : Int32), .null, .int (0 : Int32), .null, .int (0 : Int32)])), (q1, .inl (cD, 3, .inr (.inr (.inr (.inl (fun _ => (0 : UInt64)))))))] H := hP
  have hD : va_D A [(a0, .inr (6, [.int (0 : Int32), .int (1 : Int32), .int (0 : Int32), .double (4617315517961601024 : UInt64), .ref q1, .double (0 : UInt64), .int (0 : Int32), .int (0 : Int32), .int (0 : Int32), .null, .null, .null, .null, .int (0 : Int32), .null, .null, .int (0 : Int32), .int (0 : Int32), .int (0 : Int32), .int (0 : Int32), .int (0 : Int32), .null, .int (0 : Int32), .null, .int (0 : Int32)])), (q1, .inl (cD, 3, .inr (.inr (.inr (.inl (fun _ => (0 : UInt64)))))))] := hD
  refine lv_aload_n hx hb d_Mod_init_23 rfl (lv_at hl 0 rfl) ?_
  refine lv_iconst (v := 3) hx hb d_Mod_init_24 (by decide) ?_
  refine va_newa (atype := .double) (ty := .double) (N' := 3) (a0 := (3, .inr (.inr (.inr (.inl (fun _ => (0 : UInt64))))))) hx hb (hts _ t_80) rfl hK hP hD hS hA (fun _ => rfl) (by decide) (by decide) (by decide) (Nat.le_of_ble_eq_true rfl) (Nat.le_of_ble_eq_true rfl) d_Mod_init_25 (fun q2 cN H hKn hP hD hS => ?_)
  have eN := (cA_D hKn).symm
  subst eN
  clear hKn
  have hP : va_P (dC, dI) CL [(a0, .inr (6, [.int (0 : Int32), .int (1 : Int32), .int (0 : Int32), .double (4617315517961601024 : UInt64), .ref q1, .double (0 : UInt64), .int (0 : Int32), .int (0 : Int32), .int (0 : Int32), .null, .null, .null, .null, .int (0 : Int32), .null, .null, .int (0 : Int32), .int (0 : Int32), .int (0 : Int32), .int (0 : Int32), .int (0 : Int32), .null, .int (0 : Int32), .null, .int (0 : Int32)])), (q1, .inl (cD, 3, .inr (.inr (.inr (.inl (fun _ => (0 : UInt64))))))), (q2, .inl (cD, 3, .inr (.inr (.inr (.inl (fun _ => (0 : UInt64)))))))] H := hP
  have hD : va_D A [(a0, .inr (6, [.int (0 : Int32), .int (1 : Int32), .int (0 : Int32), .double (4617315517961601024 : UInt64), .ref q1, .double (0 : UInt64), .int (0 : Int32), .int (0 : Int32), .int (0 : Int32), .null, .null, .null, .null, .int (0 : Int32), .null, .null, .int (0 : Int32), .int (0 : Int32), .int (0 : Int32), .int (0 : Int32), .int (0 : Int32), .null, .int (0 : Int32), .null, .int (0 : Int32)])), (q1, .inl (cD, 3, .inr (.inr (.inr (.inl (fun _ => (0 : UInt64))))))), (q2, .inl (cD, 3, .inr (.inr (.inr (.inl (fun _ => (0 : UInt64)))))))] := hD
  refine lv_dup hx hb d_Mod_init_27 rfl ?_
  refine lv_iconst (v := 0) hx hb d_Mod_init_28 (by decide) ?_
  refine lv_dconst1 hx hb d_Mod_init_29 ?_
  obtain ⟨h1, hf⟩ := gi_t hf
  refine va_dast hx hb hK hP hD hS 2 2 rfl rfl h1 d_Mod_init_30 (fun H locs hP hD hS => ?_)
  obtain ⟨F2, eF2⟩ : ∃ y : Nat → UInt64, y = vf_upd (fun _ => (0 : UInt64)) (0 : Int32).toNatClampNeg FP.dconst1 := ⟨_, rfl⟩
  have hf := bd_t eF2 hf
  have hP : va_P (dC, dI) CL [(a0, .inr (6, [.int (0 : Int32), .int (1 : Int32), .int (0 : Int32), .double (4617315517961601024 : UInt64), .ref q1, .double (0 : UInt64), .int (0 : Int32), .int (0 : Int32), .int (0 : Int32), .null, .null, .null, .null, .int (0 : Int32), .null, .null, .int (0 : Int32), .int (0 : Int32), .int (0 : Int32), .int (0 : Int32), .int (0 : Int32), .null, .int (0 : Int32), .null, .int (0 : Int32)])), (q1, .inl (cD, 3, .inr (.inr (.inr (.inl (fun _ => (0 : UInt64))))))), (q2, .inl (cD, 3, .inr (.inr (.inr (.inl (F2))))))] H := by rw [eF2]; exact hP
  have hD : va_D A [(a0, .inr (6, [.int (0 : Int32), .int (1 : Int32), .int (0 : Int32), .double (4617315517961601024 : UInt64), .ref q1, .double (0 : UInt64), .int (0 : Int32), .int (0 : Int32), .int (0 : Int32), .null, .null, .null, .null, .int (0 : Int32), .null, .null, .int (0 : Int32), .int (0 : Int32), .int (0 : Int32), .int (0 : Int32), .int (0 : Int32), .null, .int (0 : Int32), .null, .int (0 : Int32)])), (q1, .inl (cD, 3, .inr (.inr (.inr (.inl (fun _ => (0 : UInt64))))))), (q2, .inl (cD, 3, .inr (.inr (.inr (.inl (F2))))))] := by rw [eF2]; exact hD
  refine lv_dup hx hb d_Mod_init_31 rfl ?_
  refine lv_iconst (v := 1) hx hb d_Mod_init_32 (by decide) ?_
  refine lv_dconst1 hx hb d_Mod_init_33 ?_
  obtain ⟨h3, hf⟩ := gi_t hf
  refine va_dast hx hb hK hP hD hS 2 2 rfl rfl h3 d_Mod_init_34 (fun H locs hP hD hS => ?_)
  obtain ⟨F4, eF4⟩ : ∃ y : Nat → UInt64, y = vf_upd F2 (1 : Int32).toNatClampNeg FP.dconst1 := ⟨_, rfl⟩
  have hf := bd_t eF4 hf
  have hP : va_P (dC, dI) CL [(a0, .inr (6, [.int (0 : Int32), .int (1 : Int32), .int (0 : Int32), .double (4617315517961601024 : UInt64), .ref q1, .double (0 : UInt64), .int (0 : Int32), .int (0 : Int32), .int (0 : Int32), .null, .null, .null, .null, .int (0 : Int32), .null, .null, .int (0 : Int32), .int (0 : Int32), .int (0 : Int32), .int (0 : Int32), .int (0 : Int32), .null, .int (0 : Int32), .null, .int (0 : Int32)])), (q1, .inl (cD, 3, .inr (.inr (.inr (.inl (fun _ => (0 : UInt64))))))), (q2, .inl (cD, 3, .inr (.inr (.inr (.inl (F4))))))] H := by rw [eF4]; exact hP
  have hD : va_D A [(a0, .inr (6, [.int (0 : Int32), .int (1 : Int32), .int (0 : Int32), .double (4617315517961601024 : UInt64), .ref q1, .double (0 : UInt64), .int (0 : Int32), .int (0 : Int32), .int (0 : Int32), .null, .null, .null, .null, .int (0 : Int32), .null, .null, .int (0 : Int32), .int (0 : Int32), .int (0 : Int32), .int (0 : Int32), .int (0 : Int32), .null, .int (0 : Int32), .null, .int (0 : Int32)])), (q1, .inl (cD, 3, .inr (.inr (.inr (.inl (fun _ => (0 : UInt64))))))), (q2, .inl (cD, 3, .inr (.inr (.inr (.inl (F4))))))] := by rw [eF4]; exact hD
  refine lv_dup hx hb d_Mod_init_35 rfl ?_
  refine lv_iconst (v := 2) hx hb d_Mod_init_36 (by decide) ?_
  refine lv_dconst1 hx hb d_Mod_init_37 ?_
  obtain ⟨h5, hf⟩ := gi_t hf
  refine va_dast hx hb hK hP hD hS 2 2 rfl rfl h5 d_Mod_init_38 (fun H locs hP hD hS => ?_)
  obtain ⟨F6, eF6⟩ : ∃ y : Nat → UInt64, y = vf_upd F4 (2 : Int32).toNatClampNeg FP.dconst1 := ⟨_, rfl⟩
  have hf := bd_t eF6 hf
  have hP : va_P (dC, dI) CL [(a0, .inr (6, [.int (0 : Int32), .int (1 : Int32), .int (0 : Int32), .double (4617315517961601024 : UInt64), .ref q1, .double (0 : UInt64), .int (0 : Int32), .int (0 : Int32), .int (0 : Int32), .null, .null, .null, .null, .int (0 : Int32), .null, .null, .int (0 : Int32), .int (0 : Int32), .int (0 : Int32), .int (0 : Int32), .int (0 : Int32), .null, .int (0 : Int32), .null, .int (0 : Int32)])), (q1, .inl (cD, 3, .inr (.inr (.inr (.inl (fun _ => (0 : UInt64))))))), (q2, .inl (cD, 3, .inr (.inr (.inr (.inl (F6))))))] H := by rw [eF6]; exact hP
  have hD : va_D A [(a0, .inr (6, [.int (0 : Int32), .int (1 : Int32), .int (0 : Int32), .double (4617315517961601024 : UInt64), .ref q1, .double (0 : UInt64), .int (0 : Int32), .int (0 : Int32), .int (0 : Int32), .null, .null, .null, .null, .int (0 : Int32), .null, .null, .int (0 : Int32), .int (0 : Int32), .int (0 : Int32), .int (0 : Int32), .int (0 : Int32), .null, .int (0 : Int32), .null, .int (0 : Int32)])), (q1, .inl (cD, 3, .inr (.inr (.inr (.inl (fun _ => (0 : UInt64))))))), (q2, .inl (cD, 3, .inr (.inr (.inr (.inl (F6))))))] := by rw [eF6]; exact hD
  refine va_putF (D := (dC, dI)) (ci := 6) (v := .ref q2) (ty := .array .double) (C := R_Mod) (T := T_Mod) (N := 25) hx hb hts in_Mod ty_Mod ty_Mod_ok nm_Mod hown hK hP hD hS 0 rfl rfl 9 (by decide) (hts _ t_708) (fun _ h9 => h9) rfl hin rfl (by decide +kernel) rfl rfl (Nat.le_of_ble_eq_true rfl) d_Mod_init_39 (fun H locs hP hD hS => ?_)
  have hP : va_P (dC, dI) CL [(a0, .inr (6, [.int (0 : Int32), .int (1 : Int32), .int (0 : Int32), .double (4617315517961601024 : UInt64), .ref q1, .double (0 : UInt64), .int (0 : Int32), .int (0 : Int32), .int (0 : Int32), .ref q2, .null, .null, .null, .int (0 : Int32), .null, .null, .int (0 : Int32), .int (0 : Int32), .int (0 : Int32), .int (0 : Int32), .int (0 : Int32), .null, .int (0 : Int32), .null, .int (0 : Int32)])), (q1, .inl (cD, 3, .inr (.inr (.inr (.inl (fun _ => (0 : UInt64))))))), (q2, .inl (cD, 3, .inr (.inr (.inr (.inl (F6))))))] H := hP
  have hD : va_D A [(a0, .inr (6, [.int (0 : Int32), .int (1 : Int32), .int (0 : Int32), .double (4617315517961601024 : UInt64), .ref q1, .double (0 : UInt64), .int (0 : Int32), .int (0 : Int32), .int (0 : Int32), .ref q2, .null, .null, .null, .int (0 : Int32), .null, .null, .int (0 : Int32), .int (0 : Int32), .int (0 : Int32), .int (0 : Int32), .int (0 : Int32), .null, .int (0 : Int32), .null, .int (0 : Int32)])), (q1, .inl (cD, 3, .inr (.inr (.inr (.inl (fun _ => (0 : UInt64))))))), (q2, .inl (cD, 3, .inr (.inr (.inr (.inl (F6))))))] := hD
  refine lv_aload_n hx hb d_Mod_init_42 rfl (lv_at hl 0 rfl) ?_
  refine lv_bipush (v := 8) hx hb d_Mod_init_43 (by decide) ?_
  refine va_newa (atype := .int) (ty := .int) (N' := 8) (a0 := (8, .inl (fun _ => (0 : Int32)))) hx hb (hts _ t_81) rfl hK hP hD hS hA (fun _ => rfl) (by decide) (by decide) (by decide) (Nat.le_of_ble_eq_true rfl) (Nat.le_of_ble_eq_true rfl) d_Mod_init_45 (fun q3 cN H hKn hP hD hS => ?_)
  have eN := (cA_I hKn).symm
  subst eN
  clear hKn
  have hP : va_P (dC, dI) CL [(a0, .inr (6, [.int (0 : Int32), .int (1 : Int32), .int (0 : Int32), .double (4617315517961601024 : UInt64), .ref q1, .double (0 : UInt64), .int (0 : Int32), .int (0 : Int32), .int (0 : Int32), .ref q2, .null, .null, .null, .int (0 : Int32), .null, .null, .int (0 : Int32), .int (0 : Int32), .int (0 : Int32), .int (0 : Int32), .int (0 : Int32), .null, .int (0 : Int32), .null, .int (0 : Int32)])), (q1, .inl (cD, 3, .inr (.inr (.inr (.inl (fun _ => (0 : UInt64))))))), (q2, .inl (cD, 3, .inr (.inr (.inr (.inl (F6)))))), (q3, .inl (cI, 8, .inl (fun _ => (0 : Int32))))] H := hP
  have hD : va_D A [(a0, .inr (6, [.int (0 : Int32), .int (1 : Int32), .int (0 : Int32), .double (4617315517961601024 : UInt64), .ref q1, .double (0 : UInt64), .int (0 : Int32), .int (0 : Int32), .int (0 : Int32), .ref q2, .null, .null, .null, .int (0 : Int32), .null, .null, .int (0 : Int32), .int (0 : Int32), .int (0 : Int32), .int (0 : Int32), .int (0 : Int32), .null, .int (0 : Int32), .null, .int (0 : Int32)])), (q1, .inl (cD, 3, .inr (.inr (.inr (.inl (fun _ => (0 : UInt64))))))), (q2, .inl (cD, 3, .inr (.inr (.inr (.inl (F6)))))), (q3, .inl (cI, 8, .inl (fun _ => (0 : Int32))))] := hD
  refine va_putF (D := (dC, dI)) (ci := 6) (v := .ref q3) (ty := .array .int) (C := R_Mod) (T := T_Mod) (N := 25) hx hb hts in_Mod ty_Mod ty_Mod_ok nm_Mod hown hK hP hD hS 0 rfl rfl 10 (by decide) (hts _ t_709) (fun _ h9 => h9) rfl hin rfl (by decide +kernel) rfl rfl (Nat.le_of_ble_eq_true rfl) d_Mod_init_47 (fun H locs hP hD hS => ?_)
  have hP : va_P (dC, dI) CL [(a0, .inr (6, [.int (0 : Int32), .int (1 : Int32), .int (0 : Int32), .double (4617315517961601024 : UInt64), .ref q1, .double (0 : UInt64), .int (0 : Int32), .int (0 : Int32), .int (0 : Int32), .ref q2, .ref q3, .null, .null, .int (0 : Int32), .null, .null, .int (0 : Int32), .int (0 : Int32), .int (0 : Int32), .int (0 : Int32), .int (0 : Int32), .null, .int (0 : Int32), .null, .int (0 : Int32)])), (q1, .inl (cD, 3, .inr (.inr (.inr (.inl (fun _ => (0 : UInt64))))))), (q2, .inl (cD, 3, .inr (.inr (.inr (.inl (F6)))))), (q3, .inl (cI, 8, .inl (fun _ => (0 : Int32))))] H := hP
  have hD : va_D A [(a0, .inr (6, [.int (0 : Int32), .int (1 : Int32), .int (0 : Int32), .double (4617315517961601024 : UInt64), .ref q1, .double (0 : UInt64), .int (0 : Int32), .int (0 : Int32), .int (0 : Int32), .ref q2, .ref q3, .null, .null, .int (0 : Int32), .null, .null, .int (0 : Int32), .int (0 : Int32), .int (0 : Int32), .int (0 : Int32), .int (0 : Int32), .null, .int (0 : Int32), .null, .int (0 : Int32)])), (q1, .inl (cD, 3, .inr (.inr (.inr (.inl (fun _ => (0 : UInt64))))))), (q2, .inl (cD, 3, .inr (.inr (.inr (.inl (F6)))))), (q3, .inl (cI, 8, .inl (fun _ => (0 : Int32))))] := hD
  refine lv_aload_n hx hb d_Mod_init_50 rfl (lv_at hl 0 rfl) ?_
  refine lv_bipush (v := 8) hx hb d_Mod_init_51 (by decide) ?_
  refine va_newa (atype := .int) (ty := .int) (N' := 8) (a0 := (8, .inl (fun _ => (0 : Int32)))) hx hb (hts _ t_81) rfl hK hP hD hS hA (fun _ => rfl) (by decide) (by decide) (by decide) (Nat.le_of_ble_eq_true rfl) (Nat.le_of_ble_eq_true rfl) d_Mod_init_53 (fun q4 cN H hKn hP hD hS => ?_)
  have eN := (cA_I hKn).symm
  subst eN
  clear hKn
  have hP : va_P (dC, dI) CL [(a0, .inr (6, [.int (0 : Int32), .int (1 : Int32), .int (0 : Int32), .double (4617315517961601024 : UInt64), .ref q1, .double (0 : UInt64), .int (0 : Int32), .int (0 : Int32), .int (0 : Int32), .ref q2, .ref q3, .null, .null, .int (0 : Int32), .null, .null, .int (0 : Int32), .int (0 : Int32), .int (0 : Int32), .int (0 : Int32), .int (0 : Int32), .null, .int (0 : Int32), .null, .int (0 : Int32)])), (q1, .inl (cD, 3, .inr (.inr (.inr (.inl (fun _ => (0 : UInt64))))))), (q2, .inl (cD, 3, .inr (.inr (.inr (.inl (F6)))))), (q3, .inl (cI, 8, .inl (fun _ => (0 : Int32)))), (q4, .inl (cI, 8, .inl (fun _ => (0 : Int32))))] H := hP
  have hD : va_D A [(a0, .inr (6, [.int (0 : Int32), .int (1 : Int32), .int (0 : Int32), .double (4617315517961601024 : UInt64), .ref q1, .double (0 : UInt64), .int (0 : Int32), .int (0 : Int32), .int (0 : Int32), .ref q2, .ref q3, .null, .null, .int (0 : Int32), .null, .null, .int (0 : Int32), .int (0 : Int32), .int (0 : Int32), .int (0 : Int32), .int (0 : Int32), .null, .int (0 : Int32), .null, .int (0 : Int32)])), (q1, .inl (cD, 3, .inr (.inr (.inr (.inl (fun _ => (0 : UInt64))))))), (q2, .inl (cD, 3, .inr (.inr (.inr (.inl (F6)))))), (q3, .inl (cI, 8, .inl (fun _ => (0 : Int32)))), (q4, .inl (cI, 8, .inl (fun _ => (0 : Int32))))] := hD
  refine lv_dup hx hb d_Mod_init_55 rfl ?_
  refine lv_iconst (v := 0) hx hb d_Mod_init_56 (by decide) ?_
  refine lv_iconst (v := -1) hx hb d_Mod_init_57 (by decide) ?_
  obtain ⟨h7, hf⟩ := gi_t hf
  refine va_iast hx hb hK hP hD hS 4 0 rfl rfl h7 d_Mod_init_58 (fun H locs hP hD hS => ?_)
  obtain ⟨F8, eF8⟩ : ∃ y : Nat → Int32, y = upd (fun _ => (0 : Int32)) (0 : Int32).toNatClampNeg (-1 : Int32) := ⟨_, rfl⟩
  have hf := bd_t eF8 hf
  have hP : va_P (dC, dI) CL [(a0, .inr (6, [.int (0 : Int32), .int (1 : Int32), .int (0 : Int32), .double (4617315517961601024 : UInt64), .ref q1, .double (0 : UInt64), .int (0 : Int32), .int (0 : Int32), .int (0 : Int32), .ref q2, .ref q3, .null, .null, .int (0 : Int32), .null, .null, .int (0 : Int32), .int (0 : Int32), .int (0 : Int32), .int (0 : Int32), .int (0 : Int32), .null, .int (0 : Int32), .null, .int (0 : Int32)])), (q1, .inl (cD, 3, .inr (.inr (.inr (.inl (fun _ => (0 : UInt64))))))), (q2, .inl (cD, 3, .inr (.inr (.inr (.inl (F6)))))), (q3, .inl (cI, 8, .inl (fun _ => (0 : Int32)))), (q4, .inl (cI, 8, .inl (F8)))] H := by rw [eF8]; exact hP
  have hD : va_D A [(a0, .inr (6, [.int (0 : Int32), .int (1 : Int32), .int (0 : Int32), .double (4617315517961601024 : UInt64), .ref q1, .double (0 : UInt64), .int (0 : Int32), .int (0 : Int32), .int (0 : Int32), .ref q2, .ref q3, .null, .null, .int (0 : Int32), .null, .null, .int (0 : Int32), .int (0 : Int32), .int (0 : Int32), .int (0 : Int32), .int (0 : Int32), .null, .int (0 : Int32), .null, .int (0 : Int32)])), (q1, .inl (cD, 3, .inr (.inr (.inr (.inl (fun _ => (0 : UInt64))))))), (q2, .inl (cD, 3, .inr (.inr (.inr (.inl (F6)))))), (q3, .inl (cI, 8, .inl (fun _ => (0 : Int32)))), (q4, .inl (cI, 8, .inl (F8)))] := by rw [eF8]; exact hD
  refine lv_dup hx hb d_Mod_init_59 rfl ?_
  refine lv_iconst (v := 1) hx hb d_Mod_init_60 (by decide) ?_
  refine lv_iconst (v := -1) hx hb d_Mod_init_61 (by decide) ?_
  obtain ⟨h9, hf⟩ := gi_t hf
  refine va_iast hx hb hK hP hD hS 4 0 rfl rfl h9 d_Mod_init_62 (fun H locs hP hD hS => ?_)
  obtain ⟨F10, eF10⟩ : ∃ y : Nat → Int32, y = upd F8 (1 : Int32).toNatClampNeg (-1 : Int32) := ⟨_, rfl⟩
  have hf := bd_t eF10 hf
  have hP : va_P (dC, dI) CL [(a0, .inr (6, [.int (0 : Int32), .int (1 : Int32), .int (0 : Int32), .double (4617315517961601024 : UInt64), .ref q1, .double (0 : UInt64), .int (0 : Int32), .int (0 : Int32), .int (0 : Int32), .ref q2, .ref q3, .null, .null, .int (0 : Int32), .null, .null, .int (0 : Int32), .int (0 : Int32), .int (0 : Int32), .int (0 : Int32), .int (0 : Int32), .null, .int (0 : Int32), .null, .int (0 : Int32)])), (q1, .inl (cD, 3, .inr (.inr (.inr (.inl (fun _ => (0 : UInt64))))))), (q2, .inl (cD, 3, .inr (.inr (.inr (.inl (F6)))))), (q3, .inl (cI, 8, .inl (fun _ => (0 : Int32)))), (q4, .inl (cI, 8, .inl (F10)))] H := by rw [eF10]; exact hP
  have hD : va_D A [(a0, .inr (6, [.int (0 : Int32), .int (1 : Int32), .int (0 : Int32), .double (4617315517961601024 : UInt64), .ref q1, .double (0 : UInt64), .int (0 : Int32), .int (0 : Int32), .int (0 : Int32), .ref q2, .ref q3, .null, .null, .int (0 : Int32), .null, .null, .int (0 : Int32), .int (0 : Int32), .int (0 : Int32), .int (0 : Int32), .int (0 : Int32), .null, .int (0 : Int32), .null, .int (0 : Int32)])), (q1, .inl (cD, 3, .inr (.inr (.inr (.inl (fun _ => (0 : UInt64))))))), (q2, .inl (cD, 3, .inr (.inr (.inr (.inl (F6)))))), (q3, .inl (cI, 8, .inl (fun _ => (0 : Int32)))), (q4, .inl (cI, 8, .inl (F10)))] := by rw [eF10]; exact hD
  refine lv_dup hx hb d_Mod_init_63 rfl ?_
  refine lv_iconst (v := 2) hx hb d_Mod_init_64 (by decide) ?_
  refine lv_iconst (v := -1) hx hb d_Mod_init_65 (by decide) ?_
  obtain ⟨h11, hf⟩ := gi_t hf
  refine va_iast hx hb hK hP hD hS 4 0 rfl rfl h11 d_Mod_init_66 (fun H locs hP hD hS => ?_)
  obtain ⟨F12, eF12⟩ : ∃ y : Nat → Int32, y = upd F10 (2 : Int32).toNatClampNeg (-1 : Int32) := ⟨_, rfl⟩
  have hf := bd_t eF12 hf
  have hP : va_P (dC, dI) CL [(a0, .inr (6, [.int (0 : Int32), .int (1 : Int32), .int (0 : Int32), .double (4617315517961601024 : UInt64), .ref q1, .double (0 : UInt64), .int (0 : Int32), .int (0 : Int32), .int (0 : Int32), .ref q2, .ref q3, .null, .null, .int (0 : Int32), .null, .null, .int (0 : Int32), .int (0 : Int32), .int (0 : Int32), .int (0 : Int32), .int (0 : Int32), .null, .int (0 : Int32), .null, .int (0 : Int32)])), (q1, .inl (cD, 3, .inr (.inr (.inr (.inl (fun _ => (0 : UInt64))))))), (q2, .inl (cD, 3, .inr (.inr (.inr (.inl (F6)))))), (q3, .inl (cI, 8, .inl (fun _ => (0 : Int32)))), (q4, .inl (cI, 8, .inl (F12)))] H := by rw [eF12]; exact hP
  have hD : va_D A [(a0, .inr (6, [.int (0 : Int32), .int (1 : Int32), .int (0 : Int32), .double (4617315517961601024 : UInt64), .ref q1, .double (0 : UInt64), .int (0 : Int32), .int (0 : Int32), .int (0 : Int32), .ref q2, .ref q3, .null, .null, .int (0 : Int32), .null, .null, .int (0 : Int32), .int (0 : Int32), .int (0 : Int32), .int (0 : Int32), .int (0 : Int32), .null, .int (0 : Int32), .null, .int (0 : Int32)])), (q1, .inl (cD, 3, .inr (.inr (.inr (.inl (fun _ => (0 : UInt64))))))), (q2, .inl (cD, 3, .inr (.inr (.inr (.inl (F6)))))), (q3, .inl (cI, 8, .inl (fun _ => (0 : Int32)))), (q4, .inl (cI, 8, .inl (F12)))] := by rw [eF12]; exact hD
  refine lv_dup hx hb d_Mod_init_67 rfl ?_
  refine lv_iconst (v := 3) hx hb d_Mod_init_68 (by decide) ?_
  refine lv_iconst (v := -1) hx hb d_Mod_init_69 (by decide) ?_
  obtain ⟨h13, hf⟩ := gi_t hf
  refine va_iast hx hb hK hP hD hS 4 0 rfl rfl h13 d_Mod_init_70 (fun H locs hP hD hS => ?_)
  obtain ⟨F14, eF14⟩ : ∃ y : Nat → Int32, y = upd F12 (3 : Int32).toNatClampNeg (-1 : Int32) := ⟨_, rfl⟩
  have hf := bd_t eF14 hf
  have hP : va_P (dC, dI) CL [(a0, .inr (6, [.int (0 : Int32), .int (1 : Int32), .int (0 : Int32), .double (4617315517961601024 : UInt64), .ref q1, .double (0 : UInt64), .int (0 : Int32), .int (0 : Int32), .int (0 : Int32), .ref q2, .ref q3, .null, .null, .int (0 : Int32), .null, .null, .int (0 : Int32), .int (0 : Int32), .int (0 : Int32), .int (0 : Int32), .int (0 : Int32), .null, .int (0 : Int32), .null, .int (0 : Int32)])), (q1, .inl (cD, 3, .inr (.inr (.inr (.inl (fun _ => (0 : UInt64))))))), (q2, .inl (cD, 3, .inr (.inr (.inr (.inl (F6)))))), (q3, .inl (cI, 8, .inl (fun _ => (0 : Int32)))), (q4, .inl (cI, 8, .inl (F14)))] H := by rw [eF14]; exact hP
  have hD : va_D A [(a0, .inr (6, [.int (0 : Int32), .int (1 : Int32), .int (0 : Int32), .double (4617315517961601024 : UInt64), .ref q1, .double (0 : UInt64), .int (0 : Int32), .int (0 : Int32), .int (0 : Int32), .ref q2, .ref q3, .null, .null, .int (0 : Int32), .null, .null, .int (0 : Int32), .int (0 : Int32), .int (0 : Int32), .int (0 : Int32), .int (0 : Int32), .null, .int (0 : Int32), .null, .int (0 : Int32)])), (q1, .inl (cD, 3, .inr (.inr (.inr (.inl (fun _ => (0 : UInt64))))))), (q2, .inl (cD, 3, .inr (.inr (.inr (.inl (F6)))))), (q3, .inl (cI, 8, .inl (fun _ => (0 : Int32)))), (q4, .inl (cI, 8, .inl (F14)))] := by rw [eF14]; exact hD
  refine lv_dup hx hb d_Mod_init_71 rfl ?_
  refine lv_iconst (v := 4) hx hb d_Mod_init_72 (by decide) ?_
  refine lv_iconst (v := -1) hx hb d_Mod_init_73 (by decide) ?_
  obtain ⟨h15, hf⟩ := gi_t hf
  refine va_iast hx hb hK hP hD hS 4 0 rfl rfl h15 d_Mod_init_74 (fun H locs hP hD hS => ?_)
  obtain ⟨F16, eF16⟩ : ∃ y : Nat → Int32, y = upd F14 (4 : Int32).toNatClampNeg (-1 : Int32) := ⟨_, rfl⟩
  have hf := bd_t eF16 hf
  have hP : va_P (dC, dI) CL [(a0, .inr (6, [.int (0 : Int32), .int (1 : Int32), .int (0 : Int32), .double (4617315517961601024 : UInt64), .ref q1, .double (0 : UInt64), .int (0 : Int32), .int (0 : Int32), .int (0 : Int32), .ref q2, .ref q3, .null, .null, .int (0 : Int32), .null, .null, .int (0 : Int32), .int (0 : Int32), .int (0 : Int32), .int (0 : Int32), .int (0 : Int32), .null, .int (0 : Int32), .null, .int (0 : Int32)])), (q1, .inl (cD, 3, .inr (.inr (.inr (.inl (fun _ => (0 : UInt64))))))), (q2, .inl (cD, 3, .inr (.inr (.inr (.inl (F6)))))), (q3, .inl (cI, 8, .inl (fun _ => (0 : Int32)))), (q4, .inl (cI, 8, .inl (F16)))] H := by rw [eF16]; exact hP
  have hD : va_D A [(a0, .inr (6, [.int (0 : Int32), .int (1 : Int32), .int (0 : Int32), .double (4617315517961601024 : UInt64), .ref q1, .double (0 : UInt64), .int (0 : Int32), .int (0 : Int32), .int (0 : Int32), .ref q2, .ref q3, .null, .null, .int (0 : Int32), .null, .null, .int (0 : Int32), .int (0 : Int32), .int (0 : Int32), .int (0 : Int32), .int (0 : Int32), .null, .int (0 : Int32), .null, .int (0 : Int32)])), (q1, .inl (cD, 3, .inr (.inr (.inr (.inl (fun _ => (0 : UInt64))))))), (q2, .inl (cD, 3, .inr (.inr (.inr (.inl (F6)))))), (q3, .inl (cI, 8, .inl (fun _ => (0 : Int32)))), (q4, .inl (cI, 8, .inl (F16)))] := by rw [eF16]; exact hD
  refine lv_dup hx hb d_Mod_init_75 rfl ?_
  refine lv_iconst (v := 5) hx hb d_Mod_init_76 (by decide) ?_
  refine lv_iconst (v := -1) hx hb d_Mod_init_77 (by decide) ?_
  obtain ⟨h17, hf⟩ := gi_t hf
  refine va_iast hx hb hK hP hD hS 4 0 rfl rfl h17 d_Mod_init_78 (fun H locs hP hD hS => ?_)
  obtain ⟨F18, eF18⟩ : ∃ y : Nat → Int32, y = upd F16 (5 : Int32).toNatClampNeg (-1 : Int32) := ⟨_, rfl⟩
  have hf := bd_t eF18 hf
  have hP : va_P (dC, dI) CL [(a0, .inr (6, [.int (0 : Int32), .int (1 : Int32), .int (0 : Int32), .double (4617315517961601024 : UInt64), .ref q1, .double (0 : UInt64), .int (0 : Int32), .int (0 : Int32), .int (0 : Int32), .ref q2, .ref q3, .null, .null, .int (0 : Int32), .null, .null, .int (0 : Int32), .int (0 : Int32), .int (0 : Int32), .int (0 : Int32), .int (0 : Int32), .null, .int (0 : Int32), .null, .int (0 : Int32)])), (q1, .inl (cD, 3, .inr (.inr (.inr (.inl (fun _ => (0 : UInt64))))))), (q2, .inl (cD, 3, .inr (.inr (.inr (.inl (F6)))))), (q3, .inl (cI, 8, .inl (fun _ => (0 : Int32)))), (q4, .inl (cI, 8, .inl (F18)))] H := by rw [eF18]; exact hP
  have hD : va_D A [(a0, .inr (6, [.int (0 : Int32), .int (1 : Int32), .int (0 : Int32), .double (4617315517961601024 : UInt64), .ref q1, .double (0 : UInt64), .int (0 : Int32), .int (0 : Int32), .int (0 : Int32), .ref q2, .ref q3, .null, .null, .int (0 : Int32), .null, .null, .int (0 : Int32), .int (0 : Int32), .int (0 : Int32), .int (0 : Int32), .int (0 : Int32), .null, .int (0 : Int32), .null, .int (0 : Int32)])), (q1, .inl (cD, 3, .inr (.inr (.inr (.inl (fun _ => (0 : UInt64))))))), (q2, .inl (cD, 3, .inr (.inr (.inr (.inl (F6)))))), (q3, .inl (cI, 8, .inl (fun _ => (0 : Int32)))), (q4, .inl (cI, 8, .inl (F18)))] := by rw [eF18]; exact hD
  refine lv_dup hx hb d_Mod_init_79 rfl ?_
  refine lv_bipush (v := 6) hx hb d_Mod_init_80 (by decide) ?_
  refine lv_iconst (v := -1) hx hb d_Mod_init_82 (by decide) ?_
  obtain ⟨h19, hf⟩ := gi_t hf
  refine va_iast hx hb hK hP hD hS 4 0 rfl rfl h19 d_Mod_init_83 (fun H locs hP hD hS => ?_)
  obtain ⟨F20, eF20⟩ : ∃ y : Nat → Int32, y = upd F18 (6 : Int32).toNatClampNeg (-1 : Int32) := ⟨_, rfl⟩
  have hf := bd_t eF20 hf
  have hP : va_P (dC, dI) CL [(a0, .inr (6, [.int (0 : Int32), .int (1 : Int32), .int (0 : Int32), .double (4617315517961601024 : UInt64), .ref q1, .double (0 : UInt64), .int (0 : Int32), .int (0 : Int32), .int (0 : Int32), .ref q2, .ref q3, .null, .null, .int (0 : Int32), .null, .null, .int (0 : Int32), .int (0 : Int32), .int (0 : Int32), .int (0 : Int32), .int (0 : Int32), .null, .int (0 : Int32), .null, .int (0 : Int32)])), (q1, .inl (cD, 3, .inr (.inr (.inr (.inl (fun _ => (0 : UInt64))))))), (q2, .inl (cD, 3, .inr (.inr (.inr (.inl (F6)))))), (q3, .inl (cI, 8, .inl (fun _ => (0 : Int32)))), (q4, .inl (cI, 8, .inl (F20)))] H := by rw [eF20]; exact hP
  have hD : va_D A [(a0, .inr (6, [.int (0 : Int32), .int (1 : Int32), .int (0 : Int32), .double (4617315517961601024 : UInt64), .ref q1, .double (0 : UInt64), .int (0 : Int32), .int (0 : Int32), .int (0 : Int32), .ref q2, .ref q3, .null, .null, .int (0 : Int32), .null, .null, .int (0 : Int32), .int (0 : Int32), .int (0 : Int32), .int (0 : Int32), .int (0 : Int32), .null, .int (0 : Int32), .null, .int (0 : Int32)])), (q1, .inl (cD, 3, .inr (.inr (.inr (.inl (fun _ => (0 : UInt64))))))), (q2, .inl (cD, 3, .inr (.inr (.inr (.inl (F6)))))), (q3, .inl (cI, 8, .inl (fun _ => (0 : Int32)))), (q4, .inl (cI, 8, .inl (F20)))] := by rw [eF20]; exact hD
  refine lv_dup hx hb d_Mod_init_84 rfl ?_
  refine lv_bipush (v := 7) hx hb d_Mod_init_85 (by decide) ?_
  refine lv_iconst (v := -1) hx hb d_Mod_init_87 (by decide) ?_
  obtain ⟨h21, hf⟩ := gi_t hf
  refine va_iast hx hb hK hP hD hS 4 0 rfl rfl h21 d_Mod_init_88 (fun H locs hP hD hS => ?_)
  obtain ⟨F22, eF22⟩ : ∃ y : Nat → Int32, y = upd F20 (7 : Int32).toNatClampNeg (-1 : Int32) := ⟨_, rfl⟩
  have hf := bd_t eF22 hf
  have hP : va_P (dC, dI) CL [(a0, .inr (6, [.int (0 : Int32), .int (1 : Int32), .int (0 : Int32), .double (4617315517961601024 : UInt64), .ref q1, .double (0 : UInt64), .int (0 : Int32), .int (0 : Int32), .int (0 : Int32), .ref q2, .ref q3, .null, .null, .int (0 : Int32), .null, .null, .int (0 : Int32), .int (0 : Int32), .int (0 : Int32), .int (0 : Int32), .int (0 : Int32), .null, .int (0 : Int32), .null, .int (0 : Int32)])), (q1, .inl (cD, 3, .inr (.inr (.inr (.inl (fun _ => (0 : UInt64))))))), (q2, .inl (cD, 3, .inr (.inr (.inr (.inl (F6)))))), (q3, .inl (cI, 8, .inl (fun _ => (0 : Int32)))), (q4, .inl (cI, 8, .inl (F22)))] H := by rw [eF22]; exact hP
  have hD : va_D A [(a0, .inr (6, [.int (0 : Int32), .int (1 : Int32), .int (0 : Int32), .double (4617315517961601024 : UInt64), .ref q1, .double (0 : UInt64), .int (0 : Int32), .int (0 : Int32), .int (0 : Int32), .ref q2, .ref q3, .null, .null, .int (0 : Int32), .null, .null, .int (0 : Int32), .int (0 : Int32), .int (0 : Int32), .int (0 : Int32), .int (0 : Int32), .null, .int (0 : Int32), .null, .int (0 : Int32)])), (q1, .inl (cD, 3, .inr (.inr (.inr (.inl (fun _ => (0 : UInt64))))))), (q2, .inl (cD, 3, .inr (.inr (.inr (.inl (F6)))))), (q3, .inl (cI, 8, .inl (fun _ => (0 : Int32)))), (q4, .inl (cI, 8, .inl (F22)))] := by rw [eF22]; exact hD
  refine va_putF (D := (dC, dI)) (ci := 6) (v := .ref q4) (ty := .array .int) (C := R_Mod) (T := T_Mod) (N := 25) hx hb hts in_Mod ty_Mod ty_Mod_ok nm_Mod hown hK hP hD hS 0 rfl rfl 11 (by decide) (hts _ t_710) (fun _ h9 => h9) rfl hin rfl (by decide +kernel) rfl rfl (Nat.le_of_ble_eq_true rfl) d_Mod_init_89 (fun H locs hP hD hS => ?_)
  have hP : va_P (dC, dI) CL [(a0, .inr (6, [.int (0 : Int32), .int (1 : Int32), .int (0 : Int32), .double (4617315517961601024 : UInt64), .ref q1, .double (0 : UInt64), .int (0 : Int32), .int (0 : Int32), .int (0 : Int32), .ref q2, .ref q3, .ref q4, .null, .int (0 : Int32), .null, .null, .int (0 : Int32), .int (0 : Int32), .int (0 : Int32), .int (0 : Int32), .int (0 : Int32), .null, .int (0 : Int32), .null, .int (0 : Int32)])), (q1, .inl (cD, 3, .inr (.inr (.inr (.inl (fun _ => (0 : UInt64))))))), (q2, .inl (cD, 3, .inr (.inr (.inr (.inl (F6)))))), (q3, .inl (cI, 8, .inl (fun _ => (0 : Int32)))), (q4, .inl (cI, 8, .inl (F22)))] H := hP
  have hD : va_D A [(a0, .inr (6, [.int (0 : Int32), .int (1 : Int32), .int (0 : Int32), .double (4617315517961601024 : UInt64), .ref q1, .double (0 : UInt64), .int (0 : Int32), .int (0 : Int32), .int (0 : Int32), .ref q2, .ref q3, .ref q4, .null, .int (0 : Int32), .null, .null, .int (0 : Int32), .int (0 : Int32), .int (0 : Int32), .int (0 : Int32), .int (0 : Int32), .null, .int (0 : Int32), .null, .int (0 : Int32)])), (q1, .inl (cD, 3, .inr (.inr (.inr (.inl (fun _ => (0 : UInt64))))))), (q2, .inl (cD, 3, .inr (.inr (.inr (.inl (F6)))))), (q3, .inl (cI, 8, .inl (fun _ => (0 : Int32)))), (q4, .inl (cI, 8, .inl (F22)))] := hD
  refine lv_aload_n hx hb d_Mod_init_92 rfl (lv_at hl 0 rfl) ?_
  refine lv_bipush (v := 12) hx hb d_Mod_init_93 (by decide) ?_
  refine va_newa (atype := .int) (ty := .int) (N' := 12) (a0 := (12, .inl (fun _ => (0 : Int32)))) hx hb (hts _ t_81) rfl hK hP hD hS hA (fun _ => rfl) (by decide) (by decide) (by decide) (Nat.le_of_ble_eq_true rfl) (Nat.le_of_ble_eq_true rfl) d_Mod_init_95 (fun q5 cN H hKn hP hD hS => ?_)
  have eN := (cA_I hKn).symm
  subst eN
  clear hKn
  have hP : va_P (dC, dI) CL [(a0, .inr (6, [.int (0 : Int32), .int (1 : Int32), .int (0 : Int32), .double (4617315517961601024 : UInt64), .ref q1, .double (0 : UInt64), .int (0 : Int32), .int (0 : Int32), .int (0 : Int32), .ref q2, .ref q3, .ref q4, .null, .int (0 : Int32), .null, .null, .int (0 : Int32), .int (0 : Int32), .int (0 : Int32), .int (0 : Int32), .int (0 : Int32), .null, .int (0 : Int32), .null, .int (0 : Int32)])), (q1, .inl (cD, 3, .inr (.inr (.inr (.inl (fun _ => (0 : UInt64))))))), (q2, .inl (cD, 3, .inr (.inr (.inr (.inl (F6)))))), (q3, .inl (cI, 8, .inl (fun _ => (0 : Int32)))), (q4, .inl (cI, 8, .inl (F22))), (q5, .inl (cI, 12, .inl (fun _ => (0 : Int32))))] H := hP
  have hD : va_D A [(a0, .inr (6, [.int (0 : Int32), .int (1 : Int32), .int (0 : Int32), .double (4617315517961601024 : UInt64), .ref q1, .double (0 : UInt64), .int (0 : Int32), .int (0 : Int32), .int (0 : Int32), .ref q2, .ref q3, .ref q4, .null, .int (0 : Int32), .null, .null, .int (0 : Int32), .int (0 : Int32), .int (0 : Int32), .int (0 : Int32), .int (0 : Int32), .null, .int (0 : Int32), .null, .int (0 : Int32)])), (q1, .inl (cD, 3, .inr (.inr (.inr (.inl (fun _ => (0 : UInt64))))))), (q2, .inl (cD, 3, .inr (.inr (.inr (.inl (F6)))))), (q3, .inl (cI, 8, .inl (fun _ => (0 : Int32)))), (q4, .inl (cI, 8, .inl (F22))), (q5, .inl (cI, 12, .inl (fun _ => (0 : Int32))))] := hD
  refine va_putF (D := (dC, dI)) (ci := 6) (v := .ref q5) (ty := .array .int) (C := R_Mod) (T := T_Mod) (N := 25) hx hb hts in_Mod ty_Mod ty_Mod_ok nm_Mod hown hK hP hD hS 0 rfl rfl 12 (by decide) (hts _ t_711) (fun _ h9 => h9) rfl hin rfl (by decide +kernel) rfl rfl (Nat.le_of_ble_eq_true rfl) d_Mod_init_97 (fun H locs hP hD hS => ?_)
  have hP : va_P (dC, dI) CL [(a0, .inr (6, [.int (0 : Int32), .int (1 : Int32), .int (0 : Int32), .double (4617315517961601024 : UInt64), .ref q1, .double (0 : UInt64), .int (0 : Int32), .int (0 : Int32), .int (0 : Int32), .ref q2, .ref q3, .ref q4, .ref q5, .int (0 : Int32), .null, .null, .int (0 : Int32), .int (0 : Int32), .int (0 : Int32), .int (0 : Int32), .int (0 : Int32), .null, .int (0 : Int32), .null, .int (0 : Int32)])), (q1, .inl (cD, 3, .inr (.inr (.inr (.inl (fun _ => (0 : UInt64))))))), (q2, .inl (cD, 3, .inr (.inr (.inr (.inl (F6)))))), (q3, .inl (cI, 8, .inl (fun _ => (0 : Int32)))), (q4, .inl (cI, 8, .inl (F22))), (q5, .inl (cI, 12, .inl (fun _ => (0 : Int32))))] H := hP
  have hD : va_D A [(a0, .inr (6, [.int (0 : Int32), .int (1 : Int32), .int (0 : Int32), .double (4617315517961601024 : UInt64), .ref q1, .double (0 : UInt64), .int (0 : Int32), .int (0 : Int32), .int (0 : Int32), .ref q2, .ref q3, .ref q4, .ref q5, .int (0 : Int32), .null, .null, .int (0 : Int32), .int (0 : Int32), .int (0 : Int32), .int (0 : Int32), .int (0 : Int32), .null, .int (0 : Int32), .null, .int (0 : Int32)])), (q1, .inl (cD, 3, .inr (.inr (.inr (.inl (fun _ => (0 : UInt64))))))), (q2, .inl (cD, 3, .inr (.inr (.inr (.inl (F6)))))), (q3, .inl (cI, 8, .inl (fun _ => (0 : Int32)))), (q4, .inl (cI, 8, .inl (F22))), (q5, .inl (cI, 12, .inl (fun _ => (0 : Int32))))] := hD
  refine lv_aload_n hx hb d_Mod_init_100 rfl (lv_at hl 0 rfl) ?_
  refine lv_bipush (v := 72) hx hb d_Mod_init_101 (by decide) ?_
  refine va_newa (atype := .long) (ty := .long) (N' := 72) (a0 := (72, .inr (.inl (fun _ => (0 : Int64))))) hx hb (hts _ t_165) rfl hK hP hD hS hA (fun _ => rfl) (by decide) (by decide) (by decide) (Nat.le_of_ble_eq_true rfl) (Nat.le_of_ble_eq_true rfl) d_Mod_init_103 (fun q6 cN H hKn hP hD hS => ?_)
  have eN := (cA_J hKn).symm
  subst eN
  clear hKn
  have hP : va_P (dC, dI) CL [(a0, .inr (6, [.int (0 : Int32), .int (1 : Int32), .int (0 : Int32), .double (4617315517961601024 : UInt64), .ref q1, .double (0 : UInt64), .int (0 : Int32), .int (0 : Int32), .int (0 : Int32), .ref q2, .ref q3, .ref q4, .ref q5, .int (0 : Int32), .null, .null, .int (0 : Int32), .int (0 : Int32), .int (0 : Int32), .int (0 : Int32), .int (0 : Int32), .null, .int (0 : Int32), .null, .int (0 : Int32)])), (q1, .inl (cD, 3, .inr (.inr (.inr (.inl (fun _ => (0 : UInt64))))))), (q2, .inl (cD, 3, .inr (.inr (.inr (.inl (F6)))))), (q3, .inl (cI, 8, .inl (fun _ => (0 : Int32)))), (q4, .inl (cI, 8, .inl (F22))), (q5, .inl (cI, 12, .inl (fun _ => (0 : Int32)))), (q6, .inl (cL, 72, .inr (.inl (fun _ => (0 : Int64)))))] H := hP
  have hD : va_D A [(a0, .inr (6, [.int (0 : Int32), .int (1 : Int32), .int (0 : Int32), .double (4617315517961601024 : UInt64), .ref q1, .double (0 : UInt64), .int (0 : Int32), .int (0 : Int32), .int (0 : Int32), .ref q2, .ref q3, .ref q4, .ref q5, .int (0 : Int32), .null, .null, .int (0 : Int32), .int (0 : Int32), .int (0 : Int32), .int (0 : Int32), .int (0 : Int32), .null, .int (0 : Int32), .null, .int (0 : Int32)])), (q1, .inl (cD, 3, .inr (.inr (.inr (.inl (fun _ => (0 : UInt64))))))), (q2, .inl (cD, 3, .inr (.inr (.inr (.inl (F6)))))), (q3, .inl (cI, 8, .inl (fun _ => (0 : Int32)))), (q4, .inl (cI, 8, .inl (F22))), (q5, .inl (cI, 12, .inl (fun _ => (0 : Int32)))), (q6, .inl (cL, 72, .inr (.inl (fun _ => (0 : Int64)))))] := hD
  refine va_putF (D := (dC, dI)) (ci := 6) (v := .ref q6) (ty := .array .long) (C := R_Mod) (T := T_Mod) (N := 25) hx hb hts in_Mod ty_Mod ty_Mod_ok nm_Mod hown hK hP hD hS 0 rfl rfl 14 (by decide) (hts _ t_713) (fun _ h9 => h9) rfl hin rfl (by decide +kernel) rfl rfl (Nat.le_of_ble_eq_true rfl) d_Mod_init_105 (fun H locs hP hD hS => ?_)
  have hP : va_P (dC, dI) CL [(a0, .inr (6, [.int (0 : Int32), .int (1 : Int32), .int (0 : Int32), .double (4617315517961601024 : UInt64), .ref q1, .double (0 : UInt64), .int (0 : Int32), .int (0 : Int32), .int (0 : Int32), .ref q2, .ref q3, .ref q4, .ref q5, .int (0 : Int32), .ref q6, .null, .int (0 : Int32), .int (0 : Int32), .int (0 : Int32), .int (0 : Int32), .int (0 : Int32), .null, .int (0 : Int32), .null, .int (0 : Int32)])), (q1, .inl (cD, 3, .inr (.inr (.inr (.inl (fun _ => (0 : UInt64))))))), (q2, .inl (cD, 3, .inr (.inr (.inr (.inl (F6)))))), (q3, .inl (cI, 8, .inl (fun _ => (0 : Int32)))), (q4, .inl (cI, 8, .inl (F22))), (q5, .inl (cI, 12, .inl (fun _ => (0 : Int32)))), (q6, .inl (cL, 72, .inr (.inl (fun _ => (0 : Int64)))))] H := hP
  have hD : va_D A [(a0, .inr (6, [.int (0 : Int32), .int (1 : Int32), .int (0 : Int32), .double (4617315517961601024 : UInt64), .ref q1, .double (0 : UInt64), .int (0 : Int32), .int (0 : Int32), .int (0 : Int32), .ref q2, .ref q3, .ref q4, .ref q5, .int (0 : Int32), .ref q6, .null, .int (0 : Int32), .int (0 : Int32), .int (0 : Int32), .int (0 : Int32), .int (0 : Int32), .null, .int (0 : Int32), .null, .int (0 : Int32)])), (q1, .inl (cD, 3, .inr (.inr (.inr (.inl (fun _ => (0 : UInt64))))))), (q2, .inl (cD, 3, .inr (.inr (.inr (.inl (F6)))))), (q3, .inl (cI, 8, .inl (fun _ => (0 : Int32)))), (q4, .inl (cI, 8, .inl (F22))), (q5, .inl (cI, 12, .inl (fun _ => (0 : Int32)))), (q6, .inl (cL, 72, .inr (.inl (fun _ => (0 : Int64)))))] := hD
  refine lv_aload_n hx hb d_Mod_init_108 rfl (lv_at hl 0 rfl) ?_
  refine lv_iconst (v := 4) hx hb d_Mod_init_109 (by decide) ?_
  refine va_newa (atype := .int) (ty := .int) (N' := 4) (a0 := (4, .inl (fun _ => (0 : Int32)))) hx hb (hts _ t_81) rfl hK hP hD hS hA (fun _ => rfl) (by decide) (by decide) (by decide) (Nat.le_of_ble_eq_true rfl) (Nat.le_of_ble_eq_true rfl) d_Mod_init_110 (fun q7 cN H hKn hP hD hS => ?_)
  have eN := (cA_I hKn).symm
  subst eN
  clear hKn
  have hP : va_P (dC, dI) CL [(a0, .inr (6, [.int (0 : Int32), .int (1 : Int32), .int (0 : Int32), .double (4617315517961601024 : UInt64), .ref q1, .double (0 : UInt64), .int (0 : Int32), .int (0 : Int32), .int (0 : Int32), .ref q2, .ref q3, .ref q4, .ref q5, .int (0 : Int32), .ref q6, .null, .int (0 : Int32), .int (0 : Int32), .int (0 : Int32), .int (0 : Int32), .int (0 : Int32), .null, .int (0 : Int32), .null, .int (0 : Int32)])), (q1, .inl (cD, 3, .inr (.inr (.inr (.inl (fun _ => (0 : UInt64))))))), (q2, .inl (cD, 3, .inr (.inr (.inr (.inl (F6)))))), (q3, .inl (cI, 8, .inl (fun _ => (0 : Int32)))), (q4, .inl (cI, 8, .inl (F22))), (q5, .inl (cI, 12, .inl (fun _ => (0 : Int32)))), (q6, .inl (cL, 72, .inr (.inl (fun _ => (0 : Int64))))), (q7, .inl (cI, 4, .inl (fun _ => (0 : Int32))))] H := hP
  have hD : va_D A [(a0, .inr (6, [.int (0 : Int32), .int (1 : Int32), .int (0 : Int32), .double (4617315517961601024 : UInt64), .ref q1, .double (0 : UInt64), .int (0 : Int32), .int (0 : Int32), .int (0 : Int32), .ref q2, .ref q3, .ref q4, .ref q5, .int (0 : Int32), .ref q6, .null, .int (0 : Int32), .int (0 : Int32), .int (0 : Int32), .int (0 : Int32), .int (0 : Int32), .null, .int (0 : Int32), .null, .int (0 : Int32)])), (q1, .inl (cD, 3, .inr (.inr (.inr (.inl (fun _ => (0 : UInt64))))))), (q2, .inl (cD, 3, .inr (.inr (.inr (.inl (F6)))))), (q3, .inl (cI, 8, .inl (fun _ => (0 : Int32)))), (q4, .inl (cI, 8, .inl (F22))), (q5, .inl (cI, 12, .inl (fun _ => (0 : Int32)))), (q6, .inl (cL, 72, .inr (.inl (fun _ => (0 : Int64))))), (q7, .inl (cI, 4, .inl (fun _ => (0 : Int32))))] := hD
  refine va_putF (D := (dC, dI)) (ci := 6) (v := .ref q7) (ty := .array .int) (C := R_Mod) (T := T_Mod) (N := 25) hx hb hts in_Mod ty_Mod ty_Mod_ok nm_Mod hown hK hP hD hS 0 rfl rfl 15 (by decide) (hts _ t_714) (fun _ h9 => h9) rfl hin rfl (by decide +kernel) rfl rfl (Nat.le_of_ble_eq_true rfl) d_Mod_init_112 (fun H locs hP hD hS => ?_)
  have hP : va_P (dC, dI) CL [(a0, .inr (6, [.int (0 : Int32), .int (1 : Int32), .int (0 : Int32), .double (4617315517961601024 : UInt64), .ref q1, .double (0 : UInt64), .int (0 : Int32), .int (0 : Int32), .int (0 : Int32), .ref q2, .ref q3, .ref q4, .ref q5, .int (0 : Int32), .ref q6, .ref q7, .int (0 : Int32), .int (0 : Int32), .int (0 : Int32), .int (0 : Int32), .int (0 : Int32), .null, .int (0 : Int32), .null, .int (0 : Int32)])), (q1, .inl (cD, 3, .inr (.inr (.inr (.inl (fun _ => (0 : UInt64))))))), (q2, .inl (cD, 3, .inr (.inr (.inr (.inl (F6)))))), (q3, .inl (cI, 8, .inl (fun _ => (0 : Int32)))), (q4, .inl (cI, 8, .inl (F22))), (q5, .inl (cI, 12, .inl (fun _ => (0 : Int32)))), (q6, .inl (cL, 72, .inr (.inl (fun _ => (0 : Int64))))), (q7, .inl (cI, 4, .inl (fun _ => (0 : Int32))))] H := hP
  have hD : va_D A [(a0, .inr (6, [.int (0 : Int32), .int (1 : Int32), .int (0 : Int32), .double (4617315517961601024 : UInt64), .ref q1, .double (0 : UInt64), .int (0 : Int32), .int (0 : Int32), .int (0 : Int32), .ref q2, .ref q3, .ref q4, .ref q5, .int (0 : Int32), .ref q6, .ref q7, .int (0 : Int32), .int (0 : Int32), .int (0 : Int32), .int (0 : Int32), .int (0 : Int32), .null, .int (0 : Int32), .null, .int (0 : Int32)])), (q1, .inl (cD, 3, .inr (.inr (.inr (.inl (fun _ => (0 : UInt64))))))), (q2, .inl (cD, 3, .inr (.inr (.inr (.inl (F6)))))), (q3, .inl (cI, 8, .inl (fun _ => (0 : Int32)))), (q4, .inl (cI, 8, .inl (F22))), (q5, .inl (cI, 12, .inl (fun _ => (0 : Int32)))), (q6, .inl (cL, 72, .inr (.inl (fun _ => (0 : Int64))))), (q7, .inl (cI, 4, .inl (fun _ => (0 : Int32))))] := hD
  refine lv_aload_n hx hb d_Mod_init_115 rfl (lv_at hl 0 rfl) ?_
  refine lv_iconst (v := -1) hx hb d_Mod_init_116 (by decide) ?_
  refine va_put (D := (dC, dI)) (ci := 6) (v := .int (-1 : Int32)) (ty := .int) (C := R_Mod) (T := T_Mod) (N := 25) hx hb hts in_Mod ty_Mod ty_Mod_ok nm_Mod hown hK hP hD hS 0 rfl rfl 16 (by decide) (hts _ t_715) (fun _ h9 => h9) rfl (by decide +kernel) rfl rfl (Nat.le_of_ble_eq_true rfl) d_Mod_init_117 (fun H locs hP hD hS => ?_)
  have hP : va_P (dC, dI) CL [(a0, .inr (6, [.int (0 : Int32), .int (1 : Int32), .int (0 : Int32), .double (4617315517961601024 : UInt64), .ref q1, .double (0 : UInt64), .int (0 : Int32), .int (0 : Int32), .int (0 : Int32), .ref q2, .ref q3, .ref q4, .ref q5, .int (0 : Int32), .ref q6, .ref q7, .int (-1 : Int32), .int (0 : Int32), .int (0 : Int32), .int (0 : Int32), .int (0 : Int32), .null, .int (0 : Int32), .null, .int (0 : Int32)])), (q1, .inl (cD, 3, .inr (.inr (.inr (.inl (fun _ => (0 : UInt64))))))), (q2, .inl (cD, 3, .inr (.inr (.inr (.inl (F6)))))), (q3, .inl (cI, 8, .inl (fun _ => (0 : Int32)))), (q4, .inl (cI, 8, .inl (F22))), (q5, .inl (cI, 12, .inl (fun _ => (0 : Int32)))), (q6, .inl (cL, 72, .inr (.inl (fun _ => (0 : Int64))))), (q7, .inl (cI, 4, .inl (fun _ => (0 : Int32))))] H := hP
  have hD : va_D A [(a0, .inr (6, [.int (0 : Int32), .int (1 : Int32), .int (0 : Int32), .double (4617315517961601024 : UInt64), .ref q1, .double (0 : UInt64), .int (0 : Int32), .int (0 : Int32), .int (0 : Int32), .ref q2, .ref q3, .ref q4, .ref q5, .int (0 : Int32), .ref q6, .ref q7, .int (-1 : Int32), .int (0 : Int32), .int (0 : Int32), .int (0 : Int32), .int (0 : Int32), .null, .int (0 : Int32), .null, .int (0 : Int32)])), (q1, .inl (cD, 3, .inr (.inr (.inr (.inl (fun _ => (0 : UInt64))))))), (q2, .inl (cD, 3, .inr (.inr (.inr (.inl (F6)))))), (q3, .inl (cI, 8, .inl (fun _ => (0 : Int32)))), (q4, .inl (cI, 8, .inl (F22))), (q5, .inl (cI, 12, .inl (fun _ => (0 : Int32)))), (q6, .inl (cL, 72, .inr (.inl (fun _ => (0 : Int64))))), (q7, .inl (cI, 4, .inl (fun _ => (0 : Int32))))] := hD
  refine lv_aload_n hx hb d_Mod_init_120 rfl (lv_at hl 0 rfl) ?_
  refine lv_iconst (v := -1) hx hb d_Mod_init_121 (by decide) ?_
  refine va_put (D := (dC, dI)) (ci := 6) (v := .int (-1 : Int32)) (ty := .int) (C := R_Mod) (T := T_Mod) (N := 25) hx hb hts in_Mod ty_Mod ty_Mod_ok nm_Mod hown hK hP hD hS 0 rfl rfl 17 (by decide) (hts _ t_716) (fun _ h9 => h9) rfl (by decide +kernel) rfl rfl (Nat.le_of_ble_eq_true rfl) d_Mod_init_122 (fun H locs hP hD hS => ?_)
  have hP : va_P (dC, dI) CL [(a0, .inr (6, [.int (0 : Int32), .int (1 : Int32), .int (0 : Int32), .double (4617315517961601024 : UInt64), .ref q1, .double (0 : UInt64), .int (0 : Int32), .int (0 : Int32), .int (0 : Int32), .ref q2, .ref q3, .ref q4, .ref q5, .int (0 : Int32), .ref q6, .ref q7, .int (-1 : Int32), .int (-1 : Int32), .int (0 : Int32), .int (0 : Int32), .int (0 : Int32), .null, .int (0 : Int32), .null, .int (0 : Int32)])), (q1, .inl (cD, 3, .inr (.inr (.inr (.inl (fun _ => (0 : UInt64))))))), (q2, .inl (cD, 3, .inr (.inr (.inr (.inl (F6)))))), (q3, .inl (cI, 8, .inl (fun _ => (0 : Int32)))), (q4, .inl (cI, 8, .inl (F22))), (q5, .inl (cI, 12, .inl (fun _ => (0 : Int32)))), (q6, .inl (cL, 72, .inr (.inl (fun _ => (0 : Int64))))), (q7, .inl (cI, 4, .inl (fun _ => (0 : Int32))))] H := hP
  have hD : va_D A [(a0, .inr (6, [.int (0 : Int32), .int (1 : Int32), .int (0 : Int32), .double (4617315517961601024 : UInt64), .ref q1, .double (0 : UInt64), .int (0 : Int32), .int (0 : Int32), .int (0 : Int32), .ref q2, .ref q3, .ref q4, .ref q5, .int (0 : Int32), .ref q6, .ref q7, .int (-1 : Int32), .int (-1 : Int32), .int (0 : Int32), .int (0 : Int32), .int (0 : Int32), .null, .int (0 : Int32), .null, .int (0 : Int32)])), (q1, .inl (cD, 3, .inr (.inr (.inr (.inl (fun _ => (0 : UInt64))))))), (q2, .inl (cD, 3, .inr (.inr (.inr (.inl (F6)))))), (q3, .inl (cI, 8, .inl (fun _ => (0 : Int32)))), (q4, .inl (cI, 8, .inl (F22))), (q5, .inl (cI, 12, .inl (fun _ => (0 : Int32)))), (q6, .inl (cL, 72, .inr (.inl (fun _ => (0 : Int64))))), (q7, .inl (cI, 4, .inl (fun _ => (0 : Int32))))] := hD
  refine lv_aload_n hx hb d_Mod_init_125 rfl (lv_at hl 0 rfl) ?_
  refine lv_bipush (v := 14) hx hb d_Mod_init_126 (by decide) ?_
  refine va_newa (atype := .int) (ty := .int) (N' := 14) (a0 := (14, .inl (fun _ => (0 : Int32)))) hx hb (hts _ t_81) rfl hK hP hD hS hA (fun _ => rfl) (by decide) (by decide) (by decide) (Nat.le_of_ble_eq_true rfl) (Nat.le_of_ble_eq_true rfl) d_Mod_init_128 (fun q8 cN H hKn hP hD hS => ?_)
  have eN := (cA_I hKn).symm
  subst eN
  clear hKn
  have hP : va_P (dC, dI) CL [(a0, .inr (6, [.int (0 : Int32), .int (1 : Int32), .int (0 : Int32), .double (4617315517961601024 : UInt64), .ref q1, .double (0 : UInt64), .int (0 : Int32), .int (0 : Int32), .int (0 : Int32), .ref q2, .ref q3, .ref q4, .ref q5, .int (0 : Int32), .ref q6, .ref q7, .int (-1 : Int32), .int (-1 : Int32), .int (0 : Int32), .int (0 : Int32), .int (0 : Int32), .null, .int (0 : Int32), .null, .int (0 : Int32)])), (q1, .inl (cD, 3, .inr (.inr (.inr (.inl (fun _ => (0 : UInt64))))))), (q2, .inl (cD, 3, .inr (.inr (.inr (.inl (F6)))))), (q3, .inl (cI, 8, .inl (fun _ => (0 : Int32)))), (q4, .inl (cI, 8, .inl (F22))), (q5, .inl (cI, 12, .inl (fun _ => (0 : Int32)))), (q6, .inl (cL, 72, .inr (.inl (fun _ => (0 : Int64))))), (q7, .inl (cI, 4, .inl (fun _ => (0 : Int32)))), (q8, .inl (cI, 14, .inl (fun _ => (0 : Int32))))] H := hP
  have hD : va_D A [(a0, .inr (6, [.int (0 : Int32), .int (1 : Int32), .int (0 : Int32), .double (4617315517961601024 : UInt64), .ref q1, .double (0 : UInt64), .int (0 : Int32), .int (0 : Int32), .int (0 : Int32), .ref q2, .ref q3, .ref q4, .ref q5, .int (0 : Int32), .ref q6, .ref q7, .int (-1 : Int32), .int (-1 : Int32), .int (0 : Int32), .int (0 : Int32), .int (0 : Int32), .null, .int (0 : Int32), .null, .int (0 : Int32)])), (q1, .inl (cD, 3, .inr (.inr (.inr (.inl (fun _ => (0 : UInt64))))))), (q2, .inl (cD, 3, .inr (.inr (.inr (.inl (F6)))))), (q3, .inl (cI, 8, .inl (fun _ => (0 : Int32)))), (q4, .inl (cI, 8, .inl (F22))), (q5, .inl (cI, 12, .inl (fun _ => (0 : Int32)))), (q6, .inl (cL, 72, .inr (.inl (fun _ => (0 : Int64))))), (q7, .inl (cI, 4, .inl (fun _ => (0 : Int32)))), (q8, .inl (cI, 14, .inl (fun _ => (0 : Int32))))] := hD
  refine va_putF (D := (dC, dI)) (ci := 6) (v := .ref q8) (ty := .array .int) (C := R_Mod) (T := T_Mod) (N := 25) hx hb hts in_Mod ty_Mod ty_Mod_ok nm_Mod hown hK hP hD hS 0 rfl rfl 21 (by decide) (hts _ t_720) (fun _ h9 => h9) rfl hin rfl (by decide +kernel) rfl rfl (Nat.le_of_ble_eq_true rfl) d_Mod_init_130 (fun H locs hP hD hS => ?_)
  have hP : va_P (dC, dI) CL [(a0, .inr (6, [.int (0 : Int32), .int (1 : Int32), .int (0 : Int32), .double (4617315517961601024 : UInt64), .ref q1, .double (0 : UInt64), .int (0 : Int32), .int (0 : Int32), .int (0 : Int32), .ref q2, .ref q3, .ref q4, .ref q5, .int (0 : Int32), .ref q6, .ref q7, .int (-1 : Int32), .int (-1 : Int32), .int (0 : Int32), .int (0 : Int32), .int (0 : Int32), .ref q8, .int (0 : Int32), .null, .int (0 : Int32)])), (q1, .inl (cD, 3, .inr (.inr (.inr (.inl (fun _ => (0 : UInt64))))))), (q2, .inl (cD, 3, .inr (.inr (.inr (.inl (F6)))))), (q3, .inl (cI, 8, .inl (fun _ => (0 : Int32)))), (q4, .inl (cI, 8, .inl (F22))), (q5, .inl (cI, 12, .inl (fun _ => (0 : Int32)))), (q6, .inl (cL, 72, .inr (.inl (fun _ => (0 : Int64))))), (q7, .inl (cI, 4, .inl (fun _ => (0 : Int32)))), (q8, .inl (cI, 14, .inl (fun _ => (0 : Int32))))] H := hP
  have hD : va_D A [(a0, .inr (6, [.int (0 : Int32), .int (1 : Int32), .int (0 : Int32), .double (4617315517961601024 : UInt64), .ref q1, .double (0 : UInt64), .int (0 : Int32), .int (0 : Int32), .int (0 : Int32), .ref q2, .ref q3, .ref q4, .ref q5, .int (0 : Int32), .ref q6, .ref q7, .int (-1 : Int32), .int (-1 : Int32), .int (0 : Int32), .int (0 : Int32), .int (0 : Int32), .ref q8, .int (0 : Int32), .null, .int (0 : Int32)])), (q1, .inl (cD, 3, .inr (.inr (.inr (.inl (fun _ => (0 : UInt64))))))), (q2, .inl (cD, 3, .inr (.inr (.inr (.inl (F6)))))), (q3, .inl (cI, 8, .inl (fun _ => (0 : Int32)))), (q4, .inl (cI, 8, .inl (F22))), (q5, .inl (cI, 12, .inl (fun _ => (0 : Int32)))), (q6, .inl (cL, 72, .inr (.inl (fun _ => (0 : Int64))))), (q7, .inl (cI, 4, .inl (fun _ => (0 : Int32)))), (q8, .inl (cI, 14, .inl (fun _ => (0 : Int32))))] := hD
  refine lv_aload_n hx hb d_Mod_init_133 rfl (lv_at hl 0 rfl) ?_
  refine lv_bipush (v := 30) hx hb d_Mod_init_134 (by decide) ?_
  refine va_newa (atype := .int) (ty := .int) (N' := 30) (a0 := (30, .inl (fun _ => (0 : Int32)))) hx hb (hts _ t_81) rfl hK hP hD hS hA (fun _ => rfl) (by decide) (by decide) (by decide) (Nat.le_of_ble_eq_true rfl) (Nat.le_of_ble_eq_true rfl) d_Mod_init_136 (fun q9 cN H hKn hP hD hS => ?_)
  have eN := (cA_I hKn).symm
  subst eN
  clear hKn
  have hP : va_P (dC, dI) CL [(a0, .inr (6, [.int (0 : Int32), .int (1 : Int32), .int (0 : Int32), .double (4617315517961601024 : UInt64), .ref q1, .double (0 : UInt64), .int (0 : Int32), .int (0 : Int32), .int (0 : Int32), .ref q2, .ref q3, .ref q4, .ref q5, .int (0 : Int32), .ref q6, .ref q7, .int (-1 : Int32), .int (-1 : Int32), .int (0 : Int32), .int (0 : Int32), .int (0 : Int32), .ref q8, .int (0 : Int32), .null, .int (0 : Int32)])), (q1, .inl (cD, 3, .inr (.inr (.inr (.inl (fun _ => (0 : UInt64))))))), (q2, .inl (cD, 3, .inr (.inr (.inr (.inl (F6)))))), (q3, .inl (cI, 8, .inl (fun _ => (0 : Int32)))), (q4, .inl (cI, 8, .inl (F22))), (q5, .inl (cI, 12, .inl (fun _ => (0 : Int32)))), (q6, .inl (cL, 72, .inr (.inl (fun _ => (0 : Int64))))), (q7, .inl (cI, 4, .inl (fun _ => (0 : Int32)))), (q8, .inl (cI, 14, .inl (fun _ => (0 : Int32)))), (q9, .inl (cI, 30, .inl (fun _ => (0 : Int32))))] H := hP
  have hD : va_D A [(a0, .inr (6, [.int (0 : Int32), .int (1 : Int32), .int (0 : Int32), .double (4617315517961601024 : UInt64), .ref q1, .double (0 : UInt64), .int (0 : Int32), .int (0 : Int32), .int (0 : Int32), .ref q2, .ref q3, .ref q4, .ref q5, .int (0 : Int32), .ref q6, .ref q7, .int (-1 : Int32), .int (-1 : Int32), .int (0 : Int32), .int (0 : Int32), .int (0 : Int32), .ref q8, .int (0 : Int32), .null, .int (0 : Int32)])), (q1, .inl (cD, 3, .inr (.inr (.inr (.inl (fun _ => (0 : UInt64))))))), (q2, .inl (cD, 3, .inr (.inr (.inr (.inl (F6)))))), (q3, .inl (cI, 8, .inl (fun _ => (0 : Int32)))), (q4, .inl (cI, 8, .inl (F22))), (q5, .inl (cI, 12, .inl (fun _ => (0 : Int32)))), (q6, .inl (cL, 72, .inr (.inl (fun _ => (0 : Int64))))), (q7, .inl (cI, 4, .inl (fun _ => (0 : Int32)))), (q8, .inl (cI, 14, .inl (fun _ => (0 : Int32)))), (q9, .inl (cI, 30, .inl (fun _ => (0 : Int32))))] := hD
  refine va_putF (D := (dC, dI)) (ci := 6) (v := .ref q9) (ty := .array .int) (C := R_Mod) (T := T_Mod) (N := 25) hx hb hts in_Mod ty_Mod ty_Mod_ok nm_Mod hown hK hP hD hS 0 rfl rfl 23 (by decide) (hts _ t_722) (fun _ h9 => h9) rfl hin rfl (by decide +kernel) rfl rfl (Nat.le_of_ble_eq_true rfl) d_Mod_init_138 (fun H locs hP hD hS => ?_)
  have hP : va_P (dC, dI) CL [(a0, .inr (6, [.int (0 : Int32), .int (1 : Int32), .int (0 : Int32), .double (4617315517961601024 : UInt64), .ref q1, .double (0 : UInt64), .int (0 : Int32), .int (0 : Int32), .int (0 : Int32), .ref q2, .ref q3, .ref q4, .ref q5, .int (0 : Int32), .ref q6, .ref q7, .int (-1 : Int32), .int (-1 : Int32), .int (0 : Int32), .int (0 : Int32), .int (0 : Int32), .ref q8, .int (0 : Int32), .ref q9, .int (0 : Int32)])), (q1, .inl (cD, 3, .inr (.inr (.inr (.inl (fun _ => (0 : UInt64))))))), (q2, .inl (cD, 3, .inr (.inr (.inr (.inl (F6)))))), (q3, .inl (cI, 8, .inl (fun _ => (0 : Int32)))), (q4, .inl (cI, 8, .inl (F22))), (q5, .inl (cI, 12, .inl (fun _ => (0 : Int32)))), (q6, .inl (cL, 72, .inr (.inl (fun _ => (0 : Int64))))), (q7, .inl (cI, 4, .inl (fun _ => (0 : Int32)))), (q8, .inl (cI, 14, .inl (fun _ => (0 : Int32)))), (q9, .inl (cI, 30, .inl (fun _ => (0 : Int32))))] H := hP
  have hD : va_D A [(a0, .inr (6, [.int (0 : Int32), .int (1 : Int32), .int (0 : Int32), .double (4617315517961601024 : UInt64), .ref q1, .double (0 : UInt64), .int (0 : Int32), .int (0 : Int32), .int (0 : Int32), .ref q2, .ref q3, .ref q4, .ref q5, .int (0 : Int32), .ref q6, .ref q7, .int (-1 : Int32), .int (-1 : Int32), .int (0 : Int32), .int (0 : Int32), .int (0 : Int32), .ref q8, .int (0 : Int32), .ref q9, .int (0 : Int32)])), (q1, .inl (cD, 3, .inr (.inr (.inr (.inl (fun _ => (0 : UInt64))))))), (q2, .inl (cD, 3, .inr (.inr (.inr (.inl (F6)))))), (q3, .inl (cI, 8, .inl (fun _ => (0 : Int32)))), (q4, .inl (cI, 8, .inl (F22))), (q5, .inl (cI, 12, .inl (fun _ => (0 : Int32)))), (q6, .inl (cL, 72, .inr (.inl (fun _ => (0 : Int64))))), (q7, .inl (cI, 4, .inl (fun _ => (0 : Int32)))), (q8, .inl (cI, 14, .inl (fun _ => (0 : Int32)))), (q9, .inl (cI, 30, .inl (fun _ => (0 : Int32))))] := hD
  refine lv_iconst (v := 0) hx hb d_Mod_init_141 (by decide) ?_
  refine lv_istore_n (lv' := [(1, .int (0 : Int32)), (0, .ref a0)]) hx hb d_Mod_init_142 rfl hl (by decide) rfl (fun ls hl => ?_)
  have hl := lv_sub hl (l' := [(0, .ref a0), (1, .int (0 : Int32))]) [1, 0] rfl
  refine W.widen (k := 9) (n := 154) (Nat.le_of_ble_eq_true rfl) (Nat.le_of_ble_eq_true rfl) ?_
  have k_143 : ∀ (n : Nat) (v1 : Int32) (u : Int32 × Int32 × Int32 × UInt64 × UInt64 × Int32 × Int32 × Int32 × Int32 × Int32 × Int32 × Int32 × Int32 × Int32 × Int32 × Int32 × (Nat → UInt64) × (Nat → UInt64) × (Nat → Int32) × (Nat → Int32) × (Nat → Int32) × (Nat → Int64) × (Nat → Int32) × (Nat → Int32) × (Nat → Int32)), f_Mod_init_143 n v1 u = some res → ∀ (H : Heap) (locs : List Loc), va_P (dC, dI) CL [(a0, .inr (6, [.int u.1, .int u.2.1, .int u.2.2.1, .double u.2.2.2.1, .ref q1, .double u.2.2.2.2.1, .int u.2.2.2.2.2.1, .int u.2.2.2.2.2.2.1, .int u.2.2.2.2.2.2.2.1, .ref q2, .ref q3, .ref q4, .ref q5, .int u.2.2.2.2.2.2.2.2.1, .ref q6, .ref q7, .int u.2.2.2.2.2.2.2.2.2.1, .int u.2.2.2.2.2.2.2.2.2.2.1, .int u.2.2.2.2.2.2.2.2.2.2.2.1, .int u.2.2.2.2.2.2.2.2.2.2.2.2.1, .int u.2.2.2.2.2.2.2.2.2.2.2.2.2.1, .ref q8, .int u.2.2.2.2.2.2.2.2.2.2.2.2.2.2.1, .ref q9, .int u.2.2.2.2.2.2.2.2.2.2.2.2.2.2.2.1])), (q1, .inl (cD, 3, .inr (.inr (.inr (.inl (u.2.2.2.2.2.2.2.2.2.2.2.2.2.2.2.2.1)))))), (q2, .inl (cD, 3, .inr (.inr (.inr (.inl (u.2.2.2.2.2.2.2.2.2.2.2.2.2.2.2.2.2.1)))))), (q3, .inl (cI, 8, .inl (u.2.2.2.2.2.2.2.2.2.2.2.2.2.2.2.2.2.2.1))), (q4, .inl (cI, 8, .inl (u.2.2.2.2.2.2.2.2.2.2.2.2.2.2.2.2.2.2.2.1))), (q5, .inl (cI, 12, .inl (u.2.2.2.2.2.2.2.2.2.2.2.2.2.2.2.2.2.2.2.2.1))), (q6, .inl (cL, 72, .inr (.inl (u.2.2.2.2.2.2.2.2.2.2.2.2.2.2.2.2.2.2.2.2.2.1)))), (q7, .inl (cI, 4, .inl (u.2.2.2.2.2.2.2.2.2.2.2.2.2.2.2.2.2.2.2.2.2.2.1))), (q8, .inl (cI, 14, .inl (u.2.2.2.2.2.2.2.2.2.2.2.2.2.2.2.2.2.2.2.2.2.2.2.1))), (q9, .inl (cI, 30, .inl (u.2.2.2.2.2.2.2.2.2.2.2.2.2.2.2.2.2.2.2.2.2.2.2.2)))] H → va_D A [(a0, .inr (6, [.int u.1, .int u.2.1, .int u.2.2.1, .double u.2.2.2.1, .ref q1, .double u.2.2.2.2.1, .int u.2.2.2.2.2.1, .int u.2.2.2.2.2.2.1, .int u.2.2.2.2.2.2.2.1, .ref q2, .ref q3, .ref q4, .ref q5, .int u.2.2.2.2.2.2.2.2.1, .ref q6, .ref q7, .int u.2.2.2.2.2.2.2.2.2.1, .int u.2.2.2.2.2.2.2.2.2.2.1, .int u.2.2.2.2.2.2.2.2.2.2.2.1, .int u.2.2.2.2.2.2.2.2.2.2.2.2.1, .int u.2.2.2.2.2.2.2.2.2.2.2.2.2.1, .ref q8, .int u.2.2.2.2.2.2.2.2.2.2.2.2.2.2.1, .ref q9, .int u.2.2.2.2.2.2.2.2.2.2.2.2.2.2.2.1])), (q1, .inl (cD, 3, .inr (.inr (.inr (.inl (u.2.2.2.2.2.2.2.2.2.2.2.2.2.2.2.2.1)))))), (q2, .inl (cD, 3, .inr (.inr (.inr (.inl (u.2.2.2.2.2.2.2.2.2.2.2.2.2.2.2.2.2.1)))))), (q3, .inl (cI, 8, .inl (u.2.2.2.2.2.2.2.2.2.2.2.2.2.2.2.2.2.2.1))), (q4, .inl (cI, 8, .inl (u.2.2.2.2.2.2.2.2.2.2.2.2.2.2.2.2.2.2.2.1))), (q5, .inl (cI, 12, .inl (u.2.2.2.2.2.2.2.2.2.2.2.2.2.2.2.2.2.2.2.2.1))), (q6, .inl (cL, 72, .inr (.inl (u.2.2.2.2.2.2.2.2.2.2.2.2.2.2.2.2.2.2.2.2.2.1)))), (q7, .inl (cI, 4, .inl (u.2.2.2.2.2.2.2.2.2.2.2.2.2.2.2.2.2.2.2.2.2.2.1))), (q8, .inl (cI, 14, .inl (u.2.2.2.2.2.2.2.2.2.2.2.2.2.2.2.2.2.2.2.2.2.2.2.1))), (q9, .inl (cI, 30, .inl (u.2.2.2.2.2.2.2.2.2.2.2.2.2.2.2.2.2.2.2.2.2.2.2.2)))] → va_S A s.heap H locs → ∀ (ls : Array Slot), lv_has ls 2 [(0, .ref a0), (1, .int v1)] → W p l e (headSpec w_Mod_init ({ frames := 1, cells := 9, slots := 154, locals := 12 })).room s m ([.ref a0] : List Value).toArray below meth c H locs 9 154 Q (F0 m 143 ls []) := by
    intro n
    induction n with
    | zero =>
      intro v1 u hf
      simp [f_Mod_init_143] at hf
    | succ n k_143 =>
      intro v1 u hf H locs hP hD hS ls hl
      rw [f_Mod_init_143] at hf
      refine lv_iload_n hx hb d_Mod_init_143 rfl (lv_at hl 1 rfl) ?_
      refine lv_bipush (v := 72) hx hb d_Mod_init_144 (by decide) ?_
      refine lv_icmp_ge (tgt := 164) hx hb d_Mod_init_146 (by decide) (fun c23 => ?_) (fun c23 => ?_)
      · have hf := ite_t c23 hf
        refine W.widen (k := 9) (n := 154) (Nat.le_of_ble_eq_true rfl) (Nat.le_of_ble_eq_true rfl) ?_
        have hP := hP.sub (ws' := [(a0, .inr (6, [.int u.1, .int u.2.1, .int u.2.2.1, .double u.2.2.2.1, .ref q1, .double u.2.2.2.2.1, .int u.2.2.2.2.2.1, .int u.2.2.2.2.2.2.1, .int u.2.2.2.2.2.2.2.1, .ref q2, .ref q3, .ref q4, .ref q5, .int u.2.2.2.2.2.2.2.2.1, .ref q6, .ref q7, .int u.2.2.2.2.2.2.2.2.2.1, .int u.2.2.2.2.2.2.2.2.2.2.1, .int u.2.2.2.2.2.2.2.2.2.2.2.1, .int u.2.2.2.2.2.2.2.2.2.2.2.2.1, .int u.2.2.2.2.2.2.2.2.2.2.2.2.2.1, .ref q8, .int u.2.2.2.2.2.2.2.2.2.2.2.2.2.2.1, .ref q9, .int u.2.2.2.2.2.2.2.2.2.2.2.2.2.2.2.1])), (q1, .inl (cD, 3, .inr (.inr (.inr (.inl (u.2.2.2.2.2.2.2.2.2.2.2.2.2.2.2.2.1)))))), (q2, .inl (cD, 3, .inr (.inr (.inr (.inl (u.2.2.2.2.2.2.2.2.2.2.2.2.2.2.2.2.2.1)))))), (q3, .inl (cI, 8, .inl (u.2.2.2.2.2.2.2.2.2.2.2.2.2.2.2.2.2.2.1))), (q4, .inl (cI, 8, .inl (u.2.2.2.2.2.2.2.2.2.2.2.2.2.2.2.2.2.2.2.1))), (q5, .inl (cI, 12, .inl (u.2.2.2.2.2.2.2.2.2.2.2.2.2.2.2.2.2.2.2.2.1))), (q6, .inl (cL, 72, .inr (.inl (u.2.2.2.2.2.2.2.2.2.2.2.2.2.2.2.2.2.2.2.2.2.1)))), (q7, .inl (cI, 4, .inl (u.2.2.2.2.2.2.2.2.2.2.2.2.2.2.2.2.2.2.2.2.2.2.1))), (q8, .inl (cI, 14, .inl (u.2.2.2.2.2.2.2.2.2.2.2.2.2.2.2.2.2.2.2.2.2.2.2.1))), (q9, .inl (cI, 30, .inl (u.2.2.2.2.2.2.2.2.2.2.2.2.2.2.2.2.2.2.2.2.2.2.2.2)))]) [0, 1, 2, 3, 4, 5, 6, 7, 8, 9] rfl
        have hD := hD.sub (ws' := [(a0, .inr (6, [.int u.1, .int u.2.1, .int u.2.2.1, .double u.2.2.2.1, .ref q1, .double u.2.2.2.2.1, .int u.2.2.2.2.2.1, .int u.2.2.2.2.2.2.1, .int u.2.2.2.2.2.2.2.1, .ref q2, .ref q3, .ref q4, .ref q5, .int u.2.2.2.2.2.2.2.2.1, .ref q6, .ref q7, .int u.2.2.2.2.2.2.2.2.2.1, .int u.2.2.2.2.2.2.2.2.2.2.1, .int u.2.2.2.2.2.2.2.2.2.2.2.1, .int u.2.2.2.2.2.2.2.2.2.2.2.2.1, .int u.2.2.2.2.2.2.2.2.2.2.2.2.2.1, .ref q8, .int u.2.2.2.2.2.2.2.2.2.2.2.2.2.2.1, .ref q9, .int u.2.2.2.2.2.2.2.2.2.2.2.2.2.2.2.1])), (q1, .inl (cD, 3, .inr (.inr (.inr (.inl (u.2.2.2.2.2.2.2.2.2.2.2.2.2.2.2.2.1)))))), (q2, .inl (cD, 3, .inr (.inr (.inr (.inl (u.2.2.2.2.2.2.2.2.2.2.2.2.2.2.2.2.2.1)))))), (q3, .inl (cI, 8, .inl (u.2.2.2.2.2.2.2.2.2.2.2.2.2.2.2.2.2.2.1))), (q4, .inl (cI, 8, .inl (u.2.2.2.2.2.2.2.2.2.2.2.2.2.2.2.2.2.2.2.1))), (q5, .inl (cI, 12, .inl (u.2.2.2.2.2.2.2.2.2.2.2.2.2.2.2.2.2.2.2.2.1))), (q6, .inl (cL, 72, .inr (.inl (u.2.2.2.2.2.2.2.2.2.2.2.2.2.2.2.2.2.2.2.2.2.1)))), (q7, .inl (cI, 4, .inl (u.2.2.2.2.2.2.2.2.2.2.2.2.2.2.2.2.2.2.2.2.2.2.1))), (q8, .inl (cI, 14, .inl (u.2.2.2.2.2.2.2.2.2.2.2.2.2.2.2.2.2.2.2.2.2.2.2.1))), (q9, .inl (cI, 30, .inl (u.2.2.2.2.2.2.2.2.2.2.2.2.2.2.2.2.2.2.2.2.2.2.2.2)))]) [0, 1, 2, 3, 4, 5, 6, 7, 8, 9] (by decide) rfl
        have hf := Option.some.inj hf
        rw [hQe]
        exact W.vret hx hb hr (fun t ht hW => ⟨⟨(u.1, u.2.1, u.2.2.1, u.2.2.2.1, u.2.2.2.2.2.2.2.2.2.2.2.2.2.2.2.2.1, u.2.2.2.2.1, u.2.2.2.2.2.1, u.2.2.2.2.2.2.1, u.2.2.2.2.2.2.2.1, u.2.2.2.2.2.2.2.2.2.2.2.2.2.2.2.2.2.1, u.2.2.2.2.2.2.2.2.2.2.2.2.2.2.2.2.2.2.1, u.2.2.2.2.2.2.2.2.2.2.2.2.2.2.2.2.2.2.2.1, u.2.2.2.2.2.2.2.2.2.2.2.2.2.2.2.2.2.2.2.2.1, u.2.2.2.2.2.2.2.2.1, u.2.2.2.2.2.2.2.2.2.2.2.2.2.2.2.2.2.2.2.2.2.1, u.2.2.2.2.2.2.2.2.2.2.2.2.2.2.2.2.2.2.2.2.2.2.1, u.2.2.2.2.2.2.2.2.2.1, u.2.2.2.2.2.2.2.2.2.2.1, u.2.2.2.2.2.2.2.2.2.2.2.1, u.2.2.2.2.2.2.2.2.2.2.2.2.1, u.2.2.2.2.2.2.2.2.2.2.2.2.2.1, u.2.2.2.2.2.2.2.2.2.2.2.2.2.2.2.2.2.2.2.2.2.2.2.1, u.2.2.2.2.2.2.2.2.2.2.2.2.2.2.1, u.2.2.2.2.2.2.2.2.2.2.2.2.2.2.2.2.2.2.2.2.2.2.2.2, u.2.2.2.2.2.2.2.2.2.2.2.2.2.2.2.1), rfl, hf, q1, q2, q3, q4, q5, q6, q7, q8, q9, by rw [ht]; exact hP, va_K.moved hW.alike hK, hD⟩, hS.F ht⟩) hS.2.2 d_Mod_init_164
      · have hf := ite_f c23 hf
        refine lv_aload_n hx hb d_Mod_init_149 rfl (lv_at hl 0 rfl) ?_
        refine va_get (D := (dC, dI)) (ci := 6) (v := .ref q6) (C := R_Mod) (T := T_Mod) (N := 25) hx hb hts in_Mod hown hK hP 0 rfl rfl 14 (by decide) (hts _ t_713) (fun _ h9 => h9) rfl d_Mod_init_150 ?_
        refine lv_iload_n hx hb d_Mod_init_153 rfl (lv_at hl 1 rfl) ?_
        refine lv_ldc2 (v := -1) hx hb hown (hts _ t_698) d_Mod_init_154 ?_
        obtain ⟨h24, hf⟩ := gi_t hf
        refine va_last hx hb hK hP hD hS 6 1 rfl rfl h24 d_Mod_init_157 (fun H locs hP hD hS => ?_)
        obtain ⟨F25, eF25⟩ : ∃ y : Nat → Int64, y = vp_updL u.2.2.2.2.2.2.2.2.2.2.2.2.2.2.2.2.2.2.2.2.2.1 v1.toNatClampNeg (-1 : Int64) := ⟨_, rfl⟩
        have hf := bd_t eF25 hf
        have hP : va_P (dC, dI) CL [(a0, .inr (6, [.int u.1, .int u.2.1, .int u.2.2.1, .double u.2.2.2.1, .ref q1, .double u.2.2.2.2.1, .int u.2.2.2.2.2.1, .int u.2.2.2.2.2.2.1, .int u.2.2.2.2.2.2.2.1, .ref q2, .ref q3, .ref q4, .ref q5, .int u.2.2.2.2.2.2.2.2.1, .ref q6, .ref q7, .int u.2.2.2.2.2.2.2.2.2.1, .int u.2.2.2.2.2.2.2.2.2.2.1, .int u.2.2.2.2.2.2.2.2.2.2.2.1, .int u.2.2.2.2.2.2.2.2.2.2.2.2.1, .int u.2.2.2.2.2.2.2.2.2.2.2.2.2.1, .ref q8, .int u.2.2.2.2.2.2.2.2.2.2.2.2.2.2.1, .ref q9, .int u.2.2.2.2.2.2.2.2.2.2.2.2.2.2.2.1])), (q1, .inl (cD, 3, .inr (.inr (.inr (.inl (u.2.2.2.2.2.2.2.2.2.2.2.2.2.2.2.2.1)))))), (q2, .inl (cD, 3, .inr (.inr (.inr (.inl (u.2.2.2.2.2.2.2.2.2.2.2.2.2.2.2.2.2.1)))))), (q3, .inl (cI, 8, .inl (u.2.2.2.2.2.2.2.2.2.2.2.2.2.2.2.2.2.2.1))), (q4, .inl (cI, 8, .inl (u.2.2.2.2.2.2.2.2.2.2.2.2.2.2.2.2.2.2.2.1))), (q5, .inl (cI, 12, .inl (u.2.2.2.2.2.2.2.2.2.2.2.2.2.2.2.2.2.2.2.2.1))), (q6, .inl (cL, 72, .inr (.inl (F25)))), (q7, .inl (cI, 4, .inl (u.2.2.2.2.2.2.2.2.2.2.2.2.2.2.2.2.2.2.2.2.2.2.1))), (q8, .inl (cI, 14, .inl (u.2.2.2.2.2.2.2.2.2.2.2.2.2.2.2.2.2.2.2.2.2.2.2.1))), (q9, .inl (cI, 30, .inl (u.2.2.2.2.2.2.2.2.2.2.2.2.2.2.2.2.2.2.2.2.2.2.2.2)))] H := by rw [eF25]; exact hP
        have hD : va_D A [(a0, .inr (6, [.int u.1, .int u.2.1, .int u.2.2.1, .double u.2.2.2.1, .ref q1, .double u.2.2.2.2.1, .int u.2.2.2.2.2.1, .int u.2.2.2.2.2.2.1, .int u.2.2.2.2.2.2.2.1, .ref q2, .ref q3, .ref q4, .ref q5, .int u.2.2.2.2.2.2.2.2.1, .ref q6, .ref q7, .int u.2.2.2.2.2.2.2.2.2.1, .int u.2.2.2.2.2.2.2.2.2.2.1, .int u.2.2.2.2.2.2.2.2.2.2.2.1, .int u.2.2.2.2.2.2.2.2.2.2.2.2.1, .int u.2.2.2.2.2.2.2.2.2.2.2.2.2.1, .ref q8, .int u.2.2.2.2.2.2.2.2.2.2.2.2.2.2.1, .ref q9, .int u.2.2.2.2.2.2.2.2.2.2.2.2.2.2.2.1])), (q1, .inl (cD, 3, .inr (.inr (.inr (.inl (u.2.2.2.2.2.2.2.2.2.2.2.2.2.2.2.2.1)))))), (q2, .inl (cD, 3, .inr (.inr (.inr (.inl (u.2.2.2.2.2.2.2.2.2.2.2.2.2.2.2.2.2.1)))))), (q3, .inl (cI, 8, .inl (u.2.2.2.2.2.2.2.2.2.2.2.2.2.2.2.2.2.2.1))), (q4, .inl (cI, 8, .inl (u.2.2.2.2.2.2.2.2.2.2.2.2.2.2.2.2.2.2.2.1))), (q5, .inl (cI, 12, .inl (u.2.2.2.2.2.2.2.2.2.2.2.2.2.2.2.2.2.2.2.2.1))), (q6, .inl (cL, 72, .inr (.inl (F25)))), (q7, .inl (cI, 4, .inl (u.2.2.2.2.2.2.2.2.2.2.2.2.2.2.2.2.2.2.2.2.2.2.1))), (q8, .inl (cI, 14, .inl (u.2.2.2.2.2.2.2.2.2.2.2.2.2.2.2.2.2.2.2.2.2.2.2.1))), (q9, .inl (cI, 30, .inl (u.2.2.2.2.2.2.2.2.2.2.2.2.2.2.2.2.2.2.2.2.2.2.2.2)))] := by rw [eF25]; exact hD
        obtain ⟨x26, ex26⟩ : ∃ y : Int32, y = v1 + (1 : Int32) := ⟨_, rfl⟩
        have hf := bd_t ex26 hf
        refine lv_iinc (v := x26) (lv' := [(1, .int x26), (0, .ref a0)]) hx hb d_Mod_init_158 hl (k := 1) rfl (by rw [ex26]; rfl) (by decide) rfl (fun ls hl => ?_)
        refine lv_goto (tgt := 143) hx hb d_Mod_init_161 (by decide) ?_
        have hl := lv_sub hl (l' := [(0, .ref a0), (1, .int x26)]) [1, 0] rfl
        exact k_143 x26 (u.1, u.2.1, u.2.2.1, u.2.2.2.1, u.2.2.2.2.1, u.2.2.2.2.2.1, u.2.2.2.2.2.2.1, u.2.2.2.2.2.2.2.1, u.2.2.2.2.2.2.2.2.1, u.2.2.2.2.2.2.2.2.2.1, u.2.2.2.2.2.2.2.2.2.2.1, u.2.2.2.2.2.2.2.2.2.2.2.1, u.2.2.2.2.2.2.2.2.2.2.2.2.1, u.2.2.2.2.2.2.2.2.2.2.2.2.2.1, u.2.2.2.2.2.2.2.2.2.2.2.2.2.2.1, u.2.2.2.2.2.2.2.2.2.2.2.2.2.2.2.1, u.2.2.2.2.2.2.2.2.2.2.2.2.2.2.2.2.1, u.2.2.2.2.2.2.2.2.2.2.2.2.2.2.2.2.2.1, u.2.2.2.2.2.2.2.2.2.2.2.2.2.2.2.2.2.2.1, u.2.2.2.2.2.2.2.2.2.2.2.2.2.2.2.2.2.2.2.1, u.2.2.2.2.2.2.2.2.2.2.2.2.2.2.2.2.2.2.2.2.1, F25, u.2.2.2.2.2.2.2.2.2.2.2.2.2.2.2.2.2.2.2.2.2.2.1, u.2.2.2.2.2.2.2.2.2.2.2.2.2.2.2.2.2.2.2.2.2.2.2.1, u.2.2.2.2.2.2.2.2.2.2.2.2.2.2.2.2.2.2.2.2.2.2.2.2) hf _ _ hP hD hS ls hl
  exact k_143 100 (0 : Int32) ((0 : Int32), (1 : Int32), (0 : Int32), (4617315517961601024 : UInt64), (0 : UInt64), (0 : Int32), (0 : Int32), (0 : Int32), (0 : Int32), (-1 : Int32), (-1 : Int32), (0 : Int32), (0 : Int32), (0 : Int32), (0 : Int32), (0 : Int32), fun _ => (0 : UInt64), F6, fun _ => (0 : Int32), F22, fun _ => (0 : Int32), fun _ => (0 : Int64), fun _ => (0 : Int32), fun _ => (0 : Int32), fun _ => (0 : Int32)) hf _ _ hP hD hS ls hl
