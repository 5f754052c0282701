def f_law_28 (xs : Nat → Int32) (L : Nat) : Nat → Int32 → (S_Box × S_Mod × (Nat → Int64) × (Nat → UInt64)) → Option Int32
  | 0, _, _ => none
  | n + 1, v5, u => bd (Int32.ofNat L - (5 : Int32)) (fun x1 : Int32 => (if x1 < v5 then some (1 : Int32) else gi v5 L (bd (xs v5.toNatClampNeg) (fun x2 : Int32 => bd (x2 &&& (15 : Int32)) (fun x3 : Int32 => (if x3 = (0 : Int32) then f_law_112 xs L (fun (v5 : Int32) (u : S_Box × S_Mod × (Nat → Int64) × (Nat → UInt64)) => bd (v5 + (5 : Int32)) (fun x9 : Int32 => f_law_28 xs L n x9 u)) v5 u else (if x3 = (1 : Int32) then f_law_204 xs L (fun (v5 : Int32) (u : S_Box × S_Mod × (Nat → Int64) × (Nat → UInt64)) => bd (v5 + (5 : Int32)) (fun x9 : Int32 => f_law_28 xs L n x9 u)) v5 u else (if x3 = (2 : Int32) then f_law_304 xs L (fun (v5 : Int32) (u : S_Box × S_Mod × (Nat → Int64) × (Nat → UInt64)) => bd (v5 + (5 : Int32)) (fun x9 : Int32 => f_law_28 xs L n x9 u)) v5 u else (if x3 = (3 : Int32) then f_law_392 xs L (fun (v5 : Int32) (u : S_Box × S_Mod × (Nat → Int64) × (Nat → UInt64)) => bd (v5 + (5 : Int32)) (fun x9 : Int32 => f_law_28 xs L n x9 u)) v5 u else (if x3 = (4 : Int32) then f_law_436 xs L (fun (v5 : Int32) (u : S_Box × S_Mod × (Nat → Int64) × (Nat → UInt64)) => bd (v5 + (5 : Int32)) (fun x9 : Int32 => f_law_28 xs L n x9 u)) v5 u else (if x3 = (5 : Int32) then f_law_480 xs L (fun (v5 : Int32) (u : S_Box × S_Mod × (Nat → Int64) × (Nat → UInt64)) => bd (v5 + (5 : Int32)) (fun x9 : Int32 => f_law_28 xs L n x9 u)) v5 u else (if x3 = (6 : Int32) then f_law_536 xs L (fun (v5 : Int32) (u : S_Box × S_Mod × (Nat → Int64) × (Nat → UInt64)) => bd (v5 + (5 : Int32)) (fun x9 : Int32 => f_law_28 xs L n x9 u)) v5 u else (if x3 = (7 : Int32) then f_law_608 xs L (fun (v5 : Int32) (u : S_Box × S_Mod × (Nat → Int64) × (Nat → UInt64)) => bd (v5 + (5 : Int32)) (fun x9 : Int32 => f_law_28 xs L n x9 u)) v5 u else (if x3 = (8 : Int32) then f_law_664 xs L (fun (v5 : Int32) (u : S_Box × S_Mod × (Nat → Int64) × (Nat → UInt64)) => bd (v5 + (5 : Int32)) (fun x9 : Int32 => f_law_28 xs L n x9 u)) v5 u else (if x3 = (9 : Int32) then f_law_720 xs L (fun (v5 : Int32) (u : S_Box × S_Mod × (Nat → Int64) × (Nat → UInt64)) => bd (v5 + (5 : Int32)) (fun x9 : Int32 => f_law_28 xs L n x9 u)) v5 u else (if x3 = (10 : Int32) then f_law_787 xs L (fun (v5 : Int32) (u : S_Box × S_Mod × (Nat → Int64) × (Nat → UInt64)) => bd (v5 + (5 : Int32)) (fun x9 : Int32 => f_law_28 xs L n x9 u)) v5 u else (if x3 = (11 : Int32) then f_law_864 xs L (fun (v5 : Int32) (u : S_Box × S_Mod × (Nat → Int64) × (Nat → UInt64)) => bd (v5 + (5 : Int32)) (fun x9 : Int32 => f_law_28 xs L n x9 u)) v5 u else (if x3 = (12 : Int32) then f_law_941 xs L (fun (v5 : Int32) (u : S_Box × S_Mod × (Nat → Int64) × (Nat → UInt64)) => bd (v5 + (5 : Int32)) (fun x9 : Int32 => f_law_28 xs L n x9 u)) v5 u else (fun (v5 : Int32) (u : S_Box × S_Mod × (Nat → Int64) × (Nat → UInt64)) => bd (v5 + (5 : Int32)) (fun x9 : Int32 => f_law_28 xs L n x9 u)) v5 u))))))))))))))))))
set_option maxHeartbeats 4000000 in
set_option maxRecDepth 100000 in
theorem law_head {p : Program} {e : Env} {s : State} {m : MethodId} {below : List Frame} {meth : Method} {c : Code} (l : Launch) (hnt : l.stackTraces = false) (sa : Nat → Nat) {dC : Nat → ClassId} {dI : Nat → Nat → Nat} {cI cL cD : ClassId} {b L : Nat} {xs : Nat → Int32} (C0 : lw_At p s m meth c b L xs) (A : Nat → Prop) (hA : ∀ q : Nat, s.heap.size ≤ q → A q) (hbA : ¬ A b) (hK : va_K (dC, dI) CL [(cI, .int), (cL, .long), (cD, .double)] s) (hAM : AM sa A s) (hNC : NCs s) (a0 a1 a2 a3 a4 a5 a6 a7 a8 a9 a10 a11 a12 a13 a14 a15 a16 a17 a18 a19 a20 a21 a22 a23 a24 a25 a26 a27 a28 : Nat) (hA2 : ∀ q : Nat, A q → s.heap.size ≤ q) : ∀ (n j : Nat), j + n ≤ 600 → ∀ (v5 : Int32) (u : S_Box × S_Mod × (Nat → Int64) × (Nat → UInt64)), f_law_28 xs L n v5 u = some 1 → ∀ (H : Heap) (locs : List Loc), va_P (dC, dI) CL [(a0, .inr (5, [.ref a1, .ref a2, .ref a5, .ref a7, .ref a9, .ref a13, .int u.1.2.2.2.2.2.2])), (a1, .inl (cD, 3, .inr (.inr (.inr (.inl (u.1.1)))))), (a2, .inr (3, [.ref a3, .ref a4])), (a3, .inl (cI, 8, .inl (u.1.2.1.1))), (a4, .inl (cI, 8, .inl (u.1.2.1.2))), (a5, .inr (4, [.ref a6, .int u.1.2.2.1.2.1, .double u.1.2.2.1.2.2.1, .double u.1.2.2.1.2.2.2.1, .int u.1.2.2.1.2.2.2.2.1, .int u.1.2.2.1.2.2.2.2.2.1, .int u.1.2.2.1.2.2.2.2.2.2])), (a6, .inl (cD, 3, .inr (.inr (.inr (.inl (u.1.2.2.1.1)))))), (a7, .inr (0, [.ref a8, .int u.1.2.2.2.1.2])), (a8, .inl (cI, 12, .inl (u.1.2.2.2.1.1))), (a9, .inr (1, [.ref a10, .ref a11, .ref a12, .int u.1.2.2.2.2.1.2.2.2.1, .int u.1.2.2.2.2.1.2.2.2.2])), (a10, .inl (cL, 72, .inr (.inl (u.1.2.2.2.2.1.1)))), (a11, .inl (cI, 4, .inl (u.1.2.2.2.2.1.2.1))), (a12, .inl (cL, 6, .inr (.inl (u.1.2.2.2.2.1.2.2.1)))), (a13, .inr (2, [.ref a14, .ref a15, .ref a16, .int u.1.2.2.2.2.2.1.2.2.2.1, .int u.1.2.2.2.2.2.1.2.2.2.2.1, .int u.1.2.2.2.2.2.1.2.2.2.2.2.1, .int u.1.2.2.2.2.2.1.2.2.2.2.2.2])), (a14, .inl (cI, 12, .inl (u.1.2.2.2.2.2.1.1))), (a15, .inl (cI, 11, .inl (u.1.2.2.2.2.2.1.2.1))), (a16, .inl (cI, 24, .inl (u.1.2.2.2.2.2.1.2.2.1))), (a17, .inr (6, [.int u.2.1.1, .int u.2.1.2.1, .int u.2.1.2.2.1, .double u.2.1.2.2.2.1, .ref a18, .double u.2.1.2.2.2.2.2.1, .int u.2.1.2.2.2.2.2.2.1, .int u.2.1.2.2.2.2.2.2.2.1, .int u.2.1.2.2.2.2.2.2.2.2.1, .ref a19, .ref a20, .ref a21, .ref a22, .int u.2.1.2.2.2.2.2.2.2.2.2.2.2.2.2.1, .ref a23, .ref a24, .int u.2.1.2.2.2.2.2.2.2.2.2.2.2.2.2.2.2.2.1, .int u.2.1.2.2.2.2.2.2.2.2.2.2.2.2.2.2.2.2.2.1, .int u.2.1.2.2.2.2.2.2.2.2.2.2.2.2.2.2.2.2.2.2.1, .int u.2.1.2.2.2.2.2.2.2.2.2.2.2.2.2.2.2.2.2.2.2.1, .int u.2.1.2.2.2.2.2.2.2.2.2.2.2.2.2.2.2.2.2.2.2.2.1, .ref a25, .int u.2.1.2.2.2.2.2.2.2.2.2.2.2.2.2.2.2.2.2.2.2.2.2.2.1, .ref a26, .int u.2.1.2.2.2.2.2.2.2.2.2.2.2.2.2.2.2.2.2.2.2.2.2.2.2.2])), (a18, .inl (cD, 3, .inr (.inr (.inr (.inl (u.2.1.2.2.2.2.1)))))), (a19, .inl (cD, 3, .inr (.inr (.inr (.inl (u.2.1.2.2.2.2.2.2.2.2.2.1)))))), (a20, .inl (cI, 8, .inl (u.2.1.2.2.2.2.2.2.2.2.2.2.1))), (a21, .inl (cI, 8, .inl (u.2.1.2.2.2.2.2.2.2.2.2.2.2.1))), (a22, .inl (cI, 12, .inl (u.2.1.2.2.2.2.2.2.2.2.2.2.2.2.1))), (a23, .inl (cL, 72, .inr (.inl (u.2.1.2.2.2.2.2.2.2.2.2.2.2.2.2.2.1)))), (a24, .inl (cI, 4, .inl (u.2.1.2.2.2.2.2.2.2.2.2.2.2.2.2.2.2.1))), (a25, .inl (cI, 14, .inl (u.2.1.2.2.2.2.2.2.2.2.2.2.2.2.2.2.2.2.2.2.2.2.2.1))), (a26, .inl (cI, 30, .inl (u.2.1.2.2.2.2.2.2.2.2.2.2.2.2.2.2.2.2.2.2.2.2.2.2.2.1))), (a27, .inl (cL, 1, .inr (.inl (u.2.2.1)))), (a28, .inl (cD, 1, .inr (.inr (.inr (.inl (u.2.2.2))))))] H → va_D A [(a0, .inr (5, [.ref a1, .ref a2, .ref a5, .ref a7, .ref a9, .ref a13, .int u.1.2.2.2.2.2.2])), (a1, .inl (cD, 3, .inr (.inr (.inr (.inl (u.1.1)))))), (a2, .inr (3, [.ref a3, .ref a4])), (a3, .inl (cI, 8, .inl (u.1.2.1.1))), (a4, .inl (cI, 8, .inl (u.1.2.1.2))), (a5, .inr (4, [.ref a6, .int u.1.2.2.1.2.1, .double u.1.2.2.1.2.2.1, .double u.1.2.2.1.2.2.2.1, .int u.1.2.2.1.2.2.2.2.1, .int u.1.2.2.1.2.2.2.2.2.1, .int u.1.2.2.1.2.2.2.2.2.2])), (a6, .inl (cD, 3, .inr (.inr (.inr (.inl (u.1.2.2.1.1)))))), (a7, .inr (0, [.ref a8, .int u.1.2.2.2.1.2])), (a8, .inl (cI, 12, .inl (u.1.2.2.2.1.1))), (a9, .inr (1, [.ref a10, .ref a11, .ref a12, .int u.1.2.2.2.2.1.2.2.2.1, .int u.1.2.2.2.2.1.2.2.2.2])), (a10, .inl (cL, 72, .inr (.inl (u.1.2.2.2.2.1.1)))), (a11, .inl (cI, 4, .inl (u.1.2.2.2.2.1.2.1))), (a12, .inl (cL, 6, .inr (.inl (u.1.2.2.2.2.1.2.2.1)))), (a13, .inr (2, [.ref a14, .ref a15, .ref a16, .int u.1.2.2.2.2.2.1.2.2.2.1, .int u.1.2.2.2.2.2.1.2.2.2.2.1, .int u.1.2.2.2.2.2.1.2.2.2.2.2.1, .int u.1.2.2.2.2.2.1.2.2.2.2.2.2])), (a14, .inl (cI, 12, .inl (u.1.2.2.2.2.2.1.1))), (a15, .inl (cI, 11, .inl (u.1.2.2.2.2.2.1.2.1))), (a16, .inl (cI, 24, .inl (u.1.2.2.2.2.2.1.2.2.1))), (a17, .inr (6, [.int u.2.1.1, .int u.2.1.2.1, .int u.2.1.2.2.1, .double u.2.1.2.2.2.1, .ref a18, .double u.2.1.2.2.2.2.2.1, .int u.2.1.2.2.2.2.2.2.1, .int u.2.1.2.2.2.2.2.2.2.1, .int u.2.1.2.2.2.2.2.2.2.2.1, .ref a19, .ref a20, .ref a21, .ref a22, .int u.2.1.2.2.2.2.2.2.2.2.2.2.2.2.2.1, .ref a23, .ref a24, .int u.2.1.2.2.2.2.2.2.2.2.2.2.2.2.2.2.2.2.1, .int u.2.1.2.2.2.2.2.2.2.2.2.2.2.2.2.2.2.2.2.1, .int u.2.1.2.2.2.2.2.2.2.2.2.2.2.2.2.2.2.2.2.2.1, .int u.2.1.2.2.2.2.2.2.2.2.2.2.2.2.2.2.2.2.2.2.2.1, .int u.2.1.2.2.2.2.2.2.2.2.2.2.2.2.2.2.2.2.2.2.2.2.1, .ref a25, .int u.2.1.2.2.2.2.2.2.2.2.2.2.2.2.2.2.2.2.2.2.2.2.2.2.1, .ref a26, .int u.2.1.2.2.2.2.2.2.2.2.2.2.2.2.2.2.2.2.2.2.2.2.2.2.2.2])), (a18, .inl (cD, 3, .inr (.inr (.inr (.inl (u.2.1.2.2.2.2.1)))))), (a19, .inl (cD, 3, .inr (.inr (.inr (.inl (u.2.1.2.2.2.2.2.2.2.2.2.1)))))), (a20, .inl (cI, 8, .inl (u.2.1.2.2.2.2.2.2.2.2.2.2.1))), (a21, .inl (cI, 8, .inl (u.2.1.2.2.2.2.2.2.2.2.2.2.2.1))), (a22, .inl (cI, 12, .inl (u.2.1.2.2.2.2.2.2.2.2.2.2.2.2.1))), (a23, .inl (cL, 72, .inr (.inl (u.2.1.2.2.2.2.2.2.2.2.2.2.2.2.2.2.1)))), (a24, .inl (cI, 4, .inl (u.2.1.2.2.2.2.2.2.2.2.2.2.2.2.2.2.2.1))), (a25, .inl (cI, 14, .inl (u.2.1.2.2.2.2.2.2.2.2.2.2.2.2.2.2.2.2.2.2.2.2.2.1))), (a26, .inl (cI, 30, .inl (u.2.1.2.2.2.2.2.2.2.2.2.2.2.2.2.2.2.2.2.2.2.2.2.2.2.1))), (a27, .inl (cL, 1, .inr (.inl (u.2.2.1)))), (a28, .inl (cD, 1, .inr (.inr (.inr (.inl (u.2.2.2))))))] → va_S A s.heap H locs → ∀ (ls : Array Slot), lv_has ls 9 [(0, .ref b), (1, .ref a0), (2, .ref a17), (3, .ref a27), (4, .ref a28), (5, .int v5)] → W p l e room_1 s m #[Value.ref b] below meth c H locs (29 + 5 * j) (374 + 30 * j) (lw_Z below #[Value.ref b] s) (F0 m 28 ls []) := by
  obtain ⟨hx, hb, hr, hml, hown, hts0, hX, hbl, hlocks, hgv⟩ := id C0
  have hts : ∀ w ∈ TB, w.before #[Value.ref b] s = true := fun w h => hts0 w (TB_lw w h)
  have hown : s.vm.findClass R_Law = some m.cls := hown
  have hN := hAM.1
  intro n
  induction n with
  | zero =>
    intro j hj v5 u hf
    simp [f_law_28] at hf
  | succ n ih =>
    intro j hj v5 u hf H locs hP hD hS ls hl
    rw [f_law_28] at hf
    refine lv_iload hx hb d_Law_law_28 (lv_at hl 5 rfl) ?_
    refine lv_aload_n hx hb d_Law_law_30 rfl (lv_at hl 0 rfl) ?_
    refine va_slen hx hb hX hbl hbA hS d_Law_law_31 ?_
    refine lv_iconst (v := 5) hx hb d_Law_law_32 (by decide) ?_
    refine lv_isub hx hb d_Law_law_33 ?_
    refine lv_topi (fun x1 ex1 => ?_)
    have hf := bd_t ex1 hf
    refine lv_icmp_gt (tgt := 1003) hx hb d_Law_law_34 (by decide) (fun c1 => ?_) (fun c1 => ?_)
    · refine lv_iconst (v := 1) hx hb d_Law_law_1003 (by decide) ?_
      refine va_forget (fun q hq => hA2 _ (hS.2.2 q hq)) ?_
      refine W.widen (k := 644627) (n := 7162224) (by omega) (by omega) ?_
      exact lw_ret hx hb hr hlocks d_Law_law_1004
    · have hf := ite_f c1 hf
      obtain ⟨h2, hf⟩ := gi_t hf
      refine lv_aload_n hx hb d_Law_law_37 rfl (lv_at hl 0 rfl) ?_
      refine lv_iload hx hb d_Law_law_38 (lv_at hl 5 rfl) ?_
      refine va_sld hx hb hX hbl hbA hS h2 d_Law_law_40 ?_
      refine lv_topi (fun x2 ex2 => ?_)
      have hf := bd_t ex2 hf
      refine lv_bipush (v := 15) hx hb d_Law_law_41 (by decide) ?_
      refine lv_iand hx hb d_Law_law_43 ?_
      refine lv_topi (fun x3 ex3 => ?_)
      have hf := bd_t ex3 hf
      have kinc : ∀ (v5 : Int32) (u : S_Box × S_Mod × (Nat → Int64) × (Nat → UInt64)), (fun (v5 : Int32) (u : S_Box × S_Mod × (Nat → Int64) × (Nat → UInt64)) => bd (v5 + (5 : Int32)) (fun x9 : Int32 => f_law_28 xs L n x9 u)) v5 u = some 1 → ∀ (H : Heap) (locs : List Loc), va_P (dC, dI) CL [(a0, .inr (5, [.ref a1, .ref a2, .ref a5, .ref a7, .ref a9, .ref a13, .int u.1.2.2.2.2.2.2])), (a1, .inl (cD, 3, .inr (.inr (.inr (.inl (u.1.1)))))), (a2, .inr (3, [.ref a3, .ref a4])), (a3, .inl (cI, 8, .inl (u.1.2.1.1))), (a4, .inl (cI, 8, .inl (u.1.2.1.2))), (a5, .inr (4, [.ref a6, .int u.1.2.2.1.2.1, .double u.1.2.2.1.2.2.1, .double u.1.2.2.1.2.2.2.1, .int u.1.2.2.1.2.2.2.2.1, .int u.1.2.2.1.2.2.2.2.2.1, .int u.1.2.2.1.2.2.2.2.2.2])), (a6, .inl (cD, 3, .inr (.inr (.inr (.inl (u.1.2.2.1.1)))))), (a7, .inr (0, [.ref a8, .int u.1.2.2.2.1.2])), (a8, .inl (cI, 12, .inl (u.1.2.2.2.1.1))), (a9, .inr (1, [.ref a10, .ref a11, .ref a12, .int u.1.2.2.2.2.1.2.2.2.1, .int u.1.2.2.2.2.1.2.2.2.2])), (a10, .inl (cL, 72, .inr (.inl (u.1.2.2.2.2.1.1)))), (a11, .inl (cI, 4, .inl (u.1.2.2.2.2.1.2.1))), (a12, .inl (cL, 6, .inr (.inl (u.1.2.2.2.2.1.2.2.1)))), (a13, .inr (2, [.ref a14, .ref a15, .ref a16, .int u.1.2.2.2.2.2.1.2.2.2.1, .int u.1.2.2.2.2.2.1.2.2.2.2.1, .int u.1.2.2.2.2.2.1.2.2.2.2.2.1, .int u.1.2.2.2.2.2.1.2.2.2.2.2.2])), (a14, .inl (cI, 12, .inl (u.1.2.2.2.2.2.1.1))), (a15, .inl (cI, 11, .inl (u.1.2.2.2.2.2.1.2.1))), (a16, .inl (cI, 24, .inl (u.1.2.2.2.2.2.1.2.2.1))), (a17, .inr (6, [.int u.2.1.1, .int u.2.1.2.1, .int u.2.1.2.2.1, .double u.2.1.2.2.2.1, .ref a18, .double u.2.1.2.2.2.2.2.1, .int u.2.1.2.2.2.2.2.2.1, .int u.2.1.2.2.2.2.2.2.2.1, .int u.2.1.2.2.2.2.2.2.2.2.1, .ref a19, .ref a20, .ref a21, .ref a22, .int u.2.1.2.2.2.2.2.2.2.2.2.2.2.2.2.1, .ref a23, .ref a24, .int u.2.1.2.2.2.2.2.2.2.2.2.2.2.2.2.2.2.2.1, .int u.2.1.2.2.2.2.2.2.2.2.2.2.2.2.2.2.2.2.2.1, .int u.2.1.2.2.2.2.2.2.2.2.2.2.2.2.2.2.2.2.2.2.1, .int u.2.1.2.2.2.2.2.2.2.2.2.2.2.2.2.2.2.2.2.2.2.1, .int u.2.1.2.2.2.2.2.2.2.2.2.2.2.2.2.2.2.2.2.2.2.2.1, .ref a25, .int u.2.1.2.2.2.2.2.2.2.2.2.2.2.2.2.2.2.2.2.2.2.2.2.2.1, .ref a26, .int u.2.1.2.2.2.2.2.2.2.2.2.2.2.2.2.2.2.2.2.2.2.2.2.2.2.2])), (a18, .inl (cD, 3, .inr (.inr (.inr (.inl (u.2.1.2.2.2.2.1)))))), (a19, .inl (cD, 3, .inr (.inr (.inr (.inl (u.2.1.2.2.2.2.2.2.2.2.2.1)))))), (a20, .inl (cI, 8, .inl (u.2.1.2.2.2.2.2.2.2.2.2.2.1))), (a21, .inl (cI, 8, .inl (u.2.1.2.2.2.2.2.2.2.2.2.2.2.1))), (a22, .inl (cI, 12, .inl (u.2.1.2.2.2.2.2.2.2.2.2.2.2.2.1))), (a23, .inl (cL, 72, .inr (.inl (u.2.1.2.2.2.2.2.2.2.2.2.2.2.2.2.2.1)))), (a24, .inl (cI, 4, .inl (u.2.1.2.2.2.2.2.2.2.2.2.2.2.2.2.2.2.1))), (a25, .inl (cI, 14, .inl (u.2.1.2.2.2.2.2.2.2.2.2.2.2.2.2.2.2.2.2.2.2.2.2.1))), (a26, .inl (cI, 30, .inl (u.2.1.2.2.2.2.2.2.2.2.2.2.2.2.2.2.2.2.2.2.2.2.2.2.2.1))), (a27, .inl (cL, 1, .inr (.inl (u.2.2.1)))), (a28, .inl (cD, 1, .inr (.inr (.inr (.inl (u.2.2.2))))))] H → va_D A [(a0, .inr (5, [.ref a1, .ref a2, .ref a5, .ref a7, .ref a9, .ref a13, .int u.1.2.2.2.2.2.2])), (a1, .inl (cD, 3, .inr (.inr (.inr (.inl (u.1.1)))))), (a2, .inr (3, [.ref a3, .ref a4])), (a3, .inl (cI, 8, .inl (u.1.2.1.1))), (a4, .inl (cI, 8, .inl (u.1.2.1.2))), (a5, .inr (4, [.ref a6, .int u.1.2.2.1.2.1, .double u.1.2.2.1.2.2.1, .double u.1.2.2.1.2.2.2.1, .int u.1.2.2.1.2.2.2.2.1, .int u.1.2.2.1.2.2.2.2.2.1, .int u.1.2.2.1.2.2.2.2.2.2])), (a6, .inl (cD, 3, .inr (.inr (.inr (.inl (u.1.2.2.1.1)))))), (a7, .inr (0, [.ref a8, .int u.1.2.2.2.1.2])), (a8, .inl (cI, 12, .inl (u.1.2.2.2.1.1))), (a9, .inr (1, [.ref a10, .ref a11, .ref a12, .int u.1.2.2.2.2.1.2.2.2.1, .int u.1.2.2.2.2.1.2.2.2.2])), (a10, .inl (cL, 72, .inr (.inl (u.1.2.2.2.2.1.1)))), (a11, .inl (cI, 4, .inl (u.1.2.2.2.2.1.2.1))), (a12, .inl (cL, 6, .inr (.inl (u.1.2.2.2.2.1.2.2.1)))), (a13, .inr (2, [.ref a14, .ref a15, .ref a16, .int u.1.2.2.2.2.2.1.2.2.2.1, .int u.1.2.2.2.2.2.1.2.2.2.2.1, .int u.1.2.2.2.2.2.1.2.2.2.2.2.1, .int u.1.2.2.2.2.2.1.2.2.2.2.2.2])), (a14, .inl (cI, 12, .inl (u.1.2.2.2.2.2.1.1))), (a15, .inl (cI, 11, .inl (u.1.2.2.2.2.2.1.2.1))), (a16, .inl (cI, 24, .inl (u.1.2.2.2.2.2.1.2.2.1))), (a17, .inr (6, [.int u.2.1.1, .int u.2.1.2.1, .int u.2.1.2.2.1, .double u.2.1.2.2.2.1, .ref a18, .double u.2.1.2.2.2.2.2.1, .int u.2.1.2.2.2.2.2.2.1, .int u.2.1.2.2.2.2.2.2.2.1, .int u.2.1.2.2.2.2.2.2.2.2.1, .ref a19, .ref a20, .ref a21, .ref a22, .int u.2.1.2.2.2.2.2.2.2.2.2.2.2.2.2.1, .ref a23, .ref a24, .int u.2.1.2.2.2.2.2.2.2.2.2.2.2.2.2.2.2.2.1, .int u.2.1.2.2.2.2.2.2.2.2.2.2.2.2.2.2.2.2.2.1, .int u.2.1.2.2.2.2.2.2.2.2.2.2.2.2.2.2.2.2.2.2.1, .int u.2.1.2.2.2.2.2.2.2.2.2.2.2.2.2.2.2.2.2.2.2.1, .int u.2.1.2.2.2.2.2.2.2.2.2.2.2.2.2.2.2.2.2.2.2.2.1, .ref a25, .int u.2.1.2.2.2.2.2.2.2.2.2.2.2.2.2.2.2.2.2.2.2.2.2.2.1, .ref a26, .int u.2.1.2.2.2.2.2.2.2.2.2.2.2.2.2.2.2.2.2.2.2.2.2.2.2.2])), (a18, .inl (cD, 3, .inr (.inr (.inr (.inl (u.2.1.2.2.2.2.1)))))), (a19, .inl (cD, 3, .inr (.inr (.inr (.inl (u.2.1.2.2.2.2.2.2.2.2.2.1)))))), (a20, .inl (cI, 8, .inl (u.2.1.2.2.2.2.2.2.2.2.2.2.1))), (a21, .inl (cI, 8, .inl (u.2.1.2.2.2.2.2.2.2.2.2.2.2.1))), (a22, .inl (cI, 12, .inl (u.2.1.2.2.2.2.2.2.2.2.2.2.2.2.1))), (a23, .inl (cL, 72, .inr (.inl (u.2.1.2.2.2.2.2.2.2.2.2.2.2.2.2.2.1)))), (a24, .inl (cI, 4, .inl (u.2.1.2.2.2.2.2.2.2.2.2.2.2.2.2.2.2.1))), (a25, .inl (cI, 14, .inl (u.2.1.2.2.2.2.2.2.2.2.2.2.2.2.2.2.2.2.2.2.2.2.2.1))), (a26, .inl (cI, 30, .inl (u.2.1.2.2.2.2.2.2.2.2.2.2.2.2.2.2.2.2.2.2.2.2.2.2.2.1))), (a27, .inl (cL, 1, .inr (.inl (u.2.2.1)))), (a28, .inl (cD, 1, .inr (.inr (.inr (.inl (u.2.2.2))))))] → va_S A s.heap H locs → ∀ (ls : Array Slot), lv_has ls 9 [(0, .ref b), (1, .ref a0), (2, .ref a17), (3, .ref a27), (4, .ref a28), (5, .int v5)] → W p l e room_1 s m #[Value.ref b] below meth c H locs (29 + 5 * j + 5) (374 + 30 * j + 30) (lw_Z below #[Value.ref b] s) (F0 m 997 ls []) := by
        intro v5 u hf H locs hP hD hS ls hl
        obtain ⟨x9, ex9⟩ : ∃ y : Int32, y = v5 + (5 : Int32) := ⟨_, rfl⟩
        have hf := bd_t ex9 hf
        refine lv_iinc (v := x9) (lv' := [(5, .int x9), (0, .ref b), (1, .ref a0), (2, .ref a17), (3, .ref a27), (4, .ref a28)]) hx hb d_Law_law_997 hl (k := 5) rfl (by rw [ex9]; rfl) (by decide) rfl (fun ls hl => ?_)
        refine lv_goto (tgt := 28) hx hb d_Law_law_1000 (by decide) ?_
        refine W.widen (k := 29 + 5 * (j + 1)) (n := 374 + 30 * (j + 1)) (by omega) (by omega) ?_
        exact ih (j + 1) (by omega) x9 u hf _ _ hP hD hS ls (lv_sub hl [1, 2, 3, 4, 5, 0] rfl)
      by_cases cc0 : x3 = 0
      · have hf := ite_t cc0 hf
        refine sw_at cc0 ?_
        refine lv_tableIn (tgt := 112) (off := 68) hx hb d_Law_law_44 (by decide) (by decide) (by decide) (by decide) ?_
        exact lc_112 l hnt sa C0 A hA hbA hK hAM hNC a0 a1 a2 a3 a4 a5 a6 a7 a8 a9 a10 a11 a12 a13 a14 a15 a16 a17 a18 a19 a20 a21 a22 a23 a24 a25 a26 a27 a28 (29 + 5 * j) (374 + 30 * j) (by omega) (by omega) _ kinc v5 u hf _ _ hP hD hS ls hl
      have hf := ite_f cc0 hf
      by_cases cc1 : x3 = 1
      · have hf := ite_t cc1 hf
        refine sw_at cc1 ?_
        refine lv_tableIn (tgt := 204) (off := 160) hx hb d_Law_law_44 (by decide) (by decide) (by decide) (by decide) ?_
        exact lc_204 l hnt sa C0 A hA hbA hK hAM hNC a0 a1 a2 a3 a4 a5 a6 a7 a8 a9 a10 a11 a12 a13 a14 a15 a16 a17 a18 a19 a20 a21 a22 a23 a24 a25 a26 a27 a28 (29 + 5 * j) (374 + 30 * j) (by omega) (by omega) _ kinc v5 u hf _ _ hP hD hS ls hl
      have hf := ite_f cc1 hf
      by_cases cc2 : x3 = 2
      · have hf := ite_t cc2 hf
        refine sw_at cc2 ?_
        refine lv_tableIn (tgt := 304) (off := 260) hx hb d_Law_law_44 (by decide) (by decide) (by decide) (by decide) ?_
        exact lc_304 l hnt sa C0 A hA hbA hK hAM hNC a0 a1 a2 a3 a4 a5 a6 a7 a8 a9 a10 a11 a12 a13 a14 a15 a16 a17 a18 a19 a20 a21 a22 a23 a24 a25 a26 a27 a28 (29 + 5 * j) (374 + 30 * j) (by omega) (by omega) _ kinc v5 u hf _ _ hP hD hS ls hl
      have hf := ite_f cc2 hf
      by_cases cc3 : x3 = 3
      · have hf := ite_t cc3 hf
        refine sw_at cc3 ?_
        refine lv_tableIn (tgt := 392) (off := 348) hx hb d_Law_law_44 (by decide) (by decide) (by decide) (by decide) ?_
        exact lc_392 l hnt sa C0 A hA hbA hK hAM hNC a0 a1 a2 a3 a4 a5 a6 a7 a8 a9 a10 a11 a12 a13 a14 a15 a16 a17 a18 a19 a20 a21 a22 a23 a24 a25 a26 a27 a28 (29 + 5 * j) (374 + 30 * j) (by omega) (by omega) _ kinc v5 u hf _ _ hP hD hS ls hl
      have hf := ite_f cc3 hf
      by_cases cc4 : x3 = 4
      · have hf := ite_t cc4 hf
        refine sw_at cc4 ?_
        refine lv_tableIn (tgt := 436) (off := 392) hx hb d_Law_law_44 (by decide) (by decide) (by decide) (by decide) ?_
        exact lc_436 l hnt sa C0 A hA hbA hK hAM hNC a0 a1 a2 a3 a4 a5 a6 a7 a8 a9 a10 a11 a12 a13 a14 a15 a16 a17 a18 a19 a20 a21 a22 a23 a24 a25 a26 a27 a28 (29 + 5 * j) (374 + 30 * j) (by omega) (by omega) _ kinc v5 u hf _ _ hP hD hS ls hl
      have hf := ite_f cc4 hf
      by_cases cc5 : x3 = 5
      · have hf := ite_t cc5 hf
        refine sw_at cc5 ?_
        refine lv_tableIn (tgt := 480) (off := 436) hx hb d_Law_law_44 (by decide) (by decide) (by decide) (by decide) ?_
        exact lc_480 l hnt sa C0 A hA hbA hK hAM hNC a0 a1 a2 a3 a4 a5 a6 a7 a8 a9 a10 a11 a12 a13 a14 a15 a16 a17 a18 a19 a20 a21 a22 a23 a24 a25 a26 a27 a28 (29 + 5 * j) (374 + 30 * j) (by omega) (by omega) _ kinc v5 u hf _ _ hP hD hS ls hl
      have hf := ite_f cc5 hf
      by_cases cc6 : x3 = 6
      · have hf := ite_t cc6 hf
        refine sw_at cc6 ?_
        refine lv_tableIn (tgt := 536) (off := 492) hx hb d_Law_law_44 (by decide) (by decide) (by decide) (by decide) ?_
        exact lc_536 l hnt sa C0 A hA hbA hK hAM hNC a0 a1 a2 a3 a4 a5 a6 a7 a8 a9 a10 a11 a12 a13 a14 a15 a16 a17 a18 a19 a20 a21 a22 a23 a24 a25 a26 a27 a28 (29 + 5 * j) (374 + 30 * j) (by omega) (by omega) _ kinc v5 u hf _ _ hP hD hS ls hl
      have hf := ite_f cc6 hf
      by_cases cc7 : x3 = 7
      · have hf := ite_t cc7 hf
        refine sw_at cc7 ?_
        refine lv_tableIn (tgt := 608) (off := 564) hx hb d_Law_law_44 (by decide) (by decide) (by decide) (by decide) ?_
        exact lc_608 l hnt sa C0 A hA hbA hK hAM hNC a0 a1 a2 a3 a4 a5 a6 a7 a8 a9 a10 a11 a12 a13 a14 a15 a16 a17 a18 a19 a20 a21 a22 a23 a24 a25 a26 a27 a28 (29 + 5 * j) (374 + 30 * j) (by omega) (by omega) _ kinc v5 u hf _ _ hP hD hS ls hl
      have hf := ite_f cc7 hf
      by_cases cc8 : x3 = 8
      · have hf := ite_t cc8 hf
        refine sw_at cc8 ?_
        refine lv_tableIn (tgt := 664) (off := 620) hx hb d_Law_law_44 (by decide) (by decide) (by decide) (by decide) ?_
        exact lc_664 l hnt sa C0 A hA hbA hK hAM hNC a0 a1 a2 a3 a4 a5 a6 a7 a8 a9 a10 a11 a12 a13 a14 a15 a16 a17 a18 a19 a20 a21 a22 a23 a24 a25 a26 a27 a28 (29 + 5 * j) (374 + 30 * j) (by omega) (by omega) _ kinc v5 u hf _ _ hP hD hS ls hl
      have hf := ite_f cc8 hf
      by_cases cc9 : x3 = 9
      · have hf := ite_t cc9 hf
        refine sw_at cc9 ?_
        refine lv_tableIn (tgt := 720) (off := 676) hx hb d_Law_law_44 (by decide) (by decide) (by decide) (by decide) ?_
        exact lc_720 l hnt sa C0 A hA hbA hK hAM hNC a0 a1 a2 a3 a4 a5 a6 a7 a8 a9 a10 a11 a12 a13 a14 a15 a16 a17 a18 a19 a20 a21 a22 a23 a24 a25 a26 a27 a28 (29 + 5 * j) (374 + 30 * j) (by omega) (by omega) _ kinc v5 u hf _ _ hP hD hS ls hl
      have hf := ite_f cc9 hf
      by_cases cc10 : x3 = 10
      · have hf := ite_t cc10 hf
        refine sw_at cc10 ?_
        refine lv_tableIn (tgt := 787) (off := 743) hx hb d_Law_law_44 (by decide) (by decide) (by decide) (by decide) ?_
        exact lc_787 l hnt sa C0 A hA hbA hK hAM hNC a0 a1 a2 a3 a4 a5 a6 a7 a8 a9 a10 a11 a12 a13 a14 a15 a16 a17 a18 a19 a20 a21 a22 a23 a24 a25 a26 a27 a28 (29 + 5 * j) (374 + 30 * j) (by omega) (by omega) _ kinc v5 u hf _ _ hP hD hS ls hl
      have hf := ite_f cc10 hf
      by_cases cc11 : x3 = 11
      · have hf := ite_t cc11 hf
        refine sw_at cc11 ?_
        refine lv_tableIn (tgt := 864) (off := 820) hx hb d_Law_law_44 (by decide) (by decide) (by decide) (by decide) ?_
        exact lc_864 l hnt sa C0 A hA hbA hK hAM hNC a0 a1 a2 a3 a4 a5 a6 a7 a8 a9 a10 a11 a12 a13 a14 a15 a16 a17 a18 a19 a20 a21 a22 a23 a24 a25 a26 a27 a28 (29 + 5 * j) (374 + 30 * j) (by omega) (by omega) _ kinc v5 u hf _ _ hP hD hS ls hl
      have hf := ite_f cc11 hf
      by_cases cc12 : x3 = 12
      · have hf := ite_t cc12 hf
        refine sw_at cc12 ?_
        refine lv_tableIn (tgt := 941) (off := 897) hx hb d_Law_law_44 (by decide) (by decide) (by decide) (by decide) ?_
        exact lc_941 l hnt sa C0 A hA hbA hK hAM hNC a0 a1 a2 a3 a4 a5 a6 a7 a8 a9 a10 a11 a12 a13 a14 a15 a16 a17 a18 a19 a20 a21 a22 a23 a24 a25 a26 a27 a28 (29 + 5 * j) (374 + 30 * j) (by omega) (by omega) _ kinc v5 u hf _ _ hP hD hS ls hl
      have hf := ite_f cc12 hf
      refine lv_tableOut (tgt := 997) hx hb d_Law_law_44 (by have q0 := sw_ne (n := 0) (by decide) cc0; have q1 := sw_ne (n := 1) (by decide) cc1; have q2 := sw_ne (n := 2) (by decide) cc2; have q3 := sw_ne (n := 3) (by decide) cc3; have q4 := sw_ne (n := 4) (by decide) cc4; have q5 := sw_ne (n := 5) (by decide) cc5; have q6 := sw_ne (n := 6) (by decide) cc6; have q7 := sw_ne (n := 7) (by decide) cc7; have q8 := sw_ne (n := 8) (by decide) cc8; have q9 := sw_ne (n := 9) (by decide) cc9; have q10 := sw_ne (n := 10) (by decide) cc10; have q11 := sw_ne (n := 11) (by decide) cc11; have q12 := sw_ne (n := 12) (by decide) cc12; omega) (by decide) ?_
      refine W.widen (k := 29 + 5 * j + 5) (n := 374 + 30 * j + 30) (by omega) (by omega) ?_
      exact kinc v5 u hf _ _ hP hD hS ls hl
