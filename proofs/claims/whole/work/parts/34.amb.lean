/-! what surrounds a method that may throw: words that the tables alone decide, String constants, two statics of Throwable -/
def XW : List Cond := [Cond.castable "java/lang/IllegalArgumentException" "java/lang/IllegalArgumentException", Cond.castable "java/lang/IllegalStateException" "java/lang/IllegalStateException", Cond.castable "java/lang/ArithmeticException" "java/lang/ArithmeticException", Cond.castable "java/lang/UnsupportedOperationException" "java/lang/UnsupportedOperationException", Cond.castable "java/util/NoSuchElementException" "java/util/NoSuchElementException", Cond.castable "java/lang/IndexOutOfBoundsException" "java/lang/IndexOutOfBoundsException", Cond.declares ⟨"java/lang/RuntimeException", "<init>", "(Ljava/lang/String;)V"⟩, Cond.declares ⟨"java/lang/Exception", "<init>", "(Ljava/lang/String;)V"⟩, Cond.declares ⟨"java/lang/Throwable", "<init>", "(Ljava/lang/String;)V"⟩]
def XWs (U : State) : Prop := ∀ w ∈ XW, va_Nw w U
theorem XW_in : ∀ w ∈ XW, w ∈ lw_tbl := by decide +kernel
theorem XW_ok : ∀ w ∈ XW, w.onTables = true ∧ w.keepsFace = true := by decide +kernel
theorem XWs.warm {s U : State} (hW : s.WarmedH U.vm) (h : XWs s) : XWs U := fun w hw => va_tabs (XW_ok w hw).1 (rfl : (s.setVm U.vm).vm = U.vm) (Cond.before_shiftedFace (State.Shifted.of_warmed hW) w (XW_ok w hw).2 (h w hw))
theorem XWs.same {u U : State} (hv : u.vm = U.vm) (h : XWs u) : XWs U := fun w hw => va_Nw.same (XW_ok w hw).1 hv (h w hw)
def STRS : List (Nat × String) := [(89, "power failed at the beginning of a day"), (98, "no token"), (111, "a wrong check or an unknown kind"), (120, "the token is not new"), (142, "used before, or not needed"), (151, "it is so already"), (174, "a request has 4 to 12 bytes"), (179, "a wrong FCS"), (191, "an unknown command or argument"), (206, "the reply has no such byte"), (234, "a number out of range"), (236, "the meter is off"), (281, "all sectors are worn out"), (283, "power failed while saving")]
def AM (sa : Nat → Nat) (A : Nat → Prop) (U : State) : Prop := NWs U ∧ XWs U ∧ (∀ q ∈ STRS, vk_R R_Box q.1 q.2 (sa q.1) U) ∧ vx_Zq Bundle.tN "UNASSIGNED_STACK" Bundle.steD A U U.heap ∧ vx_Zq Bundle.tN "SUPPRESSED_SENTINEL" Bundle.listD A U U.heap
theorem AM.frame {sa : Nat → Nat} {A : Nat → Prop} {U : State} {g : JFrame} {mk : MethodId} {a : Array Value} (h : AM sa A U) : AM sa A (U.calling g mk a) :=
  ⟨NWs.same (u := U) (U := U.calling g mk a) rfl h.1, XWs.same (u := U) (U := U.calling g mk a) rfl h.2.1, fun q hq => vk_R.same (u := U) (U := U.calling g mk a) rfl (h.2.2.1 q hq), vx_Zq.moved (u := U) (U := U.calling g mk a) (Vm.Alike.refl U.vm) h.2.2.2.1, vx_Zq.moved (u := U) (U := U.calling g mk a) (Vm.Alike.refl U.vm) h.2.2.2.2⟩
theorem AM.go {sa : Nat → Nat} {A B : Nat → Prop} {s U : State} {H : Heap} {locs : List Loc} (h : AM sa A s) (hS : va_S A s.heap H locs) (hU : U.heap = H) (hW : s.WarmedH U.vm) (hB : ∀ q, B q → A q) : AM sa B U := by
  refine ⟨h.1.warm hW, h.2.1.warm hW, fun q hq => vk_R.warm hW (h.2.2.1 q hq), ?_, ?_⟩
  · rw [hU]; exact (vx_Zq.moved hW.alike (h.2.2.2.1.kept hS.2.1)).narrow hB
  · rw [hU]; exact (vx_Zq.moved hW.alike (h.2.2.2.2.kept hS.2.1)).narrow hB
theorem str_89 {sa : Nat → Nat} {A : Nat → Prop} {U : State} (h : AM sa A U) : vk_R R_Box 89 "power failed at the beginning of a day" (sa 89) U := h.2.2.1 (89, "power failed at the beginning of a day") (List.mem_of_getElem? (i := 0) rfl)
theorem str_98 {sa : Nat → Nat} {A : Nat → Prop} {U : State} (h : AM sa A U) : vk_R R_Box 98 "no token" (sa 98) U := h.2.2.1 (98, "no token") (List.mem_of_getElem? (i := 1) rfl)
theorem str_111 {sa : Nat → Nat} {A : Nat → Prop} {U : State} (h : AM sa A U) : vk_R R_Box 111 "a wrong check or an unknown kind" (sa 111) U := h.2.2.1 (111, "a wrong check or an unknown kind") (List.mem_of_getElem? (i := 2) rfl)
theorem str_120 {sa : Nat → Nat} {A : Nat → Prop} {U : State} (h : AM sa A U) : vk_R R_Box 120 "the token is not new" (sa 120) U := h.2.2.1 (120, "the token is not new") (List.mem_of_getElem? (i := 3) rfl)
theorem str_142 {sa : Nat → Nat} {A : Nat → Prop} {U : State} (h : AM sa A U) : vk_R R_Box 142 "used before, or not needed" (sa 142) U := h.2.2.1 (142, "used before, or not needed") (List.mem_of_getElem? (i := 4) rfl)
theorem str_151 {sa : Nat → Nat} {A : Nat → Prop} {U : State} (h : AM sa A U) : vk_R R_Box 151 "it is so already" (sa 151) U := h.2.2.1 (151, "it is so already") (List.mem_of_getElem? (i := 5) rfl)
theorem str_174 {sa : Nat → Nat} {A : Nat → Prop} {U : State} (h : AM sa A U) : vk_R R_Box 174 "a request has 4 to 12 bytes" (sa 174) U := h.2.2.1 (174, "a request has 4 to 12 bytes") (List.mem_of_getElem? (i := 6) rfl)
theorem str_179 {sa : Nat → Nat} {A : Nat → Prop} {U : State} (h : AM sa A U) : vk_R R_Box 179 "a wrong FCS" (sa 179) U := h.2.2.1 (179, "a wrong FCS") (List.mem_of_getElem? (i := 7) rfl)
theorem str_191 {sa : Nat → Nat} {A : Nat → Prop} {U : State} (h : AM sa A U) : vk_R R_Box 191 "an unknown command or argument" (sa 191) U := h.2.2.1 (191, "an unknown command or argument") (List.mem_of_getElem? (i := 8) rfl)
theorem str_206 {sa : Nat → Nat} {A : Nat → Prop} {U : State} (h : AM sa A U) : vk_R R_Box 206 "the reply has no such byte" (sa 206) U := h.2.2.1 (206, "the reply has no such byte") (List.mem_of_getElem? (i := 9) rfl)
theorem str_234 {sa : Nat → Nat} {A : Nat → Prop} {U : State} (h : AM sa A U) : vk_R R_Box 234 "a number out of range" (sa 234) U := h.2.2.1 (234, "a number out of range") (List.mem_of_getElem? (i := 10) rfl)
theorem str_236 {sa : Nat → Nat} {A : Nat → Prop} {U : State} (h : AM sa A U) : vk_R R_Box 236 "the meter is off" (sa 236) U := h.2.2.1 (236, "the meter is off") (List.mem_of_getElem? (i := 11) rfl)
theorem str_281 {sa : Nat → Nat} {A : Nat → Prop} {U : State} (h : AM sa A U) : vk_R R_Box 281 "all sectors are worn out" (sa 281) U := h.2.2.1 (281, "all sectors are worn out") (List.mem_of_getElem? (i := 12) rfl)
theorem str_283 {sa : Nat → Nat} {A : Nat → Prop} {U : State} (h : AM sa A U) : vk_R R_Box 283 "power failed while saving" (sa 283) U := h.2.2.1 (283, "power failed while saving") (List.mem_of_getElem? (i := 13) rfl)
theorem hg_IllegalArgument : ∀ w ∈ Cond.classLink R_Box 96 "java/lang/IllegalArgumentException" :: Cond.initialized "java/lang/IllegalArgumentException" :: vx_atS R_Box 100 "java/lang/IllegalArgumentException" ["java/lang/RuntimeException", "java/lang/Exception"], vx_ot w = true := by decide +kernel
theorem ha_IllegalArgument_1 : ∀ w ∈ (vx_atS R_Box 100 "java/lang/IllegalArgumentException" ["java/lang/RuntimeException", "java/lang/Exception"]).filter goodWord, w ∈ TB := by decide +kernel
theorem ha_IllegalArgument_2 : ∀ w ∈ (vx_atS R_Box 100 "java/lang/IllegalArgumentException" ["java/lang/RuntimeException", "java/lang/Exception"]).filter (fun w => !goodWord w), w ∈ XW := by decide +kernel
theorem ha_IllegalArgument {args : Array Value} {s : State} (hts : ∀ w ∈ TB, w.before args s = true) (hX : XWs s) : ∀ w ∈ vx_atS R_Box 100 "java/lang/IllegalArgumentException" ["java/lang/RuntimeException", "java/lang/Exception"], w.before args s = true := vx_hat (fun w h => hts w (ha_IllegalArgument_1 w h)) ha_IllegalArgument_2 (fun w h => va_Nw.use (XW_ok w h).1 (hX w h))
theorem hg_IllegalState : ∀ w ∈ Cond.classLink R_Box 149 "java/lang/IllegalStateException" :: Cond.initialized "java/lang/IllegalStateException" :: vx_atS R_Box 153 "java/lang/IllegalStateException" ["java/lang/RuntimeException", "java/lang/Exception"], vx_ot w = true := by decide +kernel
theorem ha_IllegalState_1 : ∀ w ∈ (vx_atS R_Box 153 "java/lang/IllegalStateException" ["java/lang/RuntimeException", "java/lang/Exception"]).filter goodWord, w ∈ TB := by decide +kernel
theorem ha_IllegalState_2 : ∀ w ∈ (vx_atS R_Box 153 "java/lang/IllegalStateException" ["java/lang/RuntimeException", "java/lang/Exception"]).filter (fun w => !goodWord w), w ∈ XW := by decide +kernel
theorem ha_IllegalState {args : Array Value} {s : State} (hts : ∀ w ∈ TB, w.before args s = true) (hX : XWs s) : ∀ w ∈ vx_atS R_Box 153 "java/lang/IllegalStateException" ["java/lang/RuntimeException", "java/lang/Exception"], w.before args s = true := vx_hat (fun w h => hts w (ha_IllegalState_1 w h)) ha_IllegalState_2 (fun w h => va_Nw.use (XW_ok w h).1 (hX w h))
theorem hg_Arithmetic : ∀ w ∈ Cond.classLink R_Box 87 "java/lang/ArithmeticException" :: Cond.initialized "java/lang/ArithmeticException" :: vx_atS R_Box 91 "java/lang/ArithmeticException" ["java/lang/RuntimeException", "java/lang/Exception"], vx_ot w = true := by decide +kernel
theorem ha_Arithmetic_1 : ∀ w ∈ (vx_atS R_Box 91 "java/lang/ArithmeticException" ["java/lang/RuntimeException", "java/lang/Exception"]).filter goodWord, w ∈ TB := by decide +kernel
theorem ha_Arithmetic_2 : ∀ w ∈ (vx_atS R_Box 91 "java/lang/ArithmeticException" ["java/lang/RuntimeException", "java/lang/Exception"]).filter (fun w => !goodWord w), w ∈ XW := by decide +kernel
theorem ha_Arithmetic {args : Array Value} {s : State} (hts : ∀ w ∈ TB, w.before args s = true) (hX : XWs s) : ∀ w ∈ vx_atS R_Box 91 "java/lang/ArithmeticException" ["java/lang/RuntimeException", "java/lang/Exception"], w.before args s = true := vx_hat (fun w h => hts w (ha_Arithmetic_1 w h)) ha_Arithmetic_2 (fun w h => va_Nw.use (XW_ok w h).1 (hX w h))
theorem hg_UnsupportedOperation : ∀ w ∈ Cond.classLink R_Box 109 "java/lang/UnsupportedOperationException" :: Cond.initialized "java/lang/UnsupportedOperationException" :: vx_atS R_Box 113 "java/lang/UnsupportedOperationException" ["java/lang/RuntimeException", "java/lang/Exception"], vx_ot w = true := by decide +kernel
theorem ha_UnsupportedOperation_1 : ∀ w ∈ (vx_atS R_Box 113 "java/lang/UnsupportedOperationException" ["java/lang/RuntimeException", "java/lang/Exception"]).filter goodWord, w ∈ TB := by decide +kernel
theorem ha_UnsupportedOperation_2 : ∀ w ∈ (vx_atS R_Box 113 "java/lang/UnsupportedOperationException" ["java/lang/RuntimeException", "java/lang/Exception"]).filter (fun w => !goodWord w), w ∈ XW := by decide +kernel
theorem ha_UnsupportedOperation {args : Array Value} {s : State} (hts : ∀ w ∈ TB, w.before args s = true) (hX : XWs s) : ∀ w ∈ vx_atS R_Box 113 "java/lang/UnsupportedOperationException" ["java/lang/RuntimeException", "java/lang/Exception"], w.before args s = true := vx_hat (fun w h => hts w (ha_UnsupportedOperation_1 w h)) ha_UnsupportedOperation_2 (fun w h => va_Nw.use (XW_ok w h).1 (hX w h))
theorem hg_IndexOutOfBounds : ∀ w ∈ Cond.classLink R_Box 204 "java/lang/IndexOutOfBoundsException" :: Cond.initialized "java/lang/IndexOutOfBoundsException" :: vx_atS R_Box 208 "java/lang/IndexOutOfBoundsException" ["java/lang/RuntimeException", "java/lang/Exception"], vx_ot w = true := by decide +kernel
theorem ha_IndexOutOfBounds_1 : ∀ w ∈ (vx_atS R_Box 208 "java/lang/IndexOutOfBoundsException" ["java/lang/RuntimeException", "java/lang/Exception"]).filter goodWord, w ∈ TB := by decide +kernel
theorem ha_IndexOutOfBounds_2 : ∀ w ∈ (vx_atS R_Box 208 "java/lang/IndexOutOfBoundsException" ["java/lang/RuntimeException", "java/lang/Exception"]).filter (fun w => !goodWord w), w ∈ XW := by decide +kernel
theorem ha_IndexOutOfBounds {args : Array Value} {s : State} (hts : ∀ w ∈ TB, w.before args s = true) (hX : XWs s) : ∀ w ∈ vx_atS R_Box 208 "java/lang/IndexOutOfBoundsException" ["java/lang/RuntimeException", "java/lang/Exception"], w.before args s = true := vx_hat (fun w h => hts w (ha_IndexOutOfBounds_1 w h)) ha_IndexOutOfBounds_2 (fun w h => va_Nw.use (XW_ok w h).1 (hX w h))
theorem xthrow {D : va_G} {cl : List vw_C} {ws : va_W} {A : Nat → Prop} {s t : State} {H : Heap} {locs : List Loc} (hP : va_P D cl ws H) (hS : va_S A s.heap H locs) (hz : H.size ≤ t.heap.size) (hq : ∀ q : Nat, q < H.size → t.heap[q]? = H[q]?) : va_P D cl ws t.heap ∧ va_F A s t :=
  ⟨hP.kept (fun k q hk => hq q.1 (hP k q hk).lt), Nat.le_trans hS.1 hz, fun q h1 h2 => (hq q (Nat.lt_of_lt_of_le h1 hS.1)).trans (hS.2.1 q h1 h2)⟩
def cxk {ρ σ β : Type} (res : Except (String × σ) (ρ × σ)) (kx : String → σ → Option β) (k : ρ → σ → Option β) : Option β := match res with
  | .error (E, u) => kx E u
  | .ok (r, u) => k r u
theorem cx_t {ρ σ β : Type} {x : Option (Except (String × σ) (ρ × σ))} {kx : String → σ → Option β} {k : ρ → σ → Option β} {b : β} (h : cx x kx k = some b) : ∃ res, x = some res ∧ cxk res kx k = some b := by
  cases x with
  | none => cases h
  | some q =>
    refine ⟨q, rfl, ?_⟩
    cases q <;> exact h
theorem cxk_ok {ρ σ β : Type} {res : Except (String × σ) (ρ × σ)} {kx : String → σ → Option β} {k : ρ → σ → Option β} {b : β} {r : ρ} {u : σ} (hr : res = .ok (r, u)) (h : cxk res kx k = some b) : k r u = some b := by subst hr; exact h
theorem cxk_er {ρ σ β : Type} {res : Except (String × σ) (ρ × σ)} {kx : String → σ → Option β} {k : ρ → σ → Option β} {b : β} {E : String} {u : σ} (hr : res = .error (E, u)) (h : cxk res kx k = some b) : kx E u = some b := by subst hr; exact h
def cxvk {σ β : Type} (res : Except (String × σ) σ) (kx : String → σ → Option β) (k : σ → Option β) : Option β := match res with
  | .error (E, u) => kx E u
  | .ok u => k u
theorem cxv_t {σ β : Type} {x : Option (Except (String × σ) σ)} {kx : String → σ → Option β} {k : σ → Option β} {b : β} (h : cxv x kx k = some b) : ∃ res, x = some res ∧ cxvk res kx k = some b := by
  cases x with
  | none => cases h
  | some q =>
    refine ⟨q, rfl, ?_⟩
    cases q <;> exact h
theorem cxvk_ok {σ β : Type} {res : Except (String × σ) σ} {kx : String → σ → Option β} {k : σ → Option β} {b : β} {u : σ} (hr : res = .ok u) (h : cxvk res kx k = some b) : k u = some b := by subst hr; exact h
theorem cxvk_er {σ β : Type} {res : Except (String × σ) σ} {kx : String → σ → Option β} {k : σ → Option β} {b : β} {E : String} {u : σ} (hr : res = .error (E, u)) (h : cxvk res kx k = some b) : kx E u = some b := by subst hr; exact h
