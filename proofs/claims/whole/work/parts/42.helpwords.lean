theorem xw_0 : Cond.castable "java/lang/IllegalArgumentException" "java/lang/IllegalArgumentException" ∈ XW := List.mem_of_getElem? (i := 0) rfl
theorem xw_1 : Cond.castable "java/lang/IllegalStateException" "java/lang/IllegalStateException" ∈ XW := List.mem_of_getElem? (i := 1) rfl
theorem xw_2 : Cond.castable "java/lang/ArithmeticException" "java/lang/ArithmeticException" ∈ XW := List.mem_of_getElem? (i := 2) rfl
theorem xw_3 : Cond.castable "java/lang/UnsupportedOperationException" "java/lang/UnsupportedOperationException" ∈ XW := List.mem_of_getElem? (i := 3) rfl
theorem xw_4 : Cond.castable "java/util/NoSuchElementException" "java/util/NoSuchElementException" ∈ XW := List.mem_of_getElem? (i := 4) rfl
theorem xw_5 : Cond.castable "java/lang/IndexOutOfBoundsException" "java/lang/IndexOutOfBoundsException" ∈ XW := List.mem_of_getElem? (i := 5) rfl
def NCL : List (String × String) := [("java/lang/IllegalStateException", "java/lang/IllegalArgumentException"), ("java/lang/ArithmeticException", "java/lang/IllegalArgumentException"), ("java/lang/ArithmeticException", "java/lang/IllegalStateException"), ("java/lang/UnsupportedOperationException", "java/lang/IllegalArgumentException"), ("java/lang/UnsupportedOperationException", "java/lang/IllegalStateException"), ("java/util/NoSuchElementException", "java/lang/IllegalArgumentException"), ("java/util/NoSuchElementException", "java/lang/IllegalStateException"), ("java/util/NoSuchElementException", "java/lang/UnsupportedOperationException"), ("java/lang/ArithmeticException", "java/lang/UnsupportedOperationException"), ("java/lang/ArithmeticException", "java/util/NoSuchElementException"), ("java/lang/UnsupportedOperationException", "java/lang/ArithmeticException")]
def NCs (U : State) : Prop := ∀ q ∈ NCL, va_Nc q.1 q.2 U
theorem NCs.moved {u U : State} (hv : u.vm.Alike U.vm) (h : NCs u) : NCs U := fun q hq => va_Nc.moved hv (h q hq)
theorem nc_0 {U : State} (h : NCs U) : va_Nc "java/lang/IllegalStateException" "java/lang/IllegalArgumentException" U := h ("java/lang/IllegalStateException", "java/lang/IllegalArgumentException") (List.mem_of_getElem? (i := 0) rfl)
theorem nc_1 {U : State} (h : NCs U) : va_Nc "java/lang/ArithmeticException" "java/lang/IllegalArgumentException" U := h ("java/lang/ArithmeticException", "java/lang/IllegalArgumentException") (List.mem_of_getElem? (i := 1) rfl)
theorem nc_2 {U : State} (h : NCs U) : va_Nc "java/lang/ArithmeticException" "java/lang/IllegalStateException" U := h ("java/lang/ArithmeticException", "java/lang/IllegalStateException") (List.mem_of_getElem? (i := 2) rfl)
theorem nc_3 {U : State} (h : NCs U) : va_Nc "java/lang/UnsupportedOperationException" "java/lang/IllegalArgumentException" U := h ("java/lang/UnsupportedOperationException", "java/lang/IllegalArgumentException") (List.mem_of_getElem? (i := 3) rfl)
theorem nc_4 {U : State} (h : NCs U) : va_Nc "java/lang/UnsupportedOperationException" "java/lang/IllegalStateException" U := h ("java/lang/UnsupportedOperationException", "java/lang/IllegalStateException") (List.mem_of_getElem? (i := 4) rfl)
theorem nc_5 {U : State} (h : NCs U) : va_Nc "java/util/NoSuchElementException" "java/lang/IllegalArgumentException" U := h ("java/util/NoSuchElementException", "java/lang/IllegalArgumentException") (List.mem_of_getElem? (i := 5) rfl)
theorem nc_6 {U : State} (h : NCs U) : va_Nc "java/util/NoSuchElementException" "java/lang/IllegalStateException" U := h ("java/util/NoSuchElementException", "java/lang/IllegalStateException") (List.mem_of_getElem? (i := 6) rfl)
theorem nc_7 {U : State} (h : NCs U) : va_Nc "java/util/NoSuchElementException" "java/lang/UnsupportedOperationException" U := h ("java/util/NoSuchElementException", "java/lang/UnsupportedOperationException") (List.mem_of_getElem? (i := 7) rfl)
theorem nc_8 {U : State} (h : NCs U) : va_Nc "java/lang/ArithmeticException" "java/lang/UnsupportedOperationException" U := h ("java/lang/ArithmeticException", "java/lang/UnsupportedOperationException") (List.mem_of_getElem? (i := 8) rfl)
theorem nc_9 {U : State} (h : NCs U) : va_Nc "java/lang/ArithmeticException" "java/util/NoSuchElementException" U := h ("java/lang/ArithmeticException", "java/util/NoSuchElementException") (List.mem_of_getElem? (i := 9) rfl)
theorem nc_10 {U : State} (h : NCs U) : va_Nc "java/lang/UnsupportedOperationException" "java/lang/ArithmeticException" U := h ("java/lang/UnsupportedOperationException", "java/lang/ArithmeticException") (List.mem_of_getElem? (i := 10) rfl)
theorem lh_ofW {l : Launch} {y : MethodName} {ws ws' : List Cond} {rm : Room} {Pc : Array Value → State → Prop} {Qc : Array Value → State → Outcome → State → Prop} {mc ms : Nat} {free : Addr → Prop} {cc : ByteArray} {maxL : Nat} {ret : Option FieldType} {hh : List (Nat × Nat × Nat × Nat)}
    (hy : plainName y.cls = true) (hw : ws = Cond.codeWith y cc maxL ret hh :: ws')
    (body : ∀ p e s m args below meth c s₁, BodyLoose p l y (headSpec ws rm) cc maxL ret e s m args below meth c s₁ → c.maxLocals = maxL → c.exceptionTable.toList = tableOf hh → Pc args s →
      W p l e (headSpec ws rm).room s m args below meth c s.heap [] 0 0 (MQ below Qc args s mc ms free) (entryFrame m args maxL)) : Met l y ws rm Pc Qc mc ms free := by
  refine MetFree.of_bodyS (code := cc) (maxLocals := maxL) (ret := ret) hy ?_ ?_
  · intro args s m h hn
    obtain ⟨m9, meth, c, hn9, h1, h2, h3, h4, -, h5, h6, -⟩ := Cond.codeWith_spec (atoms_spec (ws := ws) h _ (by rw [hw]; exact List.mem_cons_self))
    cases hn.symm.trans hn9
    exact ⟨meth, c, h1, h2, h3, h4, h5, h6⟩
  · intro p e s m args below meth c s₁ B hml hP _
    have hh0 : s₁.heap = s.heap := by rw [B.state]; rfl
    have htb : c.exceptionTable.toList = tableOf hh := vx_table (x := y) B (atoms_spec (ws := ws) B.pre _ (by rw [hw]; exact List.mem_cons_self))
    obtain ⟨t, a1, o, b1, b2, b3⟩ := body p e s m args below meth c s₁ B hml htb hP s₁ hh0 (Stand.of_body B)
    exact ⟨t, o, a1, b1, b2, b3⟩
def w_Law_plan : List Cond := .codeWith y_Law_plan b_Law_plan 7 (some .int) [(0, 14, 17, 13)] :: TB
def w_Law_use : List Cond := .codeWith y_Law_use b_Law_use 8 (some .int) [(0, 13, 16, 13), (0, 13, 20, 19), (0, 13, 24, 21)] :: TB
def w_Law_token : List Cond := .codeWith y_Law_token b_Law_token 5 (some .int) [(0, 9, 12, 13), (0, 9, 16, 19), (0, 9, 20, 27), (0, 9, 24, 29), (0, 9, 28, 21)] :: TB
def w_Law_emergency : List Cond := .codeWith y_Law_emergency b_Law_emergency 3 (some .int) [(0, 8, 11, 19), (0, 8, 14, 27)] :: TB
def w_Law_save : List Cond := .codeWith y_Law_save b_Law_save 3 (some .int) [(0, 8, 11, 19), (0, 8, 14, 27), (0, 8, 17, 21)] :: TB
def w_Law_cut : List Cond := .codeWith y_Law_cut b_Law_cut 4 (some .int) [(0, 9, 12, 13)] :: TB
def w_Law_power : List Cond := .codeWith y_Law_power b_Law_power 4 (some .int) [(0, 9, 12, 19)] :: TB
def w_Law_request : List Cond := .codeWith y_Law_request b_Law_request 4 (some .int) [(0, 9, 12, 13), (0, 9, 15, 19), (0, 9, 18, 21), (0, 9, 21, 27)] :: TB
def w_Law_reply : List Cond := .codeWith y_Law_reply b_Law_reply 4 (some .int) [(0, 9, 12, 52)] :: TB
def w_Law_flash : List Cond := .codeWith y_Law_flash b_Law_flash 5 (some .int) [(0, 9, 12, 13)] :: TB
def w_Law_read : List Cond := .codeWith y_Law_read b_Law_read 4 (some .int) [(0, 8, 11, 13), (0, 8, 14, 19)] :: TB
def w_Law_price : List Cond := .codeWith y_Law_price b_Law_price 4 (some .int) [(0, 8, 11, 13)] :: TB
def w_Law_count : List Cond := .codeWith y_Law_count b_Law_count 4 (some .int) [(0, 9, 12, 13), (0, 9, 15, 19)] :: TB
theorem t_221 : Cond.classLink R_Law 13 "java/lang/IllegalArgumentException" ∈ TB := TB_mem 221 (by decide +kernel) (by decide +kernel)
theorem t_222 : Cond.methodLink R_Law 7 y_Box_plan ∈ TB := TB_mem 222 (by decide +kernel) (by decide +kernel)
theorem t_223 : Cond.instanceMethod y_Box_plan ∈ TB := TB_mem 223 (by decide +kernel) (by decide +kernel)
theorem t_224 : Cond.selects R_Box y_Box_plan y_Box_plan ∈ TB := TB_mem 224 (by decide +kernel) (by decide +kernel)
theorem t_225 : Cond.code y_Box_plan b_Box_plan 5 (some .int) ∈ TB := TB_mem 225 (by decide +kernel) (by decide +kernel)
theorem t_311 : Cond.classLink R_Law 19 "java/lang/IllegalStateException" ∈ TB := TB_mem 311 (by decide +kernel) (by decide +kernel)
theorem t_312 : Cond.classLink R_Law 21 "java/lang/ArithmeticException" ∈ TB := TB_mem 312 (by decide +kernel) (by decide +kernel)
theorem t_313 : Cond.methodLink R_Law 15 y_Box_use ∈ TB := TB_mem 313 (by decide +kernel) (by decide +kernel)
theorem t_314 : Cond.instanceMethod y_Box_use ∈ TB := TB_mem 314 (by decide +kernel) (by decide +kernel)
theorem t_315 : Cond.selects R_Box y_Box_use y_Box_use ∈ TB := TB_mem 315 (by decide +kernel) (by decide +kernel)
theorem t_316 : Cond.code y_Box_use b_Box_use 8 (some .int) ∈ TB := TB_mem 316 (by decide +kernel) (by decide +kernel)
theorem t_447 : Cond.classLink R_Law 27 "java/lang/UnsupportedOperationException" ∈ TB := TB_mem 447 (by decide +kernel) (by decide +kernel)
theorem t_448 : Cond.classLink R_Law 29 "java/util/NoSuchElementException" ∈ TB := TB_mem 448 (by decide +kernel) (by decide +kernel)
theorem t_449 : Cond.methodLink R_Law 23 y_Box_token ∈ TB := TB_mem 449 (by decide +kernel) (by decide +kernel)
theorem t_450 : Cond.instanceMethod y_Box_token ∈ TB := TB_mem 450 (by decide +kernel) (by decide +kernel)
theorem t_451 : Cond.selects R_Box y_Box_token y_Box_token ∈ TB := TB_mem 451 (by decide +kernel) (by decide +kernel)
theorem t_452 : Cond.code y_Box_token b_Box_token 9 (some .int) ∈ TB := TB_mem 452 (by decide +kernel) (by decide +kernel)
theorem t_517 : Cond.methodLink R_Law 31 y_Box_emergency ∈ TB := TB_mem 517 (by decide +kernel) (by decide +kernel)
theorem t_518 : Cond.instanceMethod y_Box_emergency ∈ TB := TB_mem 518 (by decide +kernel) (by decide +kernel)
theorem t_519 : Cond.selects R_Box y_Box_emergency y_Box_emergency ∈ TB := TB_mem 519 (by decide +kernel) (by decide +kernel)
theorem t_520 : Cond.code y_Box_emergency b_Box_emergency 1 (some .int) ∈ TB := TB_mem 520 (by decide +kernel) (by decide +kernel)
theorem t_526 : Cond.methodLink R_Law 35 y_Box_save ∈ TB := TB_mem 526 (by decide +kernel) (by decide +kernel)
theorem t_527 : Cond.instanceMethod y_Box_save ∈ TB := TB_mem 527 (by decide +kernel) (by decide +kernel)
theorem t_528 : Cond.selects R_Box y_Box_save y_Box_save ∈ TB := TB_mem 528 (by decide +kernel) (by decide +kernel)
theorem t_529 : Cond.code y_Box_save b_Box_save 1 (some .int) ∈ TB := TB_mem 529 (by decide +kernel) (by decide +kernel)
theorem t_533 : Cond.methodLink R_Law 38 y_Box_cut ∈ TB := TB_mem 533 (by decide +kernel) (by decide +kernel)
theorem t_534 : Cond.instanceMethod y_Box_cut ∈ TB := TB_mem 534 (by decide +kernel) (by decide +kernel)
theorem t_535 : Cond.selects R_Box y_Box_cut y_Box_cut ∈ TB := TB_mem 535 (by decide +kernel) (by decide +kernel)
theorem t_536 : Cond.code y_Box_cut b_Box_cut 2 (some .int) ∈ TB := TB_mem 536 (by decide +kernel) (by decide +kernel)
theorem t_544 : Cond.methodLink R_Law 42 y_Box_power ∈ TB := TB_mem 544 (by decide +kernel) (by decide +kernel)
theorem t_545 : Cond.instanceMethod y_Box_power ∈ TB := TB_mem 545 (by decide +kernel) (by decide +kernel)
theorem t_546 : Cond.selects R_Box y_Box_power y_Box_power ∈ TB := TB_mem 546 (by decide +kernel) (by decide +kernel)
theorem t_547 : Cond.code y_Box_power b_Box_power 2 (some .int) ∈ TB := TB_mem 547 (by decide +kernel) (by decide +kernel)
theorem t_577 : Cond.methodLink R_Law 46 y_Box_request ∈ TB := TB_mem 577 (by decide +kernel) (by decide +kernel)
theorem t_578 : Cond.instanceMethod y_Box_request ∈ TB := TB_mem 578 (by decide +kernel) (by decide +kernel)
theorem t_579 : Cond.selects R_Box y_Box_request y_Box_request ∈ TB := TB_mem 579 (by decide +kernel) (by decide +kernel)
theorem t_580 : Cond.code y_Box_request b_Box_request 4 (some .int) ∈ TB := TB_mem 580 (by decide +kernel) (by decide +kernel)
theorem t_637 : Cond.classLink R_Law 52 "java/lang/IndexOutOfBoundsException" ∈ TB := TB_mem 637 (by decide +kernel) (by decide +kernel)
theorem t_638 : Cond.methodLink R_Law 49 y_Box_reply ∈ TB := TB_mem 638 (by decide +kernel) (by decide +kernel)
theorem t_639 : Cond.instanceMethod y_Box_reply ∈ TB := TB_mem 639 (by decide +kernel) (by decide +kernel)
theorem t_640 : Cond.selects R_Box y_Box_reply y_Box_reply ∈ TB := TB_mem 640 (by decide +kernel) (by decide +kernel)
theorem t_641 : Cond.code y_Box_reply b_Box_reply 2 (some .int) ∈ TB := TB_mem 641 (by decide +kernel) (by decide +kernel)
theorem t_661 : Cond.methodLink R_Law 54 y_Box_flash ∈ TB := TB_mem 661 (by decide +kernel) (by decide +kernel)
theorem t_662 : Cond.instanceMethod y_Box_flash ∈ TB := TB_mem 662 (by decide +kernel) (by decide +kernel)
theorem t_663 : Cond.selects R_Box y_Box_flash y_Box_flash ∈ TB := TB_mem 663 (by decide +kernel) (by decide +kernel)
theorem t_664 : Cond.code y_Box_flash b_Box_flash 3 (some .long) ∈ TB := TB_mem 664 (by decide +kernel) (by decide +kernel)
theorem t_669 : Cond.methodLink R_Law 58 y_Box_read ∈ TB := TB_mem 669 (by decide +kernel) (by decide +kernel)
theorem t_670 : Cond.instanceMethod y_Box_read ∈ TB := TB_mem 670 (by decide +kernel) (by decide +kernel)
theorem t_671 : Cond.selects R_Box y_Box_read y_Box_read ∈ TB := TB_mem 671 (by decide +kernel) (by decide +kernel)
theorem t_672 : Cond.code y_Box_read b_Box_read 2 (some .double) ∈ TB := TB_mem 672 (by decide +kernel) (by decide +kernel)
theorem t_676 : Cond.methodLink R_Law 62 y_Box_price ∈ TB := TB_mem 676 (by decide +kernel) (by decide +kernel)
theorem t_677 : Cond.instanceMethod y_Box_price ∈ TB := TB_mem 677 (by decide +kernel) (by decide +kernel)
theorem t_678 : Cond.selects R_Box y_Box_price y_Box_price ∈ TB := TB_mem 678 (by decide +kernel) (by decide +kernel)
theorem t_679 : Cond.code y_Box_price b_Box_price 2 (some .double) ∈ TB := TB_mem 679 (by decide +kernel) (by decide +kernel)
theorem t_683 : Cond.methodLink R_Law 65 y_Box_count ∈ TB := TB_mem 683 (by decide +kernel) (by decide +kernel)
theorem t_684 : Cond.instanceMethod y_Box_count ∈ TB := TB_mem 684 (by decide +kernel) (by decide +kernel)
theorem t_685 : Cond.selects R_Box y_Box_count y_Box_count ∈ TB := TB_mem 685 (by decide +kernel) (by decide +kernel)
theorem t_686 : Cond.code y_Box_count b_Box_count 2 (some .int) ∈ TB := TB_mem 686 (by decide +kernel) (by decide +kernel)
theorem d_Law_plan_0 : decode b_Law_plan 0 = .ok (.aload 5, 2) := by decide +kernel
theorem d_Law_plan_2 : decode b_Law_plan 2 = .ok (.iconst 0, 1) := by decide +kernel
theorem d_Law_plan_3 : decode b_Law_plan 3 = .ok (.aload_n 0, 1) := by decide +kernel
theorem d_Law_plan_4 : decode b_Law_plan 4 = .ok (.iload_n 1, 1) := by decide +kernel
theorem d_Law_plan_5 : decode b_Law_plan 5 = .ok (.iload_n 2, 1) := by decide +kernel
theorem d_Law_plan_6 : decode b_Law_plan 6 = .ok (.iload_n 3, 1) := by decide +kernel
theorem d_Law_plan_7 : decode b_Law_plan 7 = .ok (.iload 4, 2) := by decide +kernel
theorem d_Law_plan_9 : decode b_Law_plan 9 = .ok (.invokevirtual 7, 3) := by decide +kernel
theorem d_Law_plan_12 : decode b_Law_plan 12 = .ok (.i2l, 1) := by decide +kernel
theorem d_Law_plan_13 : decode b_Law_plan 13 = .ok (.lastore, 1) := by decide +kernel
theorem d_Law_plan_14 : decode b_Law_plan 14 = .ok (.goto 7, 3) := by decide +kernel
theorem d_Law_plan_17 : decode b_Law_plan 17 = .ok (.astore 6, 2) := by decide +kernel
theorem d_Law_plan_19 : decode b_Law_plan 19 = .ok (.iconst 1, 1) := by decide +kernel
theorem d_Law_plan_20 : decode b_Law_plan 20 = .ok (.ireturn, 1) := by decide +kernel
theorem d_Law_plan_21 : decode b_Law_plan 21 = .ok (.iconst 0, 1) := by decide +kernel
theorem d_Law_plan_22 : decode b_Law_plan 22 = .ok (.ireturn, 1) := by decide +kernel
theorem d_Law_use_0 : decode b_Law_use 0 = .ok (.aload 6, 2) := by decide +kernel
theorem d_Law_use_2 : decode b_Law_use 2 = .ok (.iconst 0, 1) := by decide +kernel
theorem d_Law_use_3 : decode b_Law_use 3 = .ok (.aload_n 0, 1) := by decide +kernel
theorem d_Law_use_4 : decode b_Law_use 4 = .ok (.dload_n 1, 1) := by decide +kernel
theorem d_Law_use_5 : decode b_Law_use 5 = .ok (.dload_n 3, 1) := by decide +kernel
theorem d_Law_use_6 : decode b_Law_use 6 = .ok (.iload 5, 2) := by decide +kernel
theorem d_Law_use_8 : decode b_Law_use 8 = .ok (.invokevirtual 15, 3) := by decide +kernel
theorem d_Law_use_11 : decode b_Law_use 11 = .ok (.i2l, 1) := by decide +kernel
theorem d_Law_use_12 : decode b_Law_use 12 = .ok (.lastore, 1) := by decide +kernel
theorem d_Law_use_13 : decode b_Law_use 13 = .ok (.goto 15, 3) := by decide +kernel
theorem d_Law_use_16 : decode b_Law_use 16 = .ok (.astore 7, 2) := by decide +kernel
theorem d_Law_use_18 : decode b_Law_use 18 = .ok (.iconst 1, 1) := by decide +kernel
theorem d_Law_use_19 : decode b_Law_use 19 = .ok (.ireturn, 1) := by decide +kernel
theorem d_Law_use_20 : decode b_Law_use 20 = .ok (.astore 7, 2) := by decide +kernel
theorem d_Law_use_22 : decode b_Law_use 22 = .ok (.iconst 2, 1) := by decide +kernel
theorem d_Law_use_23 : decode b_Law_use 23 = .ok (.ireturn, 1) := by decide +kernel
theorem d_Law_use_24 : decode b_Law_use 24 = .ok (.astore 7, 2) := by decide +kernel
theorem d_Law_use_26 : decode b_Law_use 26 = .ok (.iconst 3, 1) := by decide +kernel
theorem d_Law_use_27 : decode b_Law_use 27 = .ok (.ireturn, 1) := by decide +kernel
theorem d_Law_use_28 : decode b_Law_use 28 = .ok (.iconst 0, 1) := by decide +kernel
theorem d_Law_use_29 : decode b_Law_use 29 = .ok (.ireturn, 1) := by decide +kernel
theorem d_Law_token_0 : decode b_Law_token 0 = .ok (.aload_n 3, 1) := by decide +kernel
theorem d_Law_token_1 : decode b_Law_token 1 = .ok (.iconst 0, 1) := by decide +kernel
theorem d_Law_token_2 : decode b_Law_token 2 = .ok (.aload_n 0, 1) := by decide +kernel
theorem d_Law_token_3 : decode b_Law_token 3 = .ok (.lload_n 1, 1) := by decide +kernel
theorem d_Law_token_4 : decode b_Law_token 4 = .ok (.invokevirtual 23, 3) := by decide +kernel
theorem d_Law_token_7 : decode b_Law_token 7 = .ok (.i2l, 1) := by decide +kernel
theorem d_Law_token_8 : decode b_Law_token 8 = .ok (.lastore, 1) := by decide +kernel
theorem d_Law_token_9 : decode b_Law_token 9 = .ok (.goto 23, 3) := by decide +kernel
theorem d_Law_token_12 : decode b_Law_token 12 = .ok (.astore 4, 2) := by decide +kernel
theorem d_Law_token_14 : decode b_Law_token 14 = .ok (.iconst 1, 1) := by decide +kernel
theorem d_Law_token_15 : decode b_Law_token 15 = .ok (.ireturn, 1) := by decide +kernel
theorem d_Law_token_16 : decode b_Law_token 16 = .ok (.astore 4, 2) := by decide +kernel
theorem d_Law_token_18 : decode b_Law_token 18 = .ok (.iconst 2, 1) := by decide +kernel
theorem d_Law_token_19 : decode b_Law_token 19 = .ok (.ireturn, 1) := by decide +kernel
theorem d_Law_token_20 : decode b_Law_token 20 = .ok (.astore 4, 2) := by decide +kernel
theorem d_Law_token_22 : decode b_Law_token 22 = .ok (.iconst 3, 1) := by decide +kernel
theorem d_Law_token_23 : decode b_Law_token 23 = .ok (.ireturn, 1) := by decide +kernel
theorem d_Law_token_24 : decode b_Law_token 24 = .ok (.astore 4, 2) := by decide +kernel
theorem d_Law_token_26 : decode b_Law_token 26 = .ok (.iconst 4, 1) := by decide +kernel
theorem d_Law_token_27 : decode b_Law_token 27 = .ok (.ireturn, 1) := by decide +kernel
theorem d_Law_token_28 : decode b_Law_token 28 = .ok (.astore 4, 2) := by decide +kernel
theorem d_Law_token_30 : decode b_Law_token 30 = .ok (.iconst 5, 1) := by decide +kernel
theorem d_Law_token_31 : decode b_Law_token 31 = .ok (.ireturn, 1) := by decide +kernel
theorem d_Law_token_32 : decode b_Law_token 32 = .ok (.iconst 0, 1) := by decide +kernel
theorem d_Law_token_33 : decode b_Law_token 33 = .ok (.ireturn, 1) := by decide +kernel
theorem d_Law_emergency_0 : decode b_Law_emergency 0 = .ok (.aload_n 1, 1) := by decide +kernel
theorem d_Law_emergency_1 : decode b_Law_emergency 1 = .ok (.iconst 0, 1) := by decide +kernel
theorem d_Law_emergency_2 : decode b_Law_emergency 2 = .ok (.aload_n 0, 1) := by decide +kernel
theorem d_Law_emergency_3 : decode b_Law_emergency 3 = .ok (.invokevirtual 31, 3) := by decide +kernel
theorem d_Law_emergency_6 : decode b_Law_emergency 6 = .ok (.i2l, 1) := by decide +kernel
theorem d_Law_emergency_7 : decode b_Law_emergency 7 = .ok (.lastore, 1) := by decide +kernel
theorem d_Law_emergency_8 : decode b_Law_emergency 8 = .ok (.goto 9, 3) := by decide +kernel
theorem d_Law_emergency_11 : decode b_Law_emergency 11 = .ok (.astore_n 2, 1) := by decide +kernel
theorem d_Law_emergency_12 : decode b_Law_emergency 12 = .ok (.iconst 1, 1) := by decide +kernel
theorem d_Law_emergency_13 : decode b_Law_emergency 13 = .ok (.ireturn, 1) := by decide +kernel
theorem d_Law_emergency_14 : decode b_Law_emergency 14 = .ok (.astore_n 2, 1) := by decide +kernel
theorem d_Law_emergency_15 : decode b_Law_emergency 15 = .ok (.iconst 2, 1) := by decide +kernel
theorem d_Law_emergency_16 : decode b_Law_emergency 16 = .ok (.ireturn, 1) := by decide +kernel
theorem d_Law_emergency_17 : decode b_Law_emergency 17 = .ok (.iconst 0, 1) := by decide +kernel
theorem d_Law_emergency_18 : decode b_Law_emergency 18 = .ok (.ireturn, 1) := by decide +kernel
theorem d_Law_save_0 : decode b_Law_save 0 = .ok (.aload_n 1, 1) := by decide +kernel
theorem d_Law_save_1 : decode b_Law_save 1 = .ok (.iconst 0, 1) := by decide +kernel
theorem d_Law_save_2 : decode b_Law_save 2 = .ok (.aload_n 0, 1) := by decide +kernel
theorem d_Law_save_3 : decode b_Law_save 3 = .ok (.invokevirtual 35, 3) := by decide +kernel
theorem d_Law_save_6 : decode b_Law_save 6 = .ok (.i2l, 1) := by decide +kernel
theorem d_Law_save_7 : decode b_Law_save 7 = .ok (.lastore, 1) := by decide +kernel
theorem d_Law_save_8 : decode b_Law_save 8 = .ok (.goto 12, 3) := by decide +kernel
theorem d_Law_save_11 : decode b_Law_save 11 = .ok (.astore_n 2, 1) := by decide +kernel
theorem d_Law_save_12 : decode b_Law_save 12 = .ok (.iconst 1, 1) := by decide +kernel
theorem d_Law_save_13 : decode b_Law_save 13 = .ok (.ireturn, 1) := by decide +kernel
theorem d_Law_save_14 : decode b_Law_save 14 = .ok (.astore_n 2, 1) := by decide +kernel
theorem d_Law_save_15 : decode b_Law_save 15 = .ok (.iconst 2, 1) := by decide +kernel
theorem d_Law_save_16 : decode b_Law_save 16 = .ok (.ireturn, 1) := by decide +kernel
theorem d_Law_save_17 : decode b_Law_save 17 = .ok (.astore_n 2, 1) := by decide +kernel
theorem d_Law_save_18 : decode b_Law_save 18 = .ok (.iconst 3, 1) := by decide +kernel
theorem d_Law_save_19 : decode b_Law_save 19 = .ok (.ireturn, 1) := by decide +kernel
theorem d_Law_save_20 : decode b_Law_save 20 = .ok (.iconst 0, 1) := by decide +kernel
theorem d_Law_save_21 : decode b_Law_save 21 = .ok (.ireturn, 1) := by decide +kernel
theorem d_Law_cut_0 : decode b_Law_cut 0 = .ok (.aload_n 2, 1) := by decide +kernel
theorem d_Law_cut_1 : decode b_Law_cut 1 = .ok (.iconst 0, 1) := by decide +kernel
theorem d_Law_cut_2 : decode b_Law_cut 2 = .ok (.aload_n 0, 1) := by decide +kernel
theorem d_Law_cut_3 : decode b_Law_cut 3 = .ok (.iload_n 1, 1) := by decide +kernel
theorem d_Law_cut_4 : decode b_Law_cut 4 = .ok (.invokevirtual 38, 3) := by decide +kernel
theorem d_Law_cut_7 : decode b_Law_cut 7 = .ok (.i2l, 1) := by decide +kernel
theorem d_Law_cut_8 : decode b_Law_cut 8 = .ok (.lastore, 1) := by decide +kernel
theorem d_Law_cut_9 : decode b_Law_cut 9 = .ok (.goto 6, 3) := by decide +kernel
theorem d_Law_cut_12 : decode b_Law_cut 12 = .ok (.astore_n 3, 1) := by decide +kernel
theorem d_Law_cut_13 : decode b_Law_cut 13 = .ok (.iconst 1, 1) := by decide +kernel
theorem d_Law_cut_14 : decode b_Law_cut 14 = .ok (.ireturn, 1) := by decide +kernel
theorem d_Law_cut_15 : decode b_Law_cut 15 = .ok (.iconst 0, 1) := by decide +kernel
theorem d_Law_cut_16 : decode b_Law_cut 16 = .ok (.ireturn, 1) := by decide +kernel
theorem d_Law_power_0 : decode b_Law_power 0 = .ok (.aload_n 2, 1) := by decide +kernel
theorem d_Law_power_1 : decode b_Law_power 1 = .ok (.iconst 0, 1) := by decide +kernel
theorem d_Law_power_2 : decode b_Law_power 2 = .ok (.aload_n 0, 1) := by decide +kernel
theorem d_Law_power_3 : decode b_Law_power 3 = .ok (.iload_n 1, 1) := by decide +kernel
theorem d_Law_power_4 : decode b_Law_power 4 = .ok (.invokevirtual 42, 3) := by decide +kernel
theorem d_Law_power_7 : decode b_Law_power 7 = .ok (.i2l, 1) := by decide +kernel
theorem d_Law_power_8 : decode b_Law_power 8 = .ok (.lastore, 1) := by decide +kernel
theorem d_Law_power_9 : decode b_Law_power 9 = .ok (.goto 6, 3) := by decide +kernel
theorem d_Law_power_12 : decode b_Law_power 12 = .ok (.astore_n 3, 1) := by decide +kernel
theorem d_Law_power_13 : decode b_Law_power 13 = .ok (.iconst 1, 1) := by decide +kernel
theorem d_Law_power_14 : decode b_Law_power 14 = .ok (.ireturn, 1) := by decide +kernel
theorem d_Law_power_15 : decode b_Law_power 15 = .ok (.iconst 0, 1) := by decide +kernel
theorem d_Law_power_16 : decode b_Law_power 16 = .ok (.ireturn, 1) := by decide +kernel
theorem d_Law_request_0 : decode b_Law_request 0 = .ok (.aload_n 2, 1) := by decide +kernel
theorem d_Law_request_1 : decode b_Law_request 1 = .ok (.iconst 0, 1) := by decide +kernel
theorem d_Law_request_2 : decode b_Law_request 2 = .ok (.aload_n 0, 1) := by decide +kernel
theorem d_Law_request_3 : decode b_Law_request 3 = .ok (.iload_n 1, 1) := by decide +kernel
theorem d_Law_request_4 : decode b_Law_request 4 = .ok (.invokevirtual 46, 3) := by decide +kernel
theorem d_Law_request_7 : decode b_Law_request 7 = .ok (.i2l, 1) := by decide +kernel
theorem d_Law_request_8 : decode b_Law_request 8 = .ok (.lastore, 1) := by decide +kernel
theorem d_Law_request_9 : decode b_Law_request 9 = .ok (.goto 15, 3) := by decide +kernel
theorem d_Law_request_12 : decode b_Law_request 12 = .ok (.astore_n 3, 1) := by decide +kernel
theorem d_Law_request_13 : decode b_Law_request 13 = .ok (.iconst 1, 1) := by decide +kernel
theorem d_Law_request_14 : decode b_Law_request 14 = .ok (.ireturn, 1) := by decide +kernel
theorem d_Law_request_15 : decode b_Law_request 15 = .ok (.astore_n 3, 1) := by decide +kernel
theorem d_Law_request_16 : decode b_Law_request 16 = .ok (.iconst 2, 1) := by decide +kernel
theorem d_Law_request_17 : decode b_Law_request 17 = .ok (.ireturn, 1) := by decide +kernel
theorem d_Law_request_18 : decode b_Law_request 18 = .ok (.astore_n 3, 1) := by decide +kernel
theorem d_Law_request_19 : decode b_Law_request 19 = .ok (.iconst 3, 1) := by decide +kernel
theorem d_Law_request_20 : decode b_Law_request 20 = .ok (.ireturn, 1) := by decide +kernel
theorem d_Law_request_21 : decode b_Law_request 21 = .ok (.astore_n 3, 1) := by decide +kernel
theorem d_Law_request_22 : decode b_Law_request 22 = .ok (.iconst 4, 1) := by decide +kernel
theorem d_Law_request_23 : decode b_Law_request 23 = .ok (.ireturn, 1) := by decide +kernel
theorem d_Law_request_24 : decode b_Law_request 24 = .ok (.iconst 0, 1) := by decide +kernel
theorem d_Law_request_25 : decode b_Law_request 25 = .ok (.ireturn, 1) := by decide +kernel
theorem d_Law_reply_0 : decode b_Law_reply 0 = .ok (.aload_n 2, 1) := by decide +kernel
theorem d_Law_reply_1 : decode b_Law_reply 1 = .ok (.iconst 0, 1) := by decide +kernel
theorem d_Law_reply_2 : decode b_Law_reply 2 = .ok (.aload_n 0, 1) := by decide +kernel
theorem d_Law_reply_3 : decode b_Law_reply 3 = .ok (.iload_n 1, 1) := by decide +kernel
theorem d_Law_reply_4 : decode b_Law_reply 4 = .ok (.invokevirtual 49, 3) := by decide +kernel
theorem d_Law_reply_7 : decode b_Law_reply 7 = .ok (.i2l, 1) := by decide +kernel
theorem d_Law_reply_8 : decode b_Law_reply 8 = .ok (.lastore, 1) := by decide +kernel
theorem d_Law_reply_9 : decode b_Law_reply 9 = .ok (.goto 6, 3) := by decide +kernel
theorem d_Law_reply_12 : decode b_Law_reply 12 = .ok (.astore_n 3, 1) := by decide +kernel
theorem d_Law_reply_13 : decode b_Law_reply 13 = .ok (.iconst 1, 1) := by decide +kernel
theorem d_Law_reply_14 : decode b_Law_reply 14 = .ok (.ireturn, 1) := by decide +kernel
theorem d_Law_reply_15 : decode b_Law_reply 15 = .ok (.iconst 0, 1) := by decide +kernel
theorem d_Law_reply_16 : decode b_Law_reply 16 = .ok (.ireturn, 1) := by decide +kernel
theorem d_Law_flash_0 : decode b_Law_flash 0 = .ok (.aload_n 3, 1) := by decide +kernel
theorem d_Law_flash_1 : decode b_Law_flash 1 = .ok (.iconst 0, 1) := by decide +kernel
theorem d_Law_flash_2 : decode b_Law_flash 2 = .ok (.aload_n 0, 1) := by decide +kernel
theorem d_Law_flash_3 : decode b_Law_flash 3 = .ok (.iload_n 1, 1) := by decide +kernel
theorem d_Law_flash_4 : decode b_Law_flash 4 = .ok (.iload_n 2, 1) := by decide +kernel
theorem d_Law_flash_5 : decode b_Law_flash 5 = .ok (.invokevirtual 54, 3) := by decide +kernel
theorem d_Law_flash_8 : decode b_Law_flash 8 = .ok (.lastore, 1) := by decide +kernel
theorem d_Law_flash_9 : decode b_Law_flash 9 = .ok (.goto 7, 3) := by decide +kernel
theorem d_Law_flash_12 : decode b_Law_flash 12 = .ok (.astore 4, 2) := by decide +kernel
theorem d_Law_flash_14 : decode b_Law_flash 14 = .ok (.iconst 1, 1) := by decide +kernel
theorem d_Law_flash_15 : decode b_Law_flash 15 = .ok (.ireturn, 1) := by decide +kernel
theorem d_Law_flash_16 : decode b_Law_flash 16 = .ok (.iconst 0, 1) := by decide +kernel
theorem d_Law_flash_17 : decode b_Law_flash 17 = .ok (.ireturn, 1) := by decide +kernel
theorem d_Law_read_0 : decode b_Law_read 0 = .ok (.aload_n 2, 1) := by decide +kernel
theorem d_Law_read_1 : decode b_Law_read 1 = .ok (.iconst 0, 1) := by decide +kernel
theorem d_Law_read_2 : decode b_Law_read 2 = .ok (.aload_n 0, 1) := by decide +kernel
theorem d_Law_read_3 : decode b_Law_read 3 = .ok (.iload_n 1, 1) := by decide +kernel
theorem d_Law_read_4 : decode b_Law_read 4 = .ok (.invokevirtual 58, 3) := by decide +kernel
theorem d_Law_read_7 : decode b_Law_read 7 = .ok (.dastore, 1) := by decide +kernel
theorem d_Law_read_8 : decode b_Law_read 8 = .ok (.goto 9, 3) := by decide +kernel
theorem d_Law_read_11 : decode b_Law_read 11 = .ok (.astore_n 3, 1) := by decide +kernel
theorem d_Law_read_12 : decode b_Law_read 12 = .ok (.iconst 1, 1) := by decide +kernel
theorem d_Law_read_13 : decode b_Law_read 13 = .ok (.ireturn, 1) := by decide +kernel
theorem d_Law_read_14 : decode b_Law_read 14 = .ok (.astore_n 3, 1) := by decide +kernel
theorem d_Law_read_15 : decode b_Law_read 15 = .ok (.iconst 2, 1) := by decide +kernel
theorem d_Law_read_16 : decode b_Law_read 16 = .ok (.ireturn, 1) := by decide +kernel
theorem d_Law_read_17 : decode b_Law_read 17 = .ok (.iconst 0, 1) := by decide +kernel
theorem d_Law_read_18 : decode b_Law_read 18 = .ok (.ireturn, 1) := by decide +kernel
theorem d_Law_price_0 : decode b_Law_price 0 = .ok (.aload_n 2, 1) := by decide +kernel
theorem d_Law_price_1 : decode b_Law_price 1 = .ok (.iconst 0, 1) := by decide +kernel
theorem d_Law_price_2 : decode b_Law_price 2 = .ok (.aload_n 0, 1) := by decide +kernel
theorem d_Law_price_3 : decode b_Law_price 3 = .ok (.iload_n 1, 1) := by decide +kernel
theorem d_Law_price_4 : decode b_Law_price 4 = .ok (.invokevirtual 62, 3) := by decide +kernel
theorem d_Law_price_7 : decode b_Law_price 7 = .ok (.dastore, 1) := by decide +kernel
theorem d_Law_price_8 : decode b_Law_price 8 = .ok (.goto 6, 3) := by decide +kernel
theorem d_Law_price_11 : decode b_Law_price 11 = .ok (.astore_n 3, 1) := by decide +kernel
theorem d_Law_price_12 : decode b_Law_price 12 = .ok (.iconst 1, 1) := by decide +kernel
theorem d_Law_price_13 : decode b_Law_price 13 = .ok (.ireturn, 1) := by decide +kernel
theorem d_Law_price_14 : decode b_Law_price 14 = .ok (.iconst 0, 1) := by decide +kernel
theorem d_Law_price_15 : decode b_Law_price 15 = .ok (.ireturn, 1) := by decide +kernel
theorem d_Law_count_0 : decode b_Law_count 0 = .ok (.aload_n 2, 1) := by decide +kernel
theorem d_Law_count_1 : decode b_Law_count 1 = .ok (.iconst 0, 1) := by decide +kernel
theorem d_Law_count_2 : decode b_Law_count 2 = .ok (.aload_n 0, 1) := by decide +kernel
theorem d_Law_count_3 : decode b_Law_count 3 = .ok (.iload_n 1, 1) := by decide +kernel
theorem d_Law_count_4 : decode b_Law_count 4 = .ok (.invokevirtual 65, 3) := by decide +kernel
theorem d_Law_count_7 : decode b_Law_count 7 = .ok (.i2l, 1) := by decide +kernel
theorem d_Law_count_8 : decode b_Law_count 8 = .ok (.lastore, 1) := by decide +kernel
theorem d_Law_count_9 : decode b_Law_count 9 = .ok (.goto 9, 3) := by decide +kernel
theorem d_Law_count_12 : decode b_Law_count 12 = .ok (.astore_n 3, 1) := by decide +kernel
theorem d_Law_count_13 : decode b_Law_count 13 = .ok (.iconst 1, 1) := by decide +kernel
theorem d_Law_count_14 : decode b_Law_count 14 = .ok (.ireturn, 1) := by decide +kernel
theorem d_Law_count_15 : decode b_Law_count 15 = .ok (.astore_n 3, 1) := by decide +kernel
theorem d_Law_count_16 : decode b_Law_count 16 = .ok (.iconst 2, 1) := by decide +kernel
theorem d_Law_count_17 : decode b_Law_count 17 = .ok (.ireturn, 1) := by decide +kernel
theorem d_Law_count_18 : decode b_Law_count 18 = .ok (.iconst 0, 1) := by decide +kernel
theorem d_Law_count_19 : decode b_Law_count 19 = .ok (.ireturn, 1) := by decide +kernel
