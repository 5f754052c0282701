/-! THE CLAIM OUT OF ONE WALK OF THE LAW'S BODY. Your part is whole_start (and what it stands on); all else here is the same for every law, but numbers. -/
def R_law : String := "MeterBoxLaw"
def lw_P (b : Addr) (xs : List Int32) (args : Array Value) (s : State) : Prop := args = #[.ref b] ∧ s.IntsAt b xs ∧ xs.length ≤ 2560 ∧ (Jvm.Cond.and given_1 narrow_1).before args s = true
def lw_Q (_ : Array Value) (s : State) (o : Outcome) (t : State) : Prop := o = .returned (some (.int 1)) ∧ Framed s o t [] 644627 7162224
def lw_Z (below : List Frame) (a : Array Value) (s : State) : State → Prop := fun t => ∃ o, t.status = .running ∧ Ended t below o ∧ lw_Q a s o t
/-- the law's own end, with 1 on the stack, nothing written that was there before, its room as the claim has it -/
theorem lw_ret {p : Program} {l : Launch} {e : Env} {s : State} {m : MethodId} {below : List Frame} {meth : Method} {c : Code} {b : Nat} (hx : p.tables.exec = Jvm.exec) (hb : c.code = code) (hr : meth.sig.returnType = ret) (hlocks : meth.locks = false) {pc : Nat} {H : Heap} {ls : Array Slot} (hdg : decode code pc = .ok (.ireturn, 1)) : W p l e room_1 s m #[Value.ref b] below meth c H [] 644627 7162224 (lw_Z below #[Value.ref b] s) (F0 m pc ls [.int 1]) := by
  intro T hT X
  obtain ⟨fs, hret, hrun, hended, hW, hframe⟩ := X.leave (v := some (.int 1)) (hlocks := hlocks) (fun h => by rw [hr] at h; cases h)
  have hmeth' : T.vm.method? m = some meth := X.method'
  refine ⟨T.setFrames fs, ?_, .returned (some (.int 1)), hrun, hended, rfl, ⟨_, rfl⟩, hW, hframe⟩
  jvm_step X.here [X.here.top, hx, hb, hdg, hmeth', hr, ret, narrow_b1]
  (try refine ⟨rfl, ?_⟩); (try refine ⟨rfl, ?_⟩)
  first | (intro acts; rw [hret _ acts rfl rfl rfl]) | rw [hret _ _ rfl rfl rfl]
  exact Steps.refl _
/-- what holds at the law's entry: the machine, the code, the tables' words (any of lw_tbl by 'hts w (by decide +kernel)'), the script of L ints xs at the cell b, what the Statement gives of the start (any of its parts by flat_of_before) -/
def lw_At (p : Program) (s : State) (m : MethodId) (meth : Method) (c : Code) (b L : Nat) (xs : Nat → Int32) : Prop :=
  p.tables.exec = Jvm.exec ∧ c.code = code ∧ meth.sig.returnType = ret ∧ c.maxLocals = 9 ∧ s.vm.findClass R_law = some m.cls ∧ (∀ w ∈ lw_tbl, w.before #[Value.ref b] s = true) ∧ va_X b L xs s s.heap ∧ b < s.heap.size ∧ meth.locks = false ∧ (Jvm.Cond.and given_1 narrow_1).before #[Value.ref b] s = true
theorem rc {x : Nat} (h : x ≤ 644627) : x ≤ room_1.cells := h
theorem rs {x : Nat} (h : x ≤ 7162224) : x ≤ room_1.slots := h
theorem gSW {own : String} {idx : Nat} {y : MethodName} {b : ByteArray} {n : Nat} {r : Option FieldType} {hh : List (Nat × Nat × Nat × Nat)} (h1 : Cond.methodLink own idx y ∈ TB) (h2 : Cond.static y ∈ TB) (h4 : Cond.initialized y.cls ∈ TB) (h5 : Cond.codeWith y b n r hh ∈ TB) : GoodIn TB (va_wsS own idx y (Cond.codeWith y b n r hh :: TB)) := by
  intro w h
  have q : w ∈ TB := by
    rcases List.mem_append.mp h with h | h
    · simp only [List.mem_cons, List.not_mem_nil, or_false] at h
      rcases h with rfl | rfl | rfl <;> assumption
    · rcases List.mem_cons.mp h with rfl | h
      · exact h5
      · exact h
  exact ⟨q, good_of_word (TB_good _ q)⟩
theorem t_37 : Cond.initialized R_Law ∈ TB := TB_mem 37 (by decide +kernel) (by decide +kernel)
theorem t_218 : Cond.methodLink R_Law 72 y_Law_plan ∈ TB := TB_mem 218 (by decide +kernel) (by decide +kernel)
theorem t_219 : Cond.static y_Law_plan ∈ TB := TB_mem 219 (by decide +kernel) (by decide +kernel)
theorem t_220 : Cond.codeWith y_Law_plan b_Law_plan 7 (some .int) [(0, 14, 17, 13)] ∈ TB := TB_mem 220 (by decide +kernel) (by decide +kernel)
theorem t_308 : Cond.methodLink R_Law 83 y_Law_use ∈ TB := TB_mem 308 (by decide +kernel) (by decide +kernel)
theorem t_309 : Cond.static y_Law_use ∈ TB := TB_mem 309 (by decide +kernel) (by decide +kernel)
theorem t_310 : Cond.codeWith y_Law_use b_Law_use 8 (some .int) [(0, 13, 16, 13), (0, 13, 20, 19), (0, 13, 24, 21)] ∈ TB := TB_mem 310 (by decide +kernel) (by decide +kernel)
theorem t_444 : Cond.methodLink R_Law 89 y_Law_token ∈ TB := TB_mem 444 (by decide +kernel) (by decide +kernel)
theorem t_445 : Cond.static y_Law_token ∈ TB := TB_mem 445 (by decide +kernel) (by decide +kernel)
theorem t_446 : Cond.codeWith y_Law_token b_Law_token 5 (some .int) [(0, 9, 12, 13), (0, 9, 16, 19), (0, 9, 20, 27), (0, 9, 24, 29), (0, 9, 28, 21)] ∈ TB := TB_mem 446 (by decide +kernel) (by decide +kernel)
theorem t_514 : Cond.methodLink R_Law 93 y_Law_emergency ∈ TB := TB_mem 514 (by decide +kernel) (by decide +kernel)
theorem t_515 : Cond.static y_Law_emergency ∈ TB := TB_mem 515 (by decide +kernel) (by decide +kernel)
theorem t_516 : Cond.codeWith y_Law_emergency b_Law_emergency 3 (some .int) [(0, 8, 11, 19), (0, 8, 14, 27)] ∈ TB := TB_mem 516 (by decide +kernel) (by decide +kernel)
theorem t_523 : Cond.methodLink R_Law 97 y_Law_save ∈ TB := TB_mem 523 (by decide +kernel) (by decide +kernel)
theorem t_524 : Cond.static y_Law_save ∈ TB := TB_mem 524 (by decide +kernel) (by decide +kernel)
theorem t_525 : Cond.codeWith y_Law_save b_Law_save 3 (some .int) [(0, 8, 11, 19), (0, 8, 14, 27), (0, 8, 17, 21)] ∈ TB := TB_mem 525 (by decide +kernel) (by decide +kernel)
theorem t_530 : Cond.methodLink R_Law 100 y_Law_cut ∈ TB := TB_mem 530 (by decide +kernel) (by decide +kernel)
theorem t_531 : Cond.static y_Law_cut ∈ TB := TB_mem 531 (by decide +kernel) (by decide +kernel)
theorem t_532 : Cond.codeWith y_Law_cut b_Law_cut 4 (some .int) [(0, 9, 12, 13)] ∈ TB := TB_mem 532 (by decide +kernel) (by decide +kernel)
theorem t_541 : Cond.methodLink R_Law 104 y_Law_power ∈ TB := TB_mem 541 (by decide +kernel) (by decide +kernel)
theorem t_542 : Cond.static y_Law_power ∈ TB := TB_mem 542 (by decide +kernel) (by decide +kernel)
theorem t_543 : Cond.codeWith y_Law_power b_Law_power 4 (some .int) [(0, 9, 12, 19)] ∈ TB := TB_mem 543 (by decide +kernel) (by decide +kernel)
theorem t_574 : Cond.methodLink R_Law 108 y_Law_request ∈ TB := TB_mem 574 (by decide +kernel) (by decide +kernel)
theorem t_575 : Cond.static y_Law_request ∈ TB := TB_mem 575 (by decide +kernel) (by decide +kernel)
theorem t_576 : Cond.codeWith y_Law_request b_Law_request 4 (some .int) [(0, 9, 12, 13), (0, 9, 15, 19), (0, 9, 18, 21), (0, 9, 21, 27)] ∈ TB := TB_mem 576 (by decide +kernel) (by decide +kernel)
theorem t_634 : Cond.methodLink R_Law 111 y_Law_reply ∈ TB := TB_mem 634 (by decide +kernel) (by decide +kernel)
theorem t_635 : Cond.static y_Law_reply ∈ TB := TB_mem 635 (by decide +kernel) (by decide +kernel)
theorem t_636 : Cond.codeWith y_Law_reply b_Law_reply 4 (some .int) [(0, 9, 12, 52)] ∈ TB := TB_mem 636 (by decide +kernel) (by decide +kernel)
theorem t_658 : Cond.methodLink R_Law 114 y_Law_flash ∈ TB := TB_mem 658 (by decide +kernel) (by decide +kernel)
theorem t_659 : Cond.static y_Law_flash ∈ TB := TB_mem 659 (by decide +kernel) (by decide +kernel)
theorem t_660 : Cond.codeWith y_Law_flash b_Law_flash 5 (some .int) [(0, 9, 12, 13)] ∈ TB := TB_mem 660 (by decide +kernel) (by decide +kernel)
theorem t_666 : Cond.methodLink R_Law 118 y_Law_read ∈ TB := TB_mem 666 (by decide +kernel) (by decide +kernel)
theorem t_667 : Cond.static y_Law_read ∈ TB := TB_mem 667 (by decide +kernel) (by decide +kernel)
theorem t_668 : Cond.codeWith y_Law_read b_Law_read 4 (some .int) [(0, 8, 11, 13), (0, 8, 14, 19)] ∈ TB := TB_mem 668 (by decide +kernel) (by decide +kernel)
theorem t_673 : Cond.methodLink R_Law 122 y_Law_price ∈ TB := TB_mem 673 (by decide +kernel) (by decide +kernel)
theorem t_674 : Cond.static y_Law_price ∈ TB := TB_mem 674 (by decide +kernel) (by decide +kernel)
theorem t_675 : Cond.codeWith y_Law_price b_Law_price 4 (some .int) [(0, 8, 11, 13)] ∈ TB := TB_mem 675 (by decide +kernel) (by decide +kernel)
theorem t_680 : Cond.methodLink R_Law 125 y_Law_count ∈ TB := TB_mem 680 (by decide +kernel) (by decide +kernel)
theorem t_681 : Cond.static y_Law_count ∈ TB := TB_mem 681 (by decide +kernel) (by decide +kernel)
theorem t_682 : Cond.codeWith y_Law_count b_Law_count 4 (some .int) [(0, 9, 12, 13), (0, 9, 15, 19)] ∈ TB := TB_mem 682 (by decide +kernel) (by decide +kernel)
theorem t_775 : Cond.methodLink R_Law 78 y_Mod_thrown ∈ TB := TB_mem 775 (by decide +kernel) (by decide +kernel)
theorem t_776 : Cond.instanceMethod y_Mod_thrown ∈ TB := TB_mem 776 (by decide +kernel) (by decide +kernel)
theorem t_777 : Cond.selects R_Mod y_Mod_thrown y_Mod_thrown ∈ TB := TB_mem 777 (by decide +kernel) (by decide +kernel)
theorem t_778 : Cond.code y_Mod_thrown b_Mod_thrown 1 (some .int) ∈ TB := TB_mem 778 (by decide +kernel) (by decide +kernel)
theorem t_779 : Cond.methodLink R_Law 77 y_Mod_plan ∈ TB := TB_mem 779 (by decide +kernel) (by decide +kernel)
theorem t_780 : Cond.instanceMethod y_Mod_plan ∈ TB := TB_mem 780 (by decide +kernel) (by decide +kernel)
theorem t_781 : Cond.selects R_Mod y_Mod_plan y_Mod_plan ∈ TB := TB_mem 781 (by decide +kernel) (by decide +kernel)
theorem t_782 : Cond.code y_Mod_plan b_Mod_plan 7 (some .int) ∈ TB := TB_mem 782 (by decide +kernel) (by decide +kernel)
theorem t_790 : Cond.methodLink R_Law 86 y_Mod_use ∈ TB := TB_mem 790 (by decide +kernel) (by decide +kernel)
theorem t_791 : Cond.instanceMethod y_Mod_use ∈ TB := TB_mem 791 (by decide +kernel) (by decide +kernel)
theorem t_792 : Cond.selects R_Mod y_Mod_use y_Mod_use ∈ TB := TB_mem 792 (by decide +kernel) (by decide +kernel)
theorem t_793 : Cond.code y_Mod_use b_Mod_use 8 (some .int) ∈ TB := TB_mem 793 (by decide +kernel) (by decide +kernel)
theorem t_844 : Cond.methodLink R_Law 92 y_Mod_token ∈ TB := TB_mem 844 (by decide +kernel) (by decide +kernel)
theorem t_845 : Cond.instanceMethod y_Mod_token ∈ TB := TB_mem 845 (by decide +kernel) (by decide +kernel)
theorem t_846 : Cond.selects R_Mod y_Mod_token y_Mod_token ∈ TB := TB_mem 846 (by decide +kernel) (by decide +kernel)
theorem t_847 : Cond.code y_Mod_token b_Mod_token 9 (some .int) ∈ TB := TB_mem 847 (by decide +kernel) (by decide +kernel)
theorem t_866 : Cond.methodLink R_Law 96 y_Mod_emergency ∈ TB := TB_mem 866 (by decide +kernel) (by decide +kernel)
theorem t_867 : Cond.instanceMethod y_Mod_emergency ∈ TB := TB_mem 867 (by decide +kernel) (by decide +kernel)
theorem t_868 : Cond.selects R_Mod y_Mod_emergency y_Mod_emergency ∈ TB := TB_mem 868 (by decide +kernel) (by decide +kernel)
theorem t_869 : Cond.code y_Mod_emergency b_Mod_emergency 1 (some .int) ∈ TB := TB_mem 869 (by decide +kernel) (by decide +kernel)
theorem t_870 : Cond.methodLink R_Law 99 y_Mod_save ∈ TB := TB_mem 870 (by decide +kernel) (by decide +kernel)
theorem t_871 : Cond.instanceMethod y_Mod_save ∈ TB := TB_mem 871 (by decide +kernel) (by decide +kernel)
theorem t_872 : Cond.selects R_Mod y_Mod_save y_Mod_save ∈ TB := TB_mem 872 (by decide +kernel) (by decide +kernel)
theorem t_873 : Cond.code y_Mod_save b_Mod_save 3 (some .int) ∈ TB := TB_mem 873 (by decide +kernel) (by decide +kernel)
theorem t_874 : Cond.methodLink R_Law 103 y_Mod_cut ∈ TB := TB_mem 874 (by decide +kernel) (by decide +kernel)
theorem t_875 : Cond.instanceMethod y_Mod_cut ∈ TB := TB_mem 875 (by decide +kernel) (by decide +kernel)
theorem t_876 : Cond.selects R_Mod y_Mod_cut y_Mod_cut ∈ TB := TB_mem 876 (by decide +kernel) (by decide +kernel)
theorem t_877 : Cond.code y_Mod_cut b_Mod_cut 3 (some .int) ∈ TB := TB_mem 877 (by decide +kernel) (by decide +kernel)
theorem t_878 : Cond.methodLink R_Law 107 y_Mod_power ∈ TB := TB_mem 878 (by decide +kernel) (by decide +kernel)
theorem t_879 : Cond.instanceMethod y_Mod_power ∈ TB := TB_mem 879 (by decide +kernel) (by decide +kernel)
theorem t_880 : Cond.selects R_Mod y_Mod_power y_Mod_power ∈ TB := TB_mem 880 (by decide +kernel) (by decide +kernel)
theorem t_881 : Cond.code y_Mod_power b_Mod_power 4 (some .int) ∈ TB := TB_mem 881 (by decide +kernel) (by decide +kernel)
theorem t_888 : Cond.methodLink R_Law 110 y_Mod_request ∈ TB := TB_mem 888 (by decide +kernel) (by decide +kernel)
theorem t_889 : Cond.instanceMethod y_Mod_request ∈ TB := TB_mem 889 (by decide +kernel) (by decide +kernel)
theorem t_890 : Cond.selects R_Mod y_Mod_request y_Mod_request ∈ TB := TB_mem 890 (by decide +kernel) (by decide +kernel)
theorem t_891 : Cond.code y_Mod_request b_Mod_request 2 (some .int) ∈ TB := TB_mem 891 (by decide +kernel) (by decide +kernel)
theorem t_925 : Cond.methodLink R_Law 113 y_Mod_reply ∈ TB := TB_mem 925 (by decide +kernel) (by decide +kernel)
theorem t_926 : Cond.instanceMethod y_Mod_reply ∈ TB := TB_mem 926 (by decide +kernel) (by decide +kernel)
theorem t_927 : Cond.selects R_Mod y_Mod_reply y_Mod_reply ∈ TB := TB_mem 927 (by decide +kernel) (by decide +kernel)
theorem t_928 : Cond.code y_Mod_reply b_Mod_reply 2 (some .int) ∈ TB := TB_mem 928 (by decide +kernel) (by decide +kernel)
theorem t_929 : Cond.methodLink R_Law 117 y_Mod_flash ∈ TB := TB_mem 929 (by decide +kernel) (by decide +kernel)
theorem t_930 : Cond.instanceMethod y_Mod_flash ∈ TB := TB_mem 930 (by decide +kernel) (by decide +kernel)
theorem t_931 : Cond.selects R_Mod y_Mod_flash y_Mod_flash ∈ TB := TB_mem 931 (by decide +kernel) (by decide +kernel)
theorem t_932 : Cond.code y_Mod_flash b_Mod_flash 3 (some .long) ∈ TB := TB_mem 932 (by decide +kernel) (by decide +kernel)
theorem t_933 : Cond.methodLink R_Law 121 y_Mod_read ∈ TB := TB_mem 933 (by decide +kernel) (by decide +kernel)
theorem t_934 : Cond.instanceMethod y_Mod_read ∈ TB := TB_mem 934 (by decide +kernel) (by decide +kernel)
theorem t_935 : Cond.selects R_Mod y_Mod_read y_Mod_read ∈ TB := TB_mem 935 (by decide +kernel) (by decide +kernel)
theorem t_936 : Cond.code y_Mod_read b_Mod_read 2 (some .double) ∈ TB := TB_mem 936 (by decide +kernel) (by decide +kernel)
theorem t_937 : Cond.methodLink R_Law 124 y_Mod_price ∈ TB := TB_mem 937 (by decide +kernel) (by decide +kernel)
theorem t_938 : Cond.instanceMethod y_Mod_price ∈ TB := TB_mem 938 (by decide +kernel) (by decide +kernel)
theorem t_939 : Cond.selects R_Mod y_Mod_price y_Mod_price ∈ TB := TB_mem 939 (by decide +kernel) (by decide +kernel)
theorem t_940 : Cond.code y_Mod_price b_Mod_price 2 (some .double) ∈ TB := TB_mem 940 (by decide +kernel) (by decide +kernel)
theorem t_941 : Cond.methodLink R_Law 127 y_Mod_count ∈ TB := TB_mem 941 (by decide +kernel) (by decide +kernel)
theorem t_942 : Cond.instanceMethod y_Mod_count ∈ TB := TB_mem 942 (by decide +kernel) (by decide +kernel)
theorem t_943 : Cond.selects R_Mod y_Mod_count y_Mod_count ∈ TB := TB_mem 943 (by decide +kernel) (by decide +kernel)
theorem t_944 : Cond.code y_Mod_count b_Mod_count 2 (some .int) ∈ TB := TB_mem 944 (by decide +kernel) (by decide +kernel)
theorem t_945 : Cond.constantDouble R_Law 81 (4593671619917905920 : UInt64) ∈ TB := TB_mem 945 (by decide +kernel) (by decide +kernel)
theorem t_946 : Cond.constantLong R_Law 87 (4294967295 : Int64) ∈ TB := TB_mem 946 (by decide +kernel) (by decide +kernel)
