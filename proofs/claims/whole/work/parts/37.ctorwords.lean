def R_Arr : String := "java/util/Arrays"
abbrev b_Arr_fillI : ByteArray := prog_19_method_103_code
def y_Arr_fillI : MethodName := ⟨R_Arr, "fill", "([II)V"⟩
def w_Arr_fillI : List Cond := .code y_Arr_fillI b_Arr_fillI 4 none :: TB
abbrev b_Arr_fillJ : ByteArray := prog_19_method_101_code
def y_Arr_fillJ : MethodName := ⟨R_Arr, "fill", "([JJ)V"⟩
def w_Arr_fillJ : List Cond := .code y_Arr_fillJ b_Arr_fillJ 5 none :: TB
theorem df_Events : ∀ j, j < 2 → defaultValue (ty_Events j) = vp_V [.null, .int (0 : Int32)] j := by intro j hj; rcases (show j = 0 ∨ j = 1 by omega) with rfl | rfl <;> rfl
theorem df_Flash : ∀ j, j < 5 → defaultValue (ty_Flash j) = vp_V [.null, .null, .null, .int (0 : Int32), .int (0 : Int32)] j := by intro j hj; rcases (show j = 0 ∨ j = 1 ∨ j = 2 ∨ j = 3 ∨ j = 4 by omega) with rfl | rfl | rfl | rfl | rfl <;> rfl
theorem df_Line : ∀ j, j < 7 → defaultValue (ty_Line j) = vp_V [.null, .null, .null, .int (0 : Int32), .int (0 : Int32), .int (0 : Int32), .int (0 : Int32)] j := by intro j hj; rcases (show j = 0 ∨ j = 1 ∨ j = 2 ∨ j = 3 ∨ j = 4 ∨ j = 5 ∨ j = 6 by omega) with rfl | rfl | rfl | rfl | rfl | rfl | rfl <;> rfl
theorem df_Plans : ∀ j, j < 2 → defaultValue (ty_Plans j) = vp_V [.null, .null] j := by intro j hj; rcases (show j = 0 ∨ j = 1 by omega) with rfl | rfl <;> rfl
theorem df_State : ∀ j, j < 7 → defaultValue (ty_State j) = vp_V [.null, .int (0 : Int32), .double (0 : UInt64), .double (0 : UInt64), .int (0 : Int32), .int (0 : Int32), .int (0 : Int32)] j := by intro j hj; rcases (show j = 0 ∨ j = 1 ∨ j = 2 ∨ j = 3 ∨ j = 4 ∨ j = 5 ∨ j = 6 by omega) with rfl | rfl | rfl | rfl | rfl | rfl | rfl <;> rfl
theorem df_Box : ∀ j, j < 7 → defaultValue (ty_Box j) = vp_V [.null, .null, .null, .null, .null, .null, .int (0 : Int32)] j := by intro j hj; rcases (show j = 0 ∨ j = 1 ∨ j = 2 ∨ j = 3 ∨ j = 4 ∨ j = 5 ∨ j = 6 by omega) with rfl | rfl | rfl | rfl | rfl | rfl | rfl <;> rfl
theorem df_Mod : ∀ j, j < 25 → defaultValue (ty_Mod j) = vp_V [.int (0 : Int32), .int (0 : Int32), .int (0 : Int32), .double (0 : UInt64), .null, .double (0 : UInt64), .int (0 : Int32), .int (0 : Int32), .int (0 : Int32), .null, .null, .null, .null, .int (0 : Int32), .null, .null, .int (0 : Int32), .int (0 : Int32), .int (0 : Int32), .int (0 : Int32), .int (0 : Int32), .null, .int (0 : Int32), .null, .int (0 : Int32)] j := by intro j hj; rcases (show j = 0 ∨ j = 1 ∨ j = 2 ∨ j = 3 ∨ j = 4 ∨ j = 5 ∨ j = 6 ∨ j = 7 ∨ j = 8 ∨ j = 9 ∨ j = 10 ∨ j = 11 ∨ j = 12 ∨ j = 13 ∨ j = 14 ∨ j = 15 ∨ j = 16 ∨ j = 17 ∨ j = 18 ∨ j = 19 ∨ j = 20 ∨ j = 21 ∨ j = 22 ∨ j = 23 ∨ j = 24 by omega) with rfl | rfl | rfl | rfl | rfl | rfl | rfl | rfl | rfl | rfl | rfl | rfl | rfl | rfl | rfl | rfl | rfl | rfl | rfl | rfl | rfl | rfl | rfl | rfl | rfl <;> rfl
theorem cA_I {D : va_G} {cl : List vw_C} {s : State} {cI cL cD cN : ClassId} (h : va_K D cl ([(cI, .int), (cL, .long), (cD, .double)] ++ [(cN, .int)]) s) : cN = cI := by
  have h1 : s.vm.findClass ("[" ++ (FieldType.int).toString) = some cN := (h.2 3 (cN, .int) rfl).2
  have h2 : s.vm.findClass ("[" ++ (FieldType.int).toString) = some cI := (h.2 0 (cI, .int) rfl).2
  exact Option.some.inj (h1.symm.trans h2)
theorem cA_J {D : va_G} {cl : List vw_C} {s : State} {cI cL cD cN : ClassId} (h : va_K D cl ([(cI, .int), (cL, .long), (cD, .double)] ++ [(cN, .long)]) s) : cN = cL := by
  have h1 : s.vm.findClass ("[" ++ (FieldType.long).toString) = some cN := (h.2 3 (cN, .long) rfl).2
  have h2 : s.vm.findClass ("[" ++ (FieldType.long).toString) = some cL := (h.2 1 (cL, .long) rfl).2
  exact Option.some.inj (h1.symm.trans h2)
theorem cA_D {D : va_G} {cl : List vw_C} {s : State} {cI cL cD cN : ClassId} (h : va_K D cl ([(cI, .int), (cL, .long), (cD, .double)] ++ [(cN, .double)]) s) : cN = cD := by
  have h1 : s.vm.findClass ("[" ++ (FieldType.double).toString) = some cN := (h.2 3 (cN, .double) rfl).2
  have h2 : s.vm.findClass ("[" ++ (FieldType.double).toString) = some cD := (h.2 2 (cD, .double) rfl).2
  exact Option.some.inj (h1.symm.trans h2)
theorem t_40 : Cond.initialized R_Arr ∈ TB := TB_mem 40 (by decide +kernel) (by decide +kernel)
theorem t_61 : Cond.methodLink R_Box 1 objectInit ∈ TB := TB_mem 61 (by decide +kernel) (by decide +kernel)
theorem t_62 : Cond.instanceMethod objectInit ∈ TB := TB_mem 62 (by decide +kernel) (by decide +kernel)
theorem t_63 : Cond.code objectInit ⟨#[0xb1]⟩ 1 none ∈ TB := TB_mem 63 (by decide +kernel) (by decide +kernel)
theorem t_64 : Cond.classLink R_Box 13 R_Plans ∈ TB := TB_mem 64 (by decide +kernel) (by decide +kernel)
theorem t_65 : Cond.instantiable R_Plans 2 ∈ TB := TB_mem 65 (by decide +kernel) (by decide +kernel)
theorem t_66 : Cond.methodLink R_Box 15 y_Plans_init ∈ TB := TB_mem 66 (by decide +kernel) (by decide +kernel)
theorem t_67 : Cond.instanceMethod y_Plans_init ∈ TB := TB_mem 67 (by decide +kernel) (by decide +kernel)
theorem t_68 : Cond.code y_Plans_init b_Plans_init 1 none ∈ TB := TB_mem 68 (by decide +kernel) (by decide +kernel)
theorem t_69 : Cond.methodLink R_Plans 3 objectInit ∈ TB := TB_mem 69 (by decide +kernel) (by decide +kernel)
theorem t_70 : Cond.methodLink R_Plans 18 y_Arr_fillI ∈ TB := TB_mem 70 (by decide +kernel) (by decide +kernel)
theorem t_71 : Cond.static y_Arr_fillI ∈ TB := TB_mem 71 (by decide +kernel) (by decide +kernel)
theorem t_72 : Cond.code y_Arr_fillI b_Arr_fillI 4 none ∈ TB := TB_mem 72 (by decide +kernel) (by decide +kernel)
theorem t_80 : Cond.arrayClass .double ∈ TB := TB_mem 80 (by decide +kernel) (by decide +kernel)
theorem t_81 : Cond.arrayClass .int ∈ TB := TB_mem 81 (by decide +kernel) (by decide +kernel)
theorem t_82 : Cond.classLink R_Box 20 R_State ∈ TB := TB_mem 82 (by decide +kernel) (by decide +kernel)
theorem t_83 : Cond.instantiable R_State 7 ∈ TB := TB_mem 83 (by decide +kernel) (by decide +kernel)
theorem t_84 : Cond.methodLink R_Box 22 y_State_init ∈ TB := TB_mem 84 (by decide +kernel) (by decide +kernel)
theorem t_85 : Cond.instanceMethod y_State_init ∈ TB := TB_mem 85 (by decide +kernel) (by decide +kernel)
theorem t_86 : Cond.code y_State_init b_State_init 1 none ∈ TB := TB_mem 86 (by decide +kernel) (by decide +kernel)
theorem t_87 : Cond.methodLink R_State 3 objectInit ∈ TB := TB_mem 87 (by decide +kernel) (by decide +kernel)
theorem t_88 : Cond.methodLink R_State 15 y_State_begin ∈ TB := TB_mem 88 (by decide +kernel) (by decide +kernel)
theorem t_121 : Cond.classLink R_Box 27 R_Events ∈ TB := TB_mem 121 (by decide +kernel) (by decide +kernel)
theorem t_122 : Cond.instantiable R_Events 2 ∈ TB := TB_mem 122 (by decide +kernel) (by decide +kernel)
theorem t_124 : Cond.instanceMethod y_Events_init ∈ TB := TB_mem 124 (by decide +kernel) (by decide +kernel)
theorem t_125 : Cond.code y_Events_init b_Events_init 1 none ∈ TB := TB_mem 125 (by decide +kernel) (by decide +kernel)
theorem t_126 : Cond.methodLink R_Events 1 objectInit ∈ TB := TB_mem 126 (by decide +kernel) (by decide +kernel)
theorem t_136 : Cond.classLink R_Box 34 R_Flash ∈ TB := TB_mem 136 (by decide +kernel) (by decide +kernel)
theorem t_137 : Cond.instantiable R_Flash 5 ∈ TB := TB_mem 137 (by decide +kernel) (by decide +kernel)
theorem t_138 : Cond.methodLink R_Box 36 y_Flash_init ∈ TB := TB_mem 138 (by decide +kernel) (by decide +kernel)
theorem t_139 : Cond.instanceMethod y_Flash_init ∈ TB := TB_mem 139 (by decide +kernel) (by decide +kernel)
theorem t_140 : Cond.code y_Flash_init b_Flash_init 1 none ∈ TB := TB_mem 140 (by decide +kernel) (by decide +kernel)
theorem t_141 : Cond.methodLink R_Flash 5 objectInit ∈ TB := TB_mem 141 (by decide +kernel) (by decide +kernel)
theorem t_143 : Cond.methodLink R_Flash 31 y_Arr_fillJ ∈ TB := TB_mem 143 (by decide +kernel) (by decide +kernel)
theorem t_144 : Cond.static y_Arr_fillJ ∈ TB := TB_mem 144 (by decide +kernel) (by decide +kernel)
theorem t_145 : Cond.code y_Arr_fillJ b_Arr_fillJ 5 none ∈ TB := TB_mem 145 (by decide +kernel) (by decide +kernel)
theorem t_165 : Cond.arrayClass .long ∈ TB := TB_mem 165 (by decide +kernel) (by decide +kernel)
theorem t_166 : Cond.classLink R_Box 41 R_Line ∈ TB := TB_mem 166 (by decide +kernel) (by decide +kernel)
theorem t_167 : Cond.instantiable R_Line 7 ∈ TB := TB_mem 167 (by decide +kernel) (by decide +kernel)
theorem t_169 : Cond.instanceMethod y_Line_init ∈ TB := TB_mem 169 (by decide +kernel) (by decide +kernel)
theorem t_170 : Cond.code y_Line_init b_Line_init 1 none ∈ TB := TB_mem 170 (by decide +kernel) (by decide +kernel)
theorem t_171 : Cond.methodLink R_Line 3 objectInit ∈ TB := TB_mem 171 (by decide +kernel) (by decide +kernel)
theorem t_696 : Cond.methodLink R_Mod 1 objectInit ∈ TB := TB_mem 696 (by decide +kernel) (by decide +kernel)
theorem d_Arr_fillI_0 : decode b_Arr_fillI 0 = .ok (.iconst 0, 1) := by decide +kernel
theorem d_Arr_fillI_1 : decode b_Arr_fillI 1 = .ok (.istore_n 2, 1) := by decide +kernel
theorem d_Arr_fillI_2 : decode b_Arr_fillI 2 = .ok (.aload_n 0, 1) := by decide +kernel
theorem d_Arr_fillI_3 : decode b_Arr_fillI 3 = .ok (.arraylength, 1) := by decide +kernel
theorem d_Arr_fillI_4 : decode b_Arr_fillI 4 = .ok (.istore_n 3, 1) := by decide +kernel
theorem d_Arr_fillI_5 : decode b_Arr_fillI 5 = .ok (.iload_n 2, 1) := by decide +kernel
theorem d_Arr_fillI_6 : decode b_Arr_fillI 6 = .ok (.iload_n 3, 1) := by decide +kernel
theorem d_Arr_fillI_7 : decode b_Arr_fillI 7 = .ok (.if_icmp .ge 13, 3) := by decide +kernel
theorem d_Arr_fillI_10 : decode b_Arr_fillI 10 = .ok (.aload_n 0, 1) := by decide +kernel
theorem d_Arr_fillI_11 : decode b_Arr_fillI 11 = .ok (.iload_n 2, 1) := by decide +kernel
theorem d_Arr_fillI_12 : decode b_Arr_fillI 12 = .ok (.iload_n 1, 1) := by decide +kernel
theorem d_Arr_fillI_13 : decode b_Arr_fillI 13 = .ok (.iastore, 1) := by decide +kernel
theorem d_Arr_fillI_14 : decode b_Arr_fillI 14 = .ok (.iinc 2 1, 3) := by decide +kernel
theorem d_Arr_fillI_17 : decode b_Arr_fillI 17 = .ok (.goto (-12), 3) := by decide +kernel
theorem d_Arr_fillI_20 : decode b_Arr_fillI 20 = .ok (.return_, 1) := by decide +kernel
theorem d_Arr_fillJ_0 : decode b_Arr_fillJ 0 = .ok (.iconst 0, 1) := by decide +kernel
theorem d_Arr_fillJ_1 : decode b_Arr_fillJ 1 = .ok (.istore_n 3, 1) := by decide +kernel
theorem d_Arr_fillJ_2 : decode b_Arr_fillJ 2 = .ok (.aload_n 0, 1) := by decide +kernel
theorem d_Arr_fillJ_3 : decode b_Arr_fillJ 3 = .ok (.arraylength, 1) := by decide +kernel
theorem d_Arr_fillJ_4 : decode b_Arr_fillJ 4 = .ok (.istore 4, 2) := by decide +kernel
theorem d_Arr_fillJ_6 : decode b_Arr_fillJ 6 = .ok (.iload_n 3, 1) := by decide +kernel
theorem d_Arr_fillJ_7 : decode b_Arr_fillJ 7 = .ok (.iload 4, 2) := by decide +kernel
theorem d_Arr_fillJ_9 : decode b_Arr_fillJ 9 = .ok (.if_icmp .ge 13, 3) := by decide +kernel
theorem d_Arr_fillJ_12 : decode b_Arr_fillJ 12 = .ok (.aload_n 0, 1) := by decide +kernel
theorem d_Arr_fillJ_13 : decode b_Arr_fillJ 13 = .ok (.iload_n 3, 1) := by decide +kernel
theorem d_Arr_fillJ_14 : decode b_Arr_fillJ 14 = .ok (.lload_n 1, 1) := by decide +kernel
theorem d_Arr_fillJ_15 : decode b_Arr_fillJ 15 = .ok (.lastore, 1) := by decide +kernel
theorem d_Arr_fillJ_16 : decode b_Arr_fillJ 16 = .ok (.iinc 3 1, 3) := by decide +kernel
theorem d_Arr_fillJ_19 : decode b_Arr_fillJ 19 = .ok (.goto (-13), 3) := by decide +kernel
theorem d_Arr_fillJ_22 : decode b_Arr_fillJ 22 = .ok (.return_, 1) := by decide +kernel
theorem d_Events_init_0 : decode b_Events_init 0 = .ok (.aload_n 0, 1) := by decide +kernel
theorem d_Events_init_1 : decode b_Events_init 1 = .ok (.invokespecial 1, 3) := by decide +kernel
theorem d_Events_init_4 : decode b_Events_init 4 = .ok (.aload_n 0, 1) := by decide +kernel
theorem d_Events_init_5 : decode b_Events_init 5 = .ok (.bipush 12, 2) := by decide +kernel
theorem d_Events_init_7 : decode b_Events_init 7 = .ok (.newarray .int, 2) := by decide +kernel
theorem d_Events_init_9 : decode b_Events_init 9 = .ok (.putfield 9, 3) := by decide +kernel
theorem d_Events_init_12 : decode b_Events_init 12 = .ok (.return_, 1) := by decide +kernel
theorem d_Flash_init_0 : decode b_Flash_init 0 = .ok (.aload_n 0, 1) := by decide +kernel
theorem d_Flash_init_1 : decode b_Flash_init 1 = .ok (.invokespecial 5, 3) := by decide +kernel
theorem d_Flash_init_4 : decode b_Flash_init 4 = .ok (.aload_n 0, 1) := by decide +kernel
theorem d_Flash_init_5 : decode b_Flash_init 5 = .ok (.bipush 72, 2) := by decide +kernel
theorem d_Flash_init_7 : decode b_Flash_init 7 = .ok (.newarray .long, 2) := by decide +kernel
theorem d_Flash_init_9 : decode b_Flash_init 9 = .ok (.putfield 11, 3) := by decide +kernel
theorem d_Flash_init_12 : decode b_Flash_init 12 = .ok (.aload_n 0, 1) := by decide +kernel
theorem d_Flash_init_13 : decode b_Flash_init 13 = .ok (.iconst 4, 1) := by decide +kernel
theorem d_Flash_init_14 : decode b_Flash_init 14 = .ok (.newarray .int, 2) := by decide +kernel
theorem d_Flash_init_16 : decode b_Flash_init 16 = .ok (.putfield 15, 3) := by decide +kernel
theorem d_Flash_init_19 : decode b_Flash_init 19 = .ok (.aload_n 0, 1) := by decide +kernel
theorem d_Flash_init_20 : decode b_Flash_init 20 = .ok (.bipush 6, 2) := by decide +kernel
theorem d_Flash_init_22 : decode b_Flash_init 22 = .ok (.newarray .long, 2) := by decide +kernel
theorem d_Flash_init_24 : decode b_Flash_init 24 = .ok (.putfield 19, 3) := by decide +kernel
theorem d_Flash_init_27 : decode b_Flash_init 27 = .ok (.aload_n 0, 1) := by decide +kernel
theorem d_Flash_init_28 : decode b_Flash_init 28 = .ok (.iconst (-1), 1) := by decide +kernel
theorem d_Flash_init_29 : decode b_Flash_init 29 = .ok (.putfield 22, 3) := by decide +kernel
theorem d_Flash_init_32 : decode b_Flash_init 32 = .ok (.aload_n 0, 1) := by decide +kernel
theorem d_Flash_init_33 : decode b_Flash_init 33 = .ok (.iconst (-1), 1) := by decide +kernel
theorem d_Flash_init_34 : decode b_Flash_init 34 = .ok (.putfield 26, 3) := by decide +kernel
theorem d_Flash_init_37 : decode b_Flash_init 37 = .ok (.aload_n 0, 1) := by decide +kernel
theorem d_Flash_init_38 : decode b_Flash_init 38 = .ok (.getfield 11, 3) := by decide +kernel
theorem d_Flash_init_41 : decode b_Flash_init 41 = .ok (.ldc2_w 29, 3) := by decide +kernel
theorem d_Flash_init_44 : decode b_Flash_init 44 = .ok (.invokestatic 31, 3) := by decide +kernel
theorem d_Flash_init_47 : decode b_Flash_init 47 = .ok (.return_, 1) := by decide +kernel
theorem d_Line_init_0 : decode b_Line_init 0 = .ok (.aload_n 0, 1) := by decide +kernel
theorem d_Line_init_1 : decode b_Line_init 1 = .ok (.invokespecial 3, 3) := by decide +kernel
theorem d_Line_init_4 : decode b_Line_init 4 = .ok (.aload_n 0, 1) := by decide +kernel
theorem d_Line_init_5 : decode b_Line_init 5 = .ok (.bipush 12, 2) := by decide +kernel
theorem d_Line_init_7 : decode b_Line_init 7 = .ok (.newarray .int, 2) := by decide +kernel
theorem d_Line_init_9 : decode b_Line_init 9 = .ok (.putfield 9, 3) := by decide +kernel
theorem d_Line_init_12 : decode b_Line_init 12 = .ok (.aload_n 0, 1) := by decide +kernel
theorem d_Line_init_13 : decode b_Line_init 13 = .ok (.bipush 11, 2) := by decide +kernel
theorem d_Line_init_15 : decode b_Line_init 15 = .ok (.newarray .int, 2) := by decide +kernel
theorem d_Line_init_17 : decode b_Line_init 17 = .ok (.putfield 13, 3) := by decide +kernel
theorem d_Line_init_20 : decode b_Line_init 20 = .ok (.aload_n 0, 1) := by decide +kernel
theorem d_Line_init_21 : decode b_Line_init 21 = .ok (.bipush 24, 2) := by decide +kernel
theorem d_Line_init_23 : decode b_Line_init 23 = .ok (.newarray .int, 2) := by decide +kernel
theorem d_Line_init_25 : decode b_Line_init 25 = .ok (.putfield 16, 3) := by decide +kernel
theorem d_Line_init_28 : decode b_Line_init 28 = .ok (.return_, 1) := by decide +kernel
theorem d_Plans_init_0 : decode b_Plans_init 0 = .ok (.aload_n 0, 1) := by decide +kernel
theorem d_Plans_init_1 : decode b_Plans_init 1 = .ok (.invokespecial 3, 3) := by decide +kernel
theorem d_Plans_init_4 : decode b_Plans_init 4 = .ok (.aload_n 0, 1) := by decide +kernel
theorem d_Plans_init_5 : decode b_Plans_init 5 = .ok (.bipush 8, 2) := by decide +kernel
theorem d_Plans_init_7 : decode b_Plans_init 7 = .ok (.newarray .int, 2) := by decide +kernel
theorem d_Plans_init_9 : decode b_Plans_init 9 = .ok (.putfield 11, 3) := by decide +kernel
theorem d_Plans_init_12 : decode b_Plans_init 12 = .ok (.aload_n 0, 1) := by decide +kernel
theorem d_Plans_init_13 : decode b_Plans_init 13 = .ok (.bipush 8, 2) := by decide +kernel
theorem d_Plans_init_15 : decode b_Plans_init 15 = .ok (.newarray .int, 2) := by decide +kernel
theorem d_Plans_init_17 : decode b_Plans_init 17 = .ok (.putfield 15, 3) := by decide +kernel
theorem d_Plans_init_20 : decode b_Plans_init 20 = .ok (.aload_n 0, 1) := by decide +kernel
theorem d_Plans_init_21 : decode b_Plans_init 21 = .ok (.getfield 15, 3) := by decide +kernel
theorem d_Plans_init_24 : decode b_Plans_init 24 = .ok (.iconst (-1), 1) := by decide +kernel
theorem d_Plans_init_25 : decode b_Plans_init 25 = .ok (.invokestatic 18, 3) := by decide +kernel
theorem d_Plans_init_28 : decode b_Plans_init 28 = .ok (.return_, 1) := by decide +kernel
theorem d_State_init_0 : decode b_State_init 0 = .ok (.aload_n 0, 1) := by decide +kernel
theorem d_State_init_1 : decode b_State_init 1 = .ok (.invokespecial 3, 3) := by decide +kernel
theorem d_State_init_4 : decode b_State_init 4 = .ok (.aload_n 0, 1) := by decide +kernel
theorem d_State_init_5 : decode b_State_init 5 = .ok (.iconst 3, 1) := by decide +kernel
theorem d_State_init_6 : decode b_State_init 6 = .ok (.newarray .double, 2) := by decide +kernel
theorem d_State_init_8 : decode b_State_init 8 = .ok (.putfield 9, 3) := by decide +kernel
theorem d_State_init_11 : decode b_State_init 11 = .ok (.aload_n 0, 1) := by decide +kernel
theorem d_State_init_12 : decode b_State_init 12 = .ok (.invokevirtual 15, 3) := by decide +kernel
theorem d_State_init_15 : decode b_State_init 15 = .ok (.return_, 1) := by decide +kernel
theorem d_Box_init_0 : decode b_Box_init 0 = .ok (.aload_n 0, 1) := by decide +kernel
theorem d_Box_init_1 : decode b_Box_init 1 = .ok (.invokespecial 1, 3) := by decide +kernel
theorem d_Box_init_4 : decode b_Box_init 4 = .ok (.aload_n 0, 1) := by decide +kernel
theorem d_Box_init_5 : decode b_Box_init 5 = .ok (.iconst 3, 1) := by decide +kernel
theorem d_Box_init_6 : decode b_Box_init 6 = .ok (.newarray .double, 2) := by decide +kernel
theorem d_Box_init_8 : decode b_Box_init 8 = .ok (.putfield 9, 3) := by decide +kernel
theorem d_Box_init_11 : decode b_Box_init 11 = .ok (.iconst 0, 1) := by decide +kernel
theorem d_Box_init_12 : decode b_Box_init 12 = .ok (.istore_n 1, 1) := by decide +kernel
theorem d_Box_init_13 : decode b_Box_init 13 = .ok (.iload_n 1, 1) := by decide +kernel
theorem d_Box_init_14 : decode b_Box_init 14 = .ok (.iconst 3, 1) := by decide +kernel
theorem d_Box_init_15 : decode b_Box_init 15 = .ok (.if_icmp .ge 16, 3) := by decide +kernel
theorem d_Box_init_18 : decode b_Box_init 18 = .ok (.aload_n 0, 1) := by decide +kernel
theorem d_Box_init_19 : decode b_Box_init 19 = .ok (.getfield 9, 3) := by decide +kernel
theorem d_Box_init_22 : decode b_Box_init 22 = .ok (.iload_n 1, 1) := by decide +kernel
theorem d_Box_init_23 : decode b_Box_init 23 = .ok (.dconst 1, 1) := by decide +kernel
theorem d_Box_init_24 : decode b_Box_init 24 = .ok (.dastore, 1) := by decide +kernel
theorem d_Box_init_25 : decode b_Box_init 25 = .ok (.iinc 1 1, 3) := by decide +kernel
theorem d_Box_init_28 : decode b_Box_init 28 = .ok (.goto (-15), 3) := by decide +kernel
theorem d_Box_init_31 : decode b_Box_init 31 = .ok (.aload_n 0, 1) := by decide +kernel
theorem d_Box_init_32 : decode b_Box_init 32 = .ok (.new 13, 3) := by decide +kernel
theorem d_Box_init_35 : decode b_Box_init 35 = .ok (.dup, 1) := by decide +kernel
theorem d_Box_init_36 : decode b_Box_init 36 = .ok (.invokespecial 15, 3) := by decide +kernel
theorem d_Box_init_39 : decode b_Box_init 39 = .ok (.putfield 16, 3) := by decide +kernel
theorem d_Box_init_42 : decode b_Box_init 42 = .ok (.aload_n 0, 1) := by decide +kernel
theorem d_Box_init_43 : decode b_Box_init 43 = .ok (.new 20, 3) := by decide +kernel
theorem d_Box_init_46 : decode b_Box_init 46 = .ok (.dup, 1) := by decide +kernel
theorem d_Box_init_47 : decode b_Box_init 47 = .ok (.invokespecial 22, 3) := by decide +kernel
theorem d_Box_init_50 : decode b_Box_init 50 = .ok (.putfield 23, 3) := by decide +kernel
theorem d_Box_init_53 : decode b_Box_init 53 = .ok (.aload_n 0, 1) := by decide +kernel
theorem d_Box_init_54 : decode b_Box_init 54 = .ok (.new 27, 3) := by decide +kernel
theorem d_Box_init_57 : decode b_Box_init 57 = .ok (.dup, 1) := by decide +kernel
theorem d_Box_init_58 : decode b_Box_init 58 = .ok (.invokespecial 29, 3) := by decide +kernel
theorem d_Box_init_61 : decode b_Box_init 61 = .ok (.putfield 30, 3) := by decide +kernel
theorem d_Box_init_64 : decode b_Box_init 64 = .ok (.aload_n 0, 1) := by decide +kernel
theorem d_Box_init_65 : decode b_Box_init 65 = .ok (.new 34, 3) := by decide +kernel
theorem d_Box_init_68 : decode b_Box_init 68 = .ok (.dup, 1) := by decide +kernel
theorem d_Box_init_69 : decode b_Box_init 69 = .ok (.invokespecial 36, 3) := by decide +kernel
theorem d_Box_init_72 : decode b_Box_init 72 = .ok (.putfield 37, 3) := by decide +kernel
theorem d_Box_init_75 : decode b_Box_init 75 = .ok (.aload_n 0, 1) := by decide +kernel
theorem d_Box_init_76 : decode b_Box_init 76 = .ok (.new 41, 3) := by decide +kernel
theorem d_Box_init_79 : decode b_Box_init 79 = .ok (.dup, 1) := by decide +kernel
theorem d_Box_init_80 : decode b_Box_init 80 = .ok (.invokespecial 43, 3) := by decide +kernel
theorem d_Box_init_83 : decode b_Box_init 83 = .ok (.putfield 44, 3) := by decide +kernel
theorem d_Box_init_86 : decode b_Box_init 86 = .ok (.aload_n 0, 1) := by decide +kernel
theorem d_Box_init_87 : decode b_Box_init 87 = .ok (.iconst 1, 1) := by decide +kernel
theorem d_Box_init_88 : decode b_Box_init 88 = .ok (.putfield 48, 3) := by decide +kernel
theorem d_Box_init_91 : decode b_Box_init 91 = .ok (.return_, 1) := by decide +kernel
theorem d_Mod_init_0 : decode b_Mod_init 0 = .ok (.aload_n 0, 1) := by decide +kernel
theorem d_Mod_init_1 : decode b_Mod_init 1 = .ok (.invokespecial 1, 3) := by decide +kernel
theorem d_Mod_init_4 : decode b_Mod_init 4 = .ok (.aload_n 0, 1) := by decide +kernel
theorem d_Mod_init_5 : decode b_Mod_init 5 = .ok (.iconst 1, 1) := by decide +kernel
theorem d_Mod_init_6 : decode b_Mod_init 6 = .ok (.putfield 7, 3) := by decide +kernel
theorem d_Mod_init_9 : decode b_Mod_init 9 = .ok (.aload_n 0, 1) := by decide +kernel
theorem d_Mod_init_10 : decode b_Mod_init 10 = .ok (.ldc2_w 13, 3) := by decide +kernel
theorem d_Mod_init_13 : decode b_Mod_init 13 = .ok (.putfield 15, 3) := by decide +kernel
theorem d_Mod_init_16 : decode b_Mod_init 16 = .ok (.aload_n 0, 1) := by decide +kernel
theorem d_Mod_init_17 : decode b_Mod_init 17 = .ok (.iconst 3, 1) := by decide +kernel
theorem d_Mod_init_18 : decode b_Mod_init 18 = .ok (.newarray .double, 2) := by decide +kernel
theorem d_Mod_init_20 : decode b_Mod_init 20 = .ok (.putfield 19, 3) := by decide +kernel
theorem d_Mod_init_23 : decode b_Mod_init 23 = .ok (.aload_n 0, 1) := by decide +kernel
theorem d_Mod_init_24 : decode b_Mod_init 24 = .ok (.iconst 3, 1) := by decide +kernel
theorem d_Mod_init_25 : decode b_Mod_init 25 = .ok (.newarray .double, 2) := by decide +kernel
theorem d_Mod_init_27 : decode b_Mod_init 27 = .ok (.dup, 1) := by decide +kernel
theorem d_Mod_init_28 : decode b_Mod_init 28 = .ok (.iconst 0, 1) := by decide +kernel
theorem d_Mod_init_29 : decode b_Mod_init 29 = .ok (.dconst 1, 1) := by decide +kernel
theorem d_Mod_init_30 : decode b_Mod_init 30 = .ok (.dastore, 1) := by decide +kernel
theorem d_Mod_init_31 : decode b_Mod_init 31 = .ok (.dup, 1) := by decide +kernel
theorem d_Mod_init_32 : decode b_Mod_init 32 = .ok (.iconst 1, 1) := by decide +kernel
theorem d_Mod_init_33 : decode b_Mod_init 33 = .ok (.dconst 1, 1) := by decide +kernel
theorem d_Mod_init_34 : decode b_Mod_init 34 = .ok (.dastore, 1) := by decide +kernel
theorem d_Mod_init_35 : decode b_Mod_init 35 = .ok (.dup, 1) := by decide +kernel
theorem d_Mod_init_36 : decode b_Mod_init 36 = .ok (.iconst 2, 1) := by decide +kernel
theorem d_Mod_init_37 : decode b_Mod_init 37 = .ok (.dconst 1, 1) := by decide +kernel
theorem d_Mod_init_38 : decode b_Mod_init 38 = .ok (.dastore, 1) := by decide +kernel
theorem d_Mod_init_39 : decode b_Mod_init 39 = .ok (.putfield 23, 3) := by decide +kernel
theorem d_Mod_init_42 : decode b_Mod_init 42 = .ok (.aload_n 0, 1) := by decide +kernel
theorem d_Mod_init_43 : decode b_Mod_init 43 = .ok (.bipush 8, 2) := by decide +kernel
theorem d_Mod_init_45 : decode b_Mod_init 45 = .ok (.newarray .int, 2) := by decide +kernel
theorem d_Mod_init_47 : decode b_Mod_init 47 = .ok (.putfield 26, 3) := by decide +kernel
theorem d_Mod_init_50 : decode b_Mod_init 50 = .ok (.aload_n 0, 1) := by decide +kernel
theorem d_Mod_init_51 : decode b_Mod_init 51 = .ok (.bipush 8, 2) := by decide +kernel
theorem d_Mod_init_53 : decode b_Mod_init 53 = .ok (.newarray .int, 2) := by decide +kernel
theorem d_Mod_init_55 : decode b_Mod_init 55 = .ok (.dup, 1) := by decide +kernel
theorem d_Mod_init_56 : decode b_Mod_init 56 = .ok (.iconst 0, 1) := by decide +kernel
theorem d_Mod_init_57 : decode b_Mod_init 57 = .ok (.iconst (-1), 1) := by decide +kernel
theorem d_Mod_init_58 : decode b_Mod_init 58 = .ok (.iastore, 1) := by decide +kernel
theorem d_Mod_init_59 : decode b_Mod_init 59 = .ok (.dup, 1) := by decide +kernel
theorem d_Mod_init_60 : decode b_Mod_init 60 = .ok (.iconst 1, 1) := by decide +kernel
theorem d_Mod_init_61 : decode b_Mod_init 61 = .ok (.iconst (-1), 1) := by decide +kernel
theorem d_Mod_init_62 : decode b_Mod_init 62 = .ok (.iastore, 1) := by decide +kernel
theorem d_Mod_init_63 : decode b_Mod_init 63 = .ok (.dup, 1) := by decide +kernel
theorem d_Mod_init_64 : decode b_Mod_init 64 = .ok (.iconst 2, 1) := by decide +kernel
theorem d_Mod_init_65 : decode b_Mod_init 65 = .ok (.iconst (-1), 1) := by decide +kernel
theorem d_Mod_init_66 : decode b_Mod_init 66 = .ok (.iastore, 1) := by decide +kernel
theorem d_Mod_init_67 : decode b_Mod_init 67 = .ok (.dup, 1) := by decide +kernel
theorem d_Mod_init_68 : decode b_Mod_init 68 = .ok (.iconst 3, 1) := by decide +kernel
theorem d_Mod_init_69 : decode b_Mod_init 69 = .ok (.iconst (-1), 1) := by decide +kernel
theorem d_Mod_init_70 : decode b_Mod_init 70 = .ok (.iastore, 1) := by decide +kernel
theorem d_Mod_init_71 : decode b_Mod_init 71 = .ok (.dup, 1) := by decide +kernel
theorem d_Mod_init_72 : decode b_Mod_init 72 = .ok (.iconst 4, 1) := by decide +kernel
theorem d_Mod_init_73 : decode b_Mod_init 73 = .ok (.iconst (-1), 1) := by decide +kernel
theorem d_Mod_init_74 : decode b_Mod_init 74 = .ok (.iastore, 1) := by decide +kernel
theorem d_Mod_init_75 : decode b_Mod_init 75 = .ok (.dup, 1) := by decide +kernel
theorem d_Mod_init_76 : decode b_Mod_init 76 = .ok (.iconst 5, 1) := by decide +kernel
theorem d_Mod_init_77 : decode b_Mod_init 77 = .ok (.iconst (-1), 1) := by decide +kernel
theorem d_Mod_init_78 : decode b_Mod_init 78 = .ok (.iastore, 1) := by decide +kernel
theorem d_Mod_init_79 : decode b_Mod_init 79 = .ok (.dup, 1) := by decide +kernel
theorem d_Mod_init_80 : decode b_Mod_init 80 = .ok (.bipush 6, 2) := by decide +kernel
theorem d_Mod_init_82 : decode b_Mod_init 82 = .ok (.iconst (-1), 1) := by decide +kernel
theorem d_Mod_init_83 : decode b_Mod_init 83 = .ok (.iastore, 1) := by decide +kernel
theorem d_Mod_init_84 : decode b_Mod_init 84 = .ok (.dup, 1) := by decide +kernel
theorem d_Mod_init_85 : decode b_Mod_init 85 = .ok (.bipush 7, 2) := by decide +kernel
theorem d_Mod_init_87 : decode b_Mod_init 87 = .ok (.iconst (-1), 1) := by decide +kernel
theorem d_Mod_init_88 : decode b_Mod_init 88 = .ok (.iastore, 1) := by decide +kernel
theorem d_Mod_init_89 : decode b_Mod_init 89 = .ok (.putfield 30, 3) := by decide +kernel
theorem d_Mod_init_92 : decode b_Mod_init 92 = .ok (.aload_n 0, 1) := by decide +kernel
theorem d_Mod_init_93 : decode b_Mod_init 93 = .ok (.bipush 12, 2) := by decide +kernel
theorem d_Mod_init_95 : decode b_Mod_init 95 = .ok (.newarray .int, 2) := by decide +kernel
theorem d_Mod_init_97 : decode b_Mod_init 97 = .ok (.putfield 33, 3) := by decide +kernel
theorem d_Mod_init_100 : decode b_Mod_init 100 = .ok (.aload_n 0, 1) := by decide +kernel
theorem d_Mod_init_101 : decode b_Mod_init 101 = .ok (.bipush 72, 2) := by decide +kernel
theorem d_Mod_init_103 : decode b_Mod_init 103 = .ok (.newarray .long, 2) := by decide +kernel
theorem d_Mod_init_105 : decode b_Mod_init 105 = .ok (.putfield 36, 3) := by decide +kernel
theorem d_Mod_init_108 : decode b_Mod_init 108 = .ok (.aload_n 0, 1) := by decide +kernel
theorem d_Mod_init_109 : decode b_Mod_init 109 = .ok (.iconst 4, 1) := by decide +kernel
theorem d_Mod_init_110 : decode b_Mod_init 110 = .ok (.newarray .int, 2) := by decide +kernel
theorem d_Mod_init_112 : decode b_Mod_init 112 = .ok (.putfield 40, 3) := by decide +kernel
theorem d_Mod_init_115 : decode b_Mod_init 115 = .ok (.aload_n 0, 1) := by decide +kernel
theorem d_Mod_init_116 : decode b_Mod_init 116 = .ok (.iconst (-1), 1) := by decide +kernel
theorem d_Mod_init_117 : decode b_Mod_init 117 = .ok (.putfield 43, 3) := by decide +kernel
theorem d_Mod_init_120 : decode b_Mod_init 120 = .ok (.aload_n 0, 1) := by decide +kernel
theorem d_Mod_init_121 : decode b_Mod_init 121 = .ok (.iconst (-1), 1) := by decide +kernel
theorem d_Mod_init_122 : decode b_Mod_init 122 = .ok (.putfield 47, 3) := by decide +kernel
theorem d_Mod_init_125 : decode b_Mod_init 125 = .ok (.aload_n 0, 1) := by decide +kernel
theorem d_Mod_init_126 : decode b_Mod_init 126 = .ok (.bipush 14, 2) := by decide +kernel
theorem d_Mod_init_128 : decode b_Mod_init 128 = .ok (.newarray .int, 2) := by decide +kernel
theorem d_Mod_init_130 : decode b_Mod_init 130 = .ok (.putfield 50, 3) := by decide +kernel
theorem d_Mod_init_133 : decode b_Mod_init 133 = .ok (.aload_n 0, 1) := by decide +kernel
theorem d_Mod_init_134 : decode b_Mod_init 134 = .ok (.bipush 30, 2) := by decide +kernel
theorem d_Mod_init_136 : decode b_Mod_init 136 = .ok (.newarray .int, 2) := by decide +kernel
theorem d_Mod_init_138 : decode b_Mod_init 138 = .ok (.putfield 53, 3) := by decide +kernel
theorem d_Mod_init_141 : decode b_Mod_init 141 = .ok (.iconst 0, 1) := by decide +kernel
theorem d_Mod_init_142 : decode b_Mod_init 142 = .ok (.istore_n 1, 1) := by decide +kernel
theorem d_Mod_init_143 : decode b_Mod_init 143 = .ok (.iload_n 1, 1) := by decide +kernel
theorem d_Mod_init_144 : decode b_Mod_init 144 = .ok (.bipush 72, 2) := by decide +kernel
theorem d_Mod_init_146 : decode b_Mod_init 146 = .ok (.if_icmp .ge 18, 3) := by decide +kernel
theorem d_Mod_init_149 : decode b_Mod_init 149 = .ok (.aload_n 0, 1) := by decide +kernel
theorem d_Mod_init_150 : decode b_Mod_init 150 = .ok (.getfield 36, 3) := by decide +kernel
theorem d_Mod_init_153 : decode b_Mod_init 153 = .ok (.iload_n 1, 1) := by decide +kernel
theorem d_Mod_init_154 : decode b_Mod_init 154 = .ok (.ldc2_w 56, 3) := by decide +kernel
theorem d_Mod_init_157 : decode b_Mod_init 157 = .ok (.lastore, 1) := by decide +kernel
theorem d_Mod_init_158 : decode b_Mod_init 158 = .ok (.iinc 1 1, 3) := by decide +kernel
theorem d_Mod_init_161 : decode b_Mod_init 161 = .ok (.goto (-18), 3) := by decide +kernel
theorem d_Mod_init_164 : decode b_Mod_init 164 = .ok (.return_, 1) := by decide +kernel
