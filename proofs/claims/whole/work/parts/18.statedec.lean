theorem d_Box_thousandths_0 : decode b_Box_thousandths 0 = .ok (.dload_n 0, 1) := by decide +kernel
theorem d_Box_thousandths_1 : decode b_Box_thousandths 1 = .ok (.ldc2_w 257, 3) := by decide +kernel
theorem d_Box_thousandths_4 : decode b_Box_thousandths 4 = .ok (.dmul, 1) := by decide +kernel
theorem d_Box_thousandths_5 : decode b_Box_thousandths 5 = .ok (.d2l, 1) := by decide +kernel
theorem d_Box_thousandths_6 : decode b_Box_thousandths 6 = .ok (.lreturn, 1) := by decide +kernel
theorem d_State_begin_0 : decode b_State_begin 0 = .ok (.iconst 0, 1) := by decide +kernel
theorem d_State_begin_1 : decode b_State_begin 1 = .ok (.istore_n 1, 1) := by decide +kernel
theorem d_State_begin_2 : decode b_State_begin 2 = .ok (.iload_n 1, 1) := by decide +kernel
theorem d_State_begin_3 : decode b_State_begin 3 = .ok (.iconst 3, 1) := by decide +kernel
theorem d_State_begin_4 : decode b_State_begin 4 = .ok (.if_icmp .ge 16, 3) := by decide +kernel
theorem d_State_begin_7 : decode b_State_begin 7 = .ok (.aload_n 0, 1) := by decide +kernel
theorem d_State_begin_8 : decode b_State_begin 8 = .ok (.getfield 9, 3) := by decide +kernel
theorem d_State_begin_11 : decode b_State_begin 11 = .ok (.iload_n 1, 1) := by decide +kernel
theorem d_State_begin_12 : decode b_State_begin 12 = .ok (.dconst 0, 1) := by decide +kernel
theorem d_State_begin_13 : decode b_State_begin 13 = .ok (.dastore, 1) := by decide +kernel
theorem d_State_begin_14 : decode b_State_begin 14 = .ok (.iinc 1 1, 3) := by decide +kernel
theorem d_State_begin_17 : decode b_State_begin 17 = .ok (.goto (-15), 3) := by decide +kernel
theorem d_State_begin_20 : decode b_State_begin 20 = .ok (.aload_n 0, 1) := by decide +kernel
theorem d_State_begin_21 : decode b_State_begin 21 = .ok (.iconst 0, 1) := by decide +kernel
theorem d_State_begin_22 : decode b_State_begin 22 = .ok (.putfield 18, 3) := by decide +kernel
theorem d_State_begin_25 : decode b_State_begin 25 = .ok (.aload_n 0, 1) := by decide +kernel
theorem d_State_begin_26 : decode b_State_begin 26 = .ok (.ldc2_w 22, 3) := by decide +kernel
theorem d_State_begin_29 : decode b_State_begin 29 = .ok (.putfield 24, 3) := by decide +kernel
theorem d_State_begin_32 : decode b_State_begin 32 = .ok (.aload_n 0, 1) := by decide +kernel
theorem d_State_begin_33 : decode b_State_begin 33 = .ok (.dconst 0, 1) := by decide +kernel
theorem d_State_begin_34 : decode b_State_begin 34 = .ok (.putfield 28, 3) := by decide +kernel
theorem d_State_begin_37 : decode b_State_begin 37 = .ok (.aload_n 0, 1) := by decide +kernel
theorem d_State_begin_38 : decode b_State_begin 38 = .ok (.iconst 0, 1) := by decide +kernel
theorem d_State_begin_39 : decode b_State_begin 39 = .ok (.putfield 31, 3) := by decide +kernel
theorem d_State_begin_42 : decode b_State_begin 42 = .ok (.aload_n 0, 1) := by decide +kernel
theorem d_State_begin_43 : decode b_State_begin 43 = .ok (.iconst 0, 1) := by decide +kernel
theorem d_State_begin_44 : decode b_State_begin 44 = .ok (.putfield 34, 3) := by decide +kernel
theorem d_State_begin_47 : decode b_State_begin 47 = .ok (.aload_n 0, 1) := by decide +kernel
theorem d_State_begin_48 : decode b_State_begin 48 = .ok (.iconst 0, 1) := by decide +kernel
theorem d_State_begin_49 : decode b_State_begin 49 = .ok (.putfield 38, 3) := by decide +kernel
theorem d_State_begin_52 : decode b_State_begin 52 = .ok (.return_, 1) := by decide +kernel
theorem d_State_consume_0 : decode b_State_consume 0 = .ok (.dload_n 1, 1) := by decide +kernel
theorem d_State_consume_1 : decode b_State_consume 1 = .ok (.aload_n 0, 1) := by decide +kernel
theorem d_State_consume_2 : decode b_State_consume 2 = .ok (.getfield 28, 3) := by decide +kernel
theorem d_State_consume_5 : decode b_State_consume 5 = .ok (.dcmp .l, 1) := by decide +kernel
theorem d_State_consume_6 : decode b_State_consume 6 = .ok (.ifCond .le 8, 3) := by decide +kernel
theorem d_State_consume_9 : decode b_State_consume 9 = .ok (.aload_n 0, 1) := by decide +kernel
theorem d_State_consume_10 : decode b_State_consume 10 = .ok (.dload_n 1, 1) := by decide +kernel
theorem d_State_consume_11 : decode b_State_consume 11 = .ok (.putfield 28, 3) := by decide +kernel
theorem d_State_consume_14 : decode b_State_consume 14 = .ok (.dload_n 1, 1) := by decide +kernel
theorem d_State_consume_15 : decode b_State_consume 15 = .ok (.ldc2_w 41, 3) := by decide +kernel
theorem d_State_consume_18 : decode b_State_consume 18 = .ok (.ddiv, 1) := by decide +kernel
theorem d_State_consume_19 : decode b_State_consume 19 = .ok (.dstore 6, 2) := by decide +kernel
theorem d_State_consume_21 : decode b_State_consume 21 = .ok (.aload_n 0, 1) := by decide +kernel
theorem d_State_consume_22 : decode b_State_consume 22 = .ok (.getfield 9, 3) := by decide +kernel
theorem d_State_consume_25 : decode b_State_consume 25 = .ok (.iload_n 3, 1) := by decide +kernel
theorem d_State_consume_26 : decode b_State_consume 26 = .ok (.dup2, 1) := by decide +kernel
theorem d_State_consume_27 : decode b_State_consume 27 = .ok (.daload, 1) := by decide +kernel
theorem d_State_consume_28 : decode b_State_consume 28 = .ok (.dload 6, 2) := by decide +kernel
theorem d_State_consume_30 : decode b_State_consume 30 = .ok (.dadd, 1) := by decide +kernel
theorem d_State_consume_31 : decode b_State_consume 31 = .ok (.dastore, 1) := by decide +kernel
theorem d_State_consume_32 : decode b_State_consume 32 = .ok (.aload_n 0, 1) := by decide +kernel
theorem d_State_consume_33 : decode b_State_consume 33 = .ok (.dup, 1) := by decide +kernel
theorem d_State_consume_34 : decode b_State_consume 34 = .ok (.getfield 24, 3) := by decide +kernel
theorem d_State_consume_37 : decode b_State_consume 37 = .ok (.dload 6, 2) := by decide +kernel
theorem d_State_consume_39 : decode b_State_consume 39 = .ok (.dload 4, 2) := by decide +kernel
theorem d_State_consume_41 : decode b_State_consume 41 = .ok (.dmul, 1) := by decide +kernel
theorem d_State_consume_42 : decode b_State_consume 42 = .ok (.dsub, 1) := by decide +kernel
theorem d_State_consume_43 : decode b_State_consume 43 = .ok (.putfield 24, 3) := by decide +kernel
theorem d_State_consume_46 : decode b_State_consume 46 = .ok (.aload_n 0, 1) := by decide +kernel
theorem d_State_consume_47 : decode b_State_consume 47 = .ok (.dup, 1) := by decide +kernel
theorem d_State_consume_48 : decode b_State_consume 48 = .ok (.getfield 18, 3) := by decide +kernel
theorem d_State_consume_51 : decode b_State_consume 51 = .ok (.iconst 1, 1) := by decide +kernel
theorem d_State_consume_52 : decode b_State_consume 52 = .ok (.iadd, 1) := by decide +kernel
theorem d_State_consume_53 : decode b_State_consume 53 = .ok (.putfield 18, 3) := by decide +kernel
theorem d_State_consume_56 : decode b_State_consume 56 = .ok (.return_, 1) := by decide +kernel
theorem d_State_isCreditSpent_0 : decode b_State_isCreditSpent 0 = .ok (.aload_n 0, 1) := by decide +kernel
theorem d_State_isCreditSpent_1 : decode b_State_isCreditSpent 1 = .ok (.getfield 24, 3) := by decide +kernel
theorem d_State_isCreditSpent_4 : decode b_State_isCreditSpent 4 = .ok (.aload_n 0, 1) := by decide +kernel
theorem d_State_isCreditSpent_5 : decode b_State_isCreditSpent 5 = .ok (.getfield 38, 3) := by decide +kernel
theorem d_State_isCreditSpent_8 : decode b_State_isCreditSpent 8 = .ok (.ifCond .eq 9, 3) := by decide +kernel
theorem d_State_isCreditSpent_11 : decode b_State_isCreditSpent 11 = .ok (.ldc2_w 43, 3) := by decide +kernel
theorem d_State_isCreditSpent_14 : decode b_State_isCreditSpent 14 = .ok (.goto 4, 3) := by decide +kernel
theorem d_State_isCreditSpent_17 : decode b_State_isCreditSpent 17 = .ok (.dconst 0, 1) := by decide +kernel
theorem d_State_isCreditSpent_18 : decode b_State_isCreditSpent 18 = .ok (.dcmp .g, 1) := by decide +kernel
theorem d_State_isCreditSpent_19 : decode b_State_isCreditSpent 19 = .ok (.ifCond .ge 7, 3) := by decide +kernel
theorem d_State_isCreditSpent_22 : decode b_State_isCreditSpent 22 = .ok (.iconst 1, 1) := by decide +kernel
theorem d_State_isCreditSpent_23 : decode b_State_isCreditSpent 23 = .ok (.goto 4, 3) := by decide +kernel
theorem d_State_isCreditSpent_26 : decode b_State_isCreditSpent 26 = .ok (.iconst 0, 1) := by decide +kernel
theorem d_State_isCreditSpent_27 : decode b_State_isCreditSpent 27 = .ok (.ireturn, 1) := by decide +kernel
theorem d_State_value_0 : decode b_State_value 0 = .ok (.iload_n 1, 1) := by decide +kernel
theorem d_State_value_1 : decode b_State_value 1 = .ok (.iconst 3, 1) := by decide +kernel
theorem d_State_value_2 : decode b_State_value 2 = .ok (.if_icmp .ge 10, 3) := by decide +kernel
theorem d_State_value_5 : decode b_State_value 5 = .ok (.aload_n 0, 1) := by decide +kernel
theorem d_State_value_6 : decode b_State_value 6 = .ok (.getfield 9, 3) := by decide +kernel
theorem d_State_value_9 : decode b_State_value 9 = .ok (.iload_n 1, 1) := by decide +kernel
theorem d_State_value_10 : decode b_State_value 10 = .ok (.daload, 1) := by decide +kernel
theorem d_State_value_11 : decode b_State_value 11 = .ok (.dreturn, 1) := by decide +kernel
theorem d_State_value_12 : decode b_State_value 12 = .ok (.iload_n 1, 1) := by decide +kernel
theorem d_State_value_13 : decode b_State_value 13 = .ok (.iconst 4, 1) := by decide +kernel
theorem d_State_value_14 : decode b_State_value 14 = .ok (.if_icmp .ne 10, 3) := by decide +kernel
theorem d_State_value_17 : decode b_State_value 17 = .ok (.aload_n 0, 1) := by decide +kernel
theorem d_State_value_18 : decode b_State_value 18 = .ok (.getfield 28, 3) := by decide +kernel
theorem d_State_value_21 : decode b_State_value 21 = .ok (.goto 7, 3) := by decide +kernel
theorem d_State_value_24 : decode b_State_value 24 = .ok (.aload_n 0, 1) := by decide +kernel
theorem d_State_value_25 : decode b_State_value 25 = .ok (.getfield 24, 3) := by decide +kernel
theorem d_State_value_28 : decode b_State_value 28 = .ok (.dreturn, 1) := by decide +kernel
theorem d_State_packInto_0 : decode b_State_packInto 0 = .ok (.aload_n 0, 1) := by decide +kernel
theorem d_State_packInto_1 : decode b_State_packInto 1 = .ok (.getfield 18, 3) := by decide +kernel
theorem d_State_packInto_4 : decode b_State_packInto 4 = .ok (.i2l, 1) := by decide +kernel
theorem d_State_packInto_5 : decode b_State_packInto 5 = .ok (.ldc2_w 45, 3) := by decide +kernel
theorem d_State_packInto_8 : decode b_State_packInto 8 = .ok (.lmul, 1) := by decide +kernel
theorem d_State_packInto_9 : decode b_State_packInto 9 = .ok (.aload_n 0, 1) := by decide +kernel
theorem d_State_packInto_10 : decode b_State_packInto 10 = .ok (.getfield 34, 3) := by decide +kernel
theorem d_State_packInto_13 : decode b_State_packInto 13 = .ok (.ifCond .eq 7, 3) := by decide +kernel
theorem d_State_packInto_16 : decode b_State_packInto 16 = .ok (.iconst 1, 1) := by decide +kernel
theorem d_State_packInto_17 : decode b_State_packInto 17 = .ok (.goto 4, 3) := by decide +kernel
theorem d_State_packInto_20 : decode b_State_packInto 20 = .ok (.iconst 0, 1) := by decide +kernel
theorem d_State_packInto_21 : decode b_State_packInto 21 = .ok (.i2l, 1) := by decide +kernel
theorem d_State_packInto_22 : decode b_State_packInto 22 = .ok (.ladd, 1) := by decide +kernel
theorem d_State_packInto_23 : decode b_State_packInto 23 = .ok (.aload_n 0, 1) := by decide +kernel
theorem d_State_packInto_24 : decode b_State_packInto 24 = .ok (.getfield 38, 3) := by decide +kernel
theorem d_State_packInto_27 : decode b_State_packInto 27 = .ok (.ifCond .eq 7, 3) := by decide +kernel
theorem d_State_packInto_30 : decode b_State_packInto 30 = .ok (.iconst 2, 1) := by decide +kernel
theorem d_State_packInto_31 : decode b_State_packInto 31 = .ok (.goto 4, 3) := by decide +kernel
theorem d_State_packInto_34 : decode b_State_packInto 34 = .ok (.iconst 0, 1) := by decide +kernel
theorem d_State_packInto_35 : decode b_State_packInto 35 = .ok (.i2l, 1) := by decide +kernel
theorem d_State_packInto_36 : decode b_State_packInto 36 = .ok (.ladd, 1) := by decide +kernel
theorem d_State_packInto_37 : decode b_State_packInto 37 = .ok (.lstore_n 2, 1) := by decide +kernel
theorem d_State_packInto_38 : decode b_State_packInto 38 = .ok (.aload_n 1, 1) := by decide +kernel
theorem d_State_packInto_39 : decode b_State_packInto 39 = .ok (.iconst 1, 1) := by decide +kernel
theorem d_State_packInto_40 : decode b_State_packInto 40 = .ok (.aload_n 0, 1) := by decide +kernel
theorem d_State_packInto_41 : decode b_State_packInto 41 = .ok (.getfield 24, 3) := by decide +kernel
theorem d_State_packInto_44 : decode b_State_packInto 44 = .ok (.invokestatic 47, 3) := by decide +kernel
theorem d_State_packInto_47 : decode b_State_packInto 47 = .ok (.ldc2_w 51, 3) := by decide +kernel
theorem d_State_packInto_50 : decode b_State_packInto 50 = .ok (.lload_n 2, 1) := by decide +kernel
theorem d_State_packInto_51 : decode b_State_packInto 51 = .ok (.lmul, 1) := by decide +kernel
theorem d_State_packInto_52 : decode b_State_packInto 52 = .ok (.ladd, 1) := by decide +kernel
theorem d_State_packInto_53 : decode b_State_packInto 53 = .ok (.lastore, 1) := by decide +kernel
theorem d_State_packInto_54 : decode b_State_packInto 54 = .ok (.aload_n 1, 1) := by decide +kernel
theorem d_State_packInto_55 : decode b_State_packInto 55 = .ok (.iconst 2, 1) := by decide +kernel
theorem d_State_packInto_56 : decode b_State_packInto 56 = .ok (.aload_n 0, 1) := by decide +kernel
theorem d_State_packInto_57 : decode b_State_packInto 57 = .ok (.getfield 9, 3) := by decide +kernel
theorem d_State_packInto_60 : decode b_State_packInto 60 = .ok (.iconst 0, 1) := by decide +kernel
theorem d_State_packInto_61 : decode b_State_packInto 61 = .ok (.daload, 1) := by decide +kernel
theorem d_State_packInto_62 : decode b_State_packInto 62 = .ok (.invokestatic 47, 3) := by decide +kernel
theorem d_State_packInto_65 : decode b_State_packInto 65 = .ok (.lastore, 1) := by decide +kernel
theorem d_State_packInto_66 : decode b_State_packInto 66 = .ok (.aload_n 1, 1) := by decide +kernel
theorem d_State_packInto_67 : decode b_State_packInto 67 = .ok (.iconst 3, 1) := by decide +kernel
theorem d_State_packInto_68 : decode b_State_packInto 68 = .ok (.aload_n 0, 1) := by decide +kernel
theorem d_State_packInto_69 : decode b_State_packInto 69 = .ok (.getfield 9, 3) := by decide +kernel
theorem d_State_packInto_72 : decode b_State_packInto 72 = .ok (.iconst 1, 1) := by decide +kernel
theorem d_State_packInto_73 : decode b_State_packInto 73 = .ok (.daload, 1) := by decide +kernel
theorem d_State_packInto_74 : decode b_State_packInto 74 = .ok (.invokestatic 47, 3) := by decide +kernel
theorem d_State_packInto_77 : decode b_State_packInto 77 = .ok (.lastore, 1) := by decide +kernel
theorem d_State_packInto_78 : decode b_State_packInto 78 = .ok (.aload_n 1, 1) := by decide +kernel
theorem d_State_packInto_79 : decode b_State_packInto 79 = .ok (.iconst 4, 1) := by decide +kernel
theorem d_State_packInto_80 : decode b_State_packInto 80 = .ok (.aload_n 0, 1) := by decide +kernel
theorem d_State_packInto_81 : decode b_State_packInto 81 = .ok (.getfield 9, 3) := by decide +kernel
theorem d_State_packInto_84 : decode b_State_packInto 84 = .ok (.iconst 2, 1) := by decide +kernel
theorem d_State_packInto_85 : decode b_State_packInto 85 = .ok (.daload, 1) := by decide +kernel
theorem d_State_packInto_86 : decode b_State_packInto 86 = .ok (.invokestatic 47, 3) := by decide +kernel
theorem d_State_packInto_89 : decode b_State_packInto 89 = .ok (.ldc2_w 53, 3) := by decide +kernel
theorem d_State_packInto_92 : decode b_State_packInto 92 = .ok (.aload_n 0, 1) := by decide +kernel
theorem d_State_packInto_93 : decode b_State_packInto 93 = .ok (.getfield 31, 3) := by decide +kernel
theorem d_State_packInto_96 : decode b_State_packInto 96 = .ok (.i2l, 1) := by decide +kernel
theorem d_State_packInto_97 : decode b_State_packInto 97 = .ok (.lmul, 1) := by decide +kernel
theorem d_State_packInto_98 : decode b_State_packInto 98 = .ok (.ladd, 1) := by decide +kernel
theorem d_State_packInto_99 : decode b_State_packInto 99 = .ok (.lastore, 1) := by decide +kernel
theorem d_State_packInto_100 : decode b_State_packInto 100 = .ok (.return_, 1) := by decide +kernel
theorem d_State_unpackFrom_0 : decode b_State_unpackFrom 0 = .ok (.aload_n 1, 1) := by decide +kernel
theorem d_State_unpackFrom_1 : decode b_State_unpackFrom 1 = .ok (.iconst 1, 1) := by decide +kernel
theorem d_State_unpackFrom_2 : decode b_State_unpackFrom 2 = .ok (.laload, 1) := by decide +kernel
theorem d_State_unpackFrom_3 : decode b_State_unpackFrom 3 = .ok (.ldc2_w 55, 3) := by decide +kernel
theorem d_State_unpackFrom_6 : decode b_State_unpackFrom 6 = .ok (.ladd, 1) := by decide +kernel
theorem d_State_unpackFrom_7 : decode b_State_unpackFrom 7 = .ok (.ldc2_w 51, 3) := by decide +kernel
theorem d_State_unpackFrom_10 : decode b_State_unpackFrom 10 = .ok (.ldiv, 1) := by decide +kernel
theorem d_State_unpackFrom_11 : decode b_State_unpackFrom 11 = .ok (.lstore_n 2, 1) := by decide +kernel
theorem d_State_unpackFrom_12 : decode b_State_unpackFrom 12 = .ok (.aload_n 1, 1) := by decide +kernel
theorem d_State_unpackFrom_13 : decode b_State_unpackFrom 13 = .ok (.iconst 4, 1) := by decide +kernel
theorem d_State_unpackFrom_14 : decode b_State_unpackFrom 14 = .ok (.laload, 1) := by decide +kernel
theorem d_State_unpackFrom_15 : decode b_State_unpackFrom 15 = .ok (.ldc2_w 53, 3) := by decide +kernel
theorem d_State_unpackFrom_18 : decode b_State_unpackFrom 18 = .ok (.ldiv, 1) := by decide +kernel
theorem d_State_unpackFrom_19 : decode b_State_unpackFrom 19 = .ok (.lstore 4, 2) := by decide +kernel
theorem d_State_unpackFrom_21 : decode b_State_unpackFrom 21 = .ok (.aload_n 0, 1) := by decide +kernel
theorem d_State_unpackFrom_22 : decode b_State_unpackFrom 22 = .ok (.aload_n 1, 1) := by decide +kernel
theorem d_State_unpackFrom_23 : decode b_State_unpackFrom 23 = .ok (.iconst 1, 1) := by decide +kernel
theorem d_State_unpackFrom_24 : decode b_State_unpackFrom 24 = .ok (.laload, 1) := by decide +kernel
theorem d_State_unpackFrom_25 : decode b_State_unpackFrom 25 = .ok (.lload_n 2, 1) := by decide +kernel
theorem d_State_unpackFrom_26 : decode b_State_unpackFrom 26 = .ok (.ldc2_w 51, 3) := by decide +kernel
theorem d_State_unpackFrom_29 : decode b_State_unpackFrom 29 = .ok (.lmul, 1) := by decide +kernel
theorem d_State_unpackFrom_30 : decode b_State_unpackFrom 30 = .ok (.lsub, 1) := by decide +kernel
theorem d_State_unpackFrom_31 : decode b_State_unpackFrom 31 = .ok (.l2d, 1) := by decide +kernel
theorem d_State_unpackFrom_32 : decode b_State_unpackFrom 32 = .ok (.ldc2_w 57, 3) := by decide +kernel
theorem d_State_unpackFrom_35 : decode b_State_unpackFrom 35 = .ok (.ddiv, 1) := by decide +kernel
theorem d_State_unpackFrom_36 : decode b_State_unpackFrom 36 = .ok (.putfield 24, 3) := by decide +kernel
theorem d_State_unpackFrom_39 : decode b_State_unpackFrom 39 = .ok (.aload_n 0, 1) := by decide +kernel
theorem d_State_unpackFrom_40 : decode b_State_unpackFrom 40 = .ok (.getfield 9, 3) := by decide +kernel
theorem d_State_unpackFrom_43 : decode b_State_unpackFrom 43 = .ok (.iconst 0, 1) := by decide +kernel
theorem d_State_unpackFrom_44 : decode b_State_unpackFrom 44 = .ok (.aload_n 1, 1) := by decide +kernel
theorem d_State_unpackFrom_45 : decode b_State_unpackFrom 45 = .ok (.iconst 2, 1) := by decide +kernel
theorem d_State_unpackFrom_46 : decode b_State_unpackFrom 46 = .ok (.laload, 1) := by decide +kernel
theorem d_State_unpackFrom_47 : decode b_State_unpackFrom 47 = .ok (.l2d, 1) := by decide +kernel
theorem d_State_unpackFrom_48 : decode b_State_unpackFrom 48 = .ok (.ldc2_w 57, 3) := by decide +kernel
theorem d_State_unpackFrom_51 : decode b_State_unpackFrom 51 = .ok (.ddiv, 1) := by decide +kernel
theorem d_State_unpackFrom_52 : decode b_State_unpackFrom 52 = .ok (.dastore, 1) := by decide +kernel
theorem d_State_unpackFrom_53 : decode b_State_unpackFrom 53 = .ok (.aload_n 0, 1) := by decide +kernel
theorem d_State_unpackFrom_54 : decode b_State_unpackFrom 54 = .ok (.getfield 9, 3) := by decide +kernel
theorem d_State_unpackFrom_57 : decode b_State_unpackFrom 57 = .ok (.iconst 1, 1) := by decide +kernel
theorem d_State_unpackFrom_58 : decode b_State_unpackFrom 58 = .ok (.aload_n 1, 1) := by decide +kernel
theorem d_State_unpackFrom_59 : decode b_State_unpackFrom 59 = .ok (.iconst 3, 1) := by decide +kernel
theorem d_State_unpackFrom_60 : decode b_State_unpackFrom 60 = .ok (.laload, 1) := by decide +kernel
theorem d_State_unpackFrom_61 : decode b_State_unpackFrom 61 = .ok (.l2d, 1) := by decide +kernel
theorem d_State_unpackFrom_62 : decode b_State_unpackFrom 62 = .ok (.ldc2_w 57, 3) := by decide +kernel
theorem d_State_unpackFrom_65 : decode b_State_unpackFrom 65 = .ok (.ddiv, 1) := by decide +kernel
theorem d_State_unpackFrom_66 : decode b_State_unpackFrom 66 = .ok (.dastore, 1) := by decide +kernel
theorem d_State_unpackFrom_67 : decode b_State_unpackFrom 67 = .ok (.aload_n 0, 1) := by decide +kernel
theorem d_State_unpackFrom_68 : decode b_State_unpackFrom 68 = .ok (.getfield 9, 3) := by decide +kernel
theorem d_State_unpackFrom_71 : decode b_State_unpackFrom 71 = .ok (.iconst 2, 1) := by decide +kernel
theorem d_State_unpackFrom_72 : decode b_State_unpackFrom 72 = .ok (.aload_n 1, 1) := by decide +kernel
theorem d_State_unpackFrom_73 : decode b_State_unpackFrom 73 = .ok (.iconst 4, 1) := by decide +kernel
theorem d_State_unpackFrom_74 : decode b_State_unpackFrom 74 = .ok (.laload, 1) := by decide +kernel
theorem d_State_unpackFrom_75 : decode b_State_unpackFrom 75 = .ok (.lload 4, 2) := by decide +kernel
theorem d_State_unpackFrom_77 : decode b_State_unpackFrom 77 = .ok (.ldc2_w 53, 3) := by decide +kernel
theorem d_State_unpackFrom_80 : decode b_State_unpackFrom 80 = .ok (.lmul, 1) := by decide +kernel
theorem d_State_unpackFrom_81 : decode b_State_unpackFrom 81 = .ok (.lsub, 1) := by decide +kernel
theorem d_State_unpackFrom_82 : decode b_State_unpackFrom 82 = .ok (.l2d, 1) := by decide +kernel
theorem d_State_unpackFrom_83 : decode b_State_unpackFrom 83 = .ok (.ldc2_w 57, 3) := by decide +kernel
theorem d_State_unpackFrom_86 : decode b_State_unpackFrom 86 = .ok (.ddiv, 1) := by decide +kernel
theorem d_State_unpackFrom_87 : decode b_State_unpackFrom 87 = .ok (.dastore, 1) := by decide +kernel
theorem d_State_unpackFrom_88 : decode b_State_unpackFrom 88 = .ok (.aload_n 0, 1) := by decide +kernel
theorem d_State_unpackFrom_89 : decode b_State_unpackFrom 89 = .ok (.lload_n 2, 1) := by decide +kernel
theorem d_State_unpackFrom_90 : decode b_State_unpackFrom 90 = .ok (.ldc2_w 45, 3) := by decide +kernel
theorem d_State_unpackFrom_93 : decode b_State_unpackFrom 93 = .ok (.ldiv, 1) := by decide +kernel
theorem d_State_unpackFrom_94 : decode b_State_unpackFrom 94 = .ok (.l2i, 1) := by decide +kernel
theorem d_State_unpackFrom_95 : decode b_State_unpackFrom 95 = .ok (.putfield 18, 3) := by decide +kernel
theorem d_State_unpackFrom_98 : decode b_State_unpackFrom 98 = .ok (.aload_n 0, 1) := by decide +kernel
theorem d_State_unpackFrom_99 : decode b_State_unpackFrom 99 = .ok (.lload_n 2, 1) := by decide +kernel
theorem d_State_unpackFrom_100 : decode b_State_unpackFrom 100 = .ok (.lconst 1, 1) := by decide +kernel
theorem d_State_unpackFrom_101 : decode b_State_unpackFrom 101 = .ok (.land, 1) := by decide +kernel
theorem d_State_unpackFrom_102 : decode b_State_unpackFrom 102 = .ok (.lconst 0, 1) := by decide +kernel
theorem d_State_unpackFrom_103 : decode b_State_unpackFrom 103 = .ok (.lcmp, 1) := by decide +kernel
theorem d_State_unpackFrom_104 : decode b_State_unpackFrom 104 = .ok (.ifCond .eq 7, 3) := by decide +kernel
theorem d_State_unpackFrom_107 : decode b_State_unpackFrom 107 = .ok (.iconst 1, 1) := by decide +kernel
theorem d_State_unpackFrom_108 : decode b_State_unpackFrom 108 = .ok (.goto 4, 3) := by decide +kernel
theorem d_State_unpackFrom_111 : decode b_State_unpackFrom 111 = .ok (.iconst 0, 1) := by decide +kernel
theorem d_State_unpackFrom_112 : decode b_State_unpackFrom 112 = .ok (.putfield 34, 3) := by decide +kernel
theorem d_State_unpackFrom_115 : decode b_State_unpackFrom 115 = .ok (.aload_n 0, 1) := by decide +kernel
theorem d_State_unpackFrom_116 : decode b_State_unpackFrom 116 = .ok (.lload_n 2, 1) := by decide +kernel
theorem d_State_unpackFrom_117 : decode b_State_unpackFrom 117 = .ok (.ldc2_w 59, 3) := by decide +kernel
theorem d_State_unpackFrom_120 : decode b_State_unpackFrom 120 = .ok (.land, 1) := by decide +kernel
theorem d_State_unpackFrom_121 : decode b_State_unpackFrom 121 = .ok (.lconst 0, 1) := by decide +kernel
theorem d_State_unpackFrom_122 : decode b_State_unpackFrom 122 = .ok (.lcmp, 1) := by decide +kernel
theorem d_State_unpackFrom_123 : decode b_State_unpackFrom 123 = .ok (.ifCond .eq 7, 3) := by decide +kernel
theorem d_State_unpackFrom_126 : decode b_State_unpackFrom 126 = .ok (.iconst 1, 1) := by decide +kernel
theorem d_State_unpackFrom_127 : decode b_State_unpackFrom 127 = .ok (.goto 4, 3) := by decide +kernel
theorem d_State_unpackFrom_130 : decode b_State_unpackFrom 130 = .ok (.iconst 0, 1) := by decide +kernel
theorem d_State_unpackFrom_131 : decode b_State_unpackFrom 131 = .ok (.putfield 38, 3) := by decide +kernel
theorem d_State_unpackFrom_134 : decode b_State_unpackFrom 134 = .ok (.aload_n 0, 1) := by decide +kernel
theorem d_State_unpackFrom_135 : decode b_State_unpackFrom 135 = .ok (.lload 4, 2) := by decide +kernel
theorem d_State_unpackFrom_137 : decode b_State_unpackFrom 137 = .ok (.l2i, 1) := by decide +kernel
theorem d_State_unpackFrom_138 : decode b_State_unpackFrom 138 = .ok (.putfield 31, 3) := by decide +kernel
theorem d_State_unpackFrom_141 : decode b_State_unpackFrom 141 = .ok (.aload_n 0, 1) := by decide +kernel
theorem d_State_unpackFrom_142 : decode b_State_unpackFrom 142 = .ok (.dconst 0, 1) := by decide +kernel
theorem d_State_unpackFrom_143 : decode b_State_unpackFrom 143 = .ok (.putfield 28, 3) := by decide +kernel
theorem d_State_unpackFrom_146 : decode b_State_unpackFrom 146 = .ok (.return_, 1) := by decide +kernel
