theorem d_Mod_thrown_0 : decode b_Mod_thrown 0 = .ok (.aload_n 0, 1) := by decide +kernel
theorem d_Mod_thrown_1 : decode b_Mod_thrown 1 = .ok (.getfield 58, 3) := by decide +kernel
theorem d_Mod_thrown_4 : decode b_Mod_thrown 4 = .ok (.ireturn, 1) := by decide +kernel
theorem d_Mod_raise_0 : decode b_Mod_raise 0 = .ok (.aload_n 0, 1) := by decide +kernel
theorem d_Mod_raise_1 : decode b_Mod_raise 1 = .ok (.iload_n 1, 1) := by decide +kernel
theorem d_Mod_raise_2 : decode b_Mod_raise 2 = .ok (.putfield 58, 3) := by decide +kernel
theorem d_Mod_raise_5 : decode b_Mod_raise 5 = .ok (.iconst 0, 1) := by decide +kernel
theorem d_Mod_raise_6 : decode b_Mod_raise 6 = .ok (.ireturn, 1) := by decide +kernel
theorem d_Mod_in_0 : decode b_Mod_in 0 = .ok (.iload_n 0, 1) := by decide +kernel
theorem d_Mod_in_1 : decode b_Mod_in 1 = .ok (.iload_n 1, 1) := by decide +kernel
theorem d_Mod_in_2 : decode b_Mod_in 2 = .ok (.if_icmp .lt 12, 3) := by decide +kernel
theorem d_Mod_in_5 : decode b_Mod_in 5 = .ok (.iload_n 0, 1) := by decide +kernel
theorem d_Mod_in_6 : decode b_Mod_in 6 = .ok (.iload_n 2, 1) := by decide +kernel
theorem d_Mod_in_7 : decode b_Mod_in 7 = .ok (.if_icmp .gt 7, 3) := by decide +kernel
theorem d_Mod_in_10 : decode b_Mod_in 10 = .ok (.iconst 1, 1) := by decide +kernel
theorem d_Mod_in_11 : decode b_Mod_in 11 = .ok (.goto 4, 3) := by decide +kernel
theorem d_Mod_in_14 : decode b_Mod_in 14 = .ok (.iconst 0, 1) := by decide +kernel
theorem d_Mod_in_15 : decode b_Mod_in 15 = .ok (.ireturn, 1) := by decide +kernel
theorem d_Mod_note_0 : decode b_Mod_note 0 = .ok (.aload_n 0, 1) := by decide +kernel
theorem d_Mod_note_1 : decode b_Mod_note 1 = .ok (.getfield 61, 3) := by decide +kernel
theorem d_Mod_note_4 : decode b_Mod_note 4 = .ok (.bipush 12, 2) := by decide +kernel
theorem d_Mod_note_6 : decode b_Mod_note 6 = .ok (.if_icmp .ne 41, 3) := by decide +kernel
theorem d_Mod_note_9 : decode b_Mod_note 9 = .ok (.iconst 0, 1) := by decide +kernel
theorem d_Mod_note_10 : decode b_Mod_note 10 = .ok (.istore_n 2, 1) := by decide +kernel
theorem d_Mod_note_11 : decode b_Mod_note 11 = .ok (.iload_n 2, 1) := by decide +kernel
theorem d_Mod_note_12 : decode b_Mod_note 12 = .ok (.bipush 11, 2) := by decide +kernel
theorem d_Mod_note_14 : decode b_Mod_note 14 = .ok (.if_icmp .ge 23, 3) := by decide +kernel
theorem d_Mod_note_17 : decode b_Mod_note 17 = .ok (.aload_n 0, 1) := by decide +kernel
theorem d_Mod_note_18 : decode b_Mod_note 18 = .ok (.getfield 33, 3) := by decide +kernel
theorem d_Mod_note_21 : decode b_Mod_note 21 = .ok (.iload_n 2, 1) := by decide +kernel
theorem d_Mod_note_22 : decode b_Mod_note 22 = .ok (.aload_n 0, 1) := by decide +kernel
theorem d_Mod_note_23 : decode b_Mod_note 23 = .ok (.getfield 33, 3) := by decide +kernel
theorem d_Mod_note_26 : decode b_Mod_note 26 = .ok (.iload_n 2, 1) := by decide +kernel
theorem d_Mod_note_27 : decode b_Mod_note 27 = .ok (.iconst 1, 1) := by decide +kernel
theorem d_Mod_note_28 : decode b_Mod_note 28 = .ok (.iadd, 1) := by decide +kernel
theorem d_Mod_note_29 : decode b_Mod_note 29 = .ok (.iaload, 1) := by decide +kernel
theorem d_Mod_note_30 : decode b_Mod_note 30 = .ok (.iastore, 1) := by decide +kernel
theorem d_Mod_note_31 : decode b_Mod_note 31 = .ok (.iinc 2 1, 3) := by decide +kernel
theorem d_Mod_note_34 : decode b_Mod_note 34 = .ok (.goto (-23), 3) := by decide +kernel
theorem d_Mod_note_37 : decode b_Mod_note 37 = .ok (.aload_n 0, 1) := by decide +kernel
theorem d_Mod_note_38 : decode b_Mod_note 38 = .ok (.dup, 1) := by decide +kernel
theorem d_Mod_note_39 : decode b_Mod_note 39 = .ok (.getfield 61, 3) := by decide +kernel
theorem d_Mod_note_42 : decode b_Mod_note 42 = .ok (.iconst 1, 1) := by decide +kernel
theorem d_Mod_note_43 : decode b_Mod_note 43 = .ok (.isub, 1) := by decide +kernel
theorem d_Mod_note_44 : decode b_Mod_note 44 = .ok (.putfield 61, 3) := by decide +kernel
theorem d_Mod_note_47 : decode b_Mod_note 47 = .ok (.aload_n 0, 1) := by decide +kernel
theorem d_Mod_note_48 : decode b_Mod_note 48 = .ok (.getfield 33, 3) := by decide +kernel
theorem d_Mod_note_51 : decode b_Mod_note 51 = .ok (.aload_n 0, 1) := by decide +kernel
theorem d_Mod_note_52 : decode b_Mod_note 52 = .ok (.getfield 61, 3) := by decide +kernel
theorem d_Mod_note_55 : decode b_Mod_note 55 = .ok (.sipush 10000, 3) := by decide +kernel
theorem d_Mod_note_58 : decode b_Mod_note 58 = .ok (.iload_n 1, 1) := by decide +kernel
theorem d_Mod_note_59 : decode b_Mod_note 59 = .ok (.imul, 1) := by decide +kernel
theorem d_Mod_note_60 : decode b_Mod_note 60 = .ok (.aload_n 0, 1) := by decide +kernel
theorem d_Mod_note_61 : decode b_Mod_note 61 = .ok (.getfield 64, 3) := by decide +kernel
theorem d_Mod_note_64 : decode b_Mod_note 64 = .ok (.sipush 10000, 3) := by decide +kernel
theorem d_Mod_note_67 : decode b_Mod_note 67 = .ok (.irem, 1) := by decide +kernel
theorem d_Mod_note_68 : decode b_Mod_note 68 = .ok (.iadd, 1) := by decide +kernel
theorem d_Mod_note_69 : decode b_Mod_note 69 = .ok (.iastore, 1) := by decide +kernel
theorem d_Mod_note_70 : decode b_Mod_note 70 = .ok (.aload_n 0, 1) := by decide +kernel
theorem d_Mod_note_71 : decode b_Mod_note 71 = .ok (.dup, 1) := by decide +kernel
theorem d_Mod_note_72 : decode b_Mod_note 72 = .ok (.getfield 61, 3) := by decide +kernel
theorem d_Mod_note_75 : decode b_Mod_note 75 = .ok (.iconst 1, 1) := by decide +kernel
theorem d_Mod_note_76 : decode b_Mod_note 76 = .ok (.iadd, 1) := by decide +kernel
theorem d_Mod_note_77 : decode b_Mod_note 77 = .ok (.putfield 61, 3) := by decide +kernel
theorem d_Mod_note_80 : decode b_Mod_note 80 = .ok (.return_, 1) := by decide +kernel
theorem d_Mod_plan_0 : decode b_Mod_plan 0 = .ok (.aload_n 0, 1) := by decide +kernel
theorem d_Mod_plan_1 : decode b_Mod_plan 1 = .ok (.iconst 0, 1) := by decide +kernel
theorem d_Mod_plan_2 : decode b_Mod_plan 2 = .ok (.putfield 58, 3) := by decide +kernel
theorem d_Mod_plan_5 : decode b_Mod_plan 5 = .ok (.iload_n 1, 1) := by decide +kernel
theorem d_Mod_plan_6 : decode b_Mod_plan 6 = .ok (.iconst 0, 1) := by decide +kernel
theorem d_Mod_plan_7 : decode b_Mod_plan 7 = .ok (.iconst 1, 1) := by decide +kernel
theorem d_Mod_plan_8 : decode b_Mod_plan 8 = .ok (.invokestatic 67, 3) := by decide +kernel
theorem d_Mod_plan_11 : decode b_Mod_plan 11 = .ok (.ifCond .eq 33, 3) := by decide +kernel
theorem d_Mod_plan_14 : decode b_Mod_plan 14 = .ok (.iload_n 2, 1) := by decide +kernel
theorem d_Mod_plan_15 : decode b_Mod_plan 15 = .ok (.iconst 0, 1) := by decide +kernel
theorem d_Mod_plan_16 : decode b_Mod_plan 16 = .ok (.iconst 3, 1) := by decide +kernel
theorem d_Mod_plan_17 : decode b_Mod_plan 17 = .ok (.invokestatic 67, 3) := by decide +kernel
theorem d_Mod_plan_20 : decode b_Mod_plan 20 = .ok (.ifCond .eq 24, 3) := by decide +kernel
theorem d_Mod_plan_23 : decode b_Mod_plan 23 = .ok (.iload_n 3, 1) := by decide +kernel
theorem d_Mod_plan_24 : decode b_Mod_plan 24 = .ok (.iconst 0, 1) := by decide +kernel
theorem d_Mod_plan_25 : decode b_Mod_plan 25 = .ok (.sipush 1439, 3) := by decide +kernel
theorem d_Mod_plan_28 : decode b_Mod_plan 28 = .ok (.invokestatic 67, 3) := by decide +kernel
theorem d_Mod_plan_31 : decode b_Mod_plan 31 = .ok (.ifCond .eq 13, 3) := by decide +kernel
theorem d_Mod_plan_34 : decode b_Mod_plan 34 = .ok (.iload 4, 2) := by decide +kernel
theorem d_Mod_plan_36 : decode b_Mod_plan 36 = .ok (.iconst (-1), 1) := by decide +kernel
theorem d_Mod_plan_37 : decode b_Mod_plan 37 = .ok (.iconst 2, 1) := by decide +kernel
theorem d_Mod_plan_38 : decode b_Mod_plan 38 = .ok (.invokestatic 67, 3) := by decide +kernel
theorem d_Mod_plan_41 : decode b_Mod_plan 41 = .ok (.ifCond .ne 9, 3) := by decide +kernel
theorem d_Mod_plan_44 : decode b_Mod_plan 44 = .ok (.aload_n 0, 1) := by decide +kernel
theorem d_Mod_plan_45 : decode b_Mod_plan 45 = .ok (.iconst 1, 1) := by decide +kernel
theorem d_Mod_plan_46 : decode b_Mod_plan 46 = .ok (.invokevirtual 71, 3) := by decide +kernel
theorem d_Mod_plan_49 : decode b_Mod_plan 49 = .ok (.ireturn, 1) := by decide +kernel
theorem d_Mod_plan_50 : decode b_Mod_plan 50 = .ok (.aload_n 0, 1) := by decide +kernel
theorem d_Mod_plan_51 : decode b_Mod_plan 51 = .ok (.getfield 26, 3) := by decide +kernel
theorem d_Mod_plan_54 : decode b_Mod_plan 54 = .ok (.iconst 4, 1) := by decide +kernel
theorem d_Mod_plan_55 : decode b_Mod_plan 55 = .ok (.iload_n 1, 1) := by decide +kernel
theorem d_Mod_plan_56 : decode b_Mod_plan 56 = .ok (.imul, 1) := by decide +kernel
theorem d_Mod_plan_57 : decode b_Mod_plan 57 = .ok (.iload_n 2, 1) := by decide +kernel
theorem d_Mod_plan_58 : decode b_Mod_plan 58 = .ok (.iadd, 1) := by decide +kernel
theorem d_Mod_plan_59 : decode b_Mod_plan 59 = .ok (.iload_n 3, 1) := by decide +kernel
theorem d_Mod_plan_60 : decode b_Mod_plan 60 = .ok (.iastore, 1) := by decide +kernel
theorem d_Mod_plan_61 : decode b_Mod_plan 61 = .ok (.aload_n 0, 1) := by decide +kernel
theorem d_Mod_plan_62 : decode b_Mod_plan 62 = .ok (.getfield 30, 3) := by decide +kernel
theorem d_Mod_plan_65 : decode b_Mod_plan 65 = .ok (.iconst 4, 1) := by decide +kernel
theorem d_Mod_plan_66 : decode b_Mod_plan 66 = .ok (.iload_n 1, 1) := by decide +kernel
theorem d_Mod_plan_67 : decode b_Mod_plan 67 = .ok (.imul, 1) := by decide +kernel
theorem d_Mod_plan_68 : decode b_Mod_plan 68 = .ok (.iload_n 2, 1) := by decide +kernel
theorem d_Mod_plan_69 : decode b_Mod_plan 69 = .ok (.iadd, 1) := by decide +kernel
theorem d_Mod_plan_70 : decode b_Mod_plan 70 = .ok (.iload 4, 2) := by decide +kernel
theorem d_Mod_plan_72 : decode b_Mod_plan 72 = .ok (.iastore, 1) := by decide +kernel
theorem d_Mod_plan_73 : decode b_Mod_plan 73 = .ok (.iconst 0, 1) := by decide +kernel
theorem d_Mod_plan_74 : decode b_Mod_plan 74 = .ok (.istore 5, 2) := by decide +kernel
theorem d_Mod_plan_76 : decode b_Mod_plan 76 = .ok (.iconst 4, 1) := by decide +kernel
theorem d_Mod_plan_77 : decode b_Mod_plan 77 = .ok (.iload_n 1, 1) := by decide +kernel
theorem d_Mod_plan_78 : decode b_Mod_plan 78 = .ok (.imul, 1) := by decide +kernel
theorem d_Mod_plan_79 : decode b_Mod_plan 79 = .ok (.istore 6, 2) := by decide +kernel
theorem d_Mod_plan_81 : decode b_Mod_plan 81 = .ok (.iload 6, 2) := by decide +kernel
theorem d_Mod_plan_83 : decode b_Mod_plan 83 = .ok (.iconst 4, 1) := by decide +kernel
theorem d_Mod_plan_84 : decode b_Mod_plan 84 = .ok (.iload_n 1, 1) := by decide +kernel
theorem d_Mod_plan_85 : decode b_Mod_plan 85 = .ok (.imul, 1) := by decide +kernel
theorem d_Mod_plan_86 : decode b_Mod_plan 86 = .ok (.iconst 4, 1) := by decide +kernel
theorem d_Mod_plan_87 : decode b_Mod_plan 87 = .ok (.iadd, 1) := by decide +kernel
theorem d_Mod_plan_88 : decode b_Mod_plan 88 = .ok (.if_icmp .ge 22, 3) := by decide +kernel
theorem d_Mod_plan_91 : decode b_Mod_plan 91 = .ok (.aload_n 0, 1) := by decide +kernel
theorem d_Mod_plan_92 : decode b_Mod_plan 92 = .ok (.getfield 30, 3) := by decide +kernel
theorem d_Mod_plan_95 : decode b_Mod_plan 95 = .ok (.iload 6, 2) := by decide +kernel
theorem d_Mod_plan_97 : decode b_Mod_plan 97 = .ok (.iaload, 1) := by decide +kernel
theorem d_Mod_plan_98 : decode b_Mod_plan 98 = .ok (.ifCond .lt 6, 3) := by decide +kernel
theorem d_Mod_plan_101 : decode b_Mod_plan 101 = .ok (.iinc 5 1, 3) := by decide +kernel
theorem d_Mod_plan_104 : decode b_Mod_plan 104 = .ok (.iinc 6 1, 3) := by decide +kernel
theorem d_Mod_plan_107 : decode b_Mod_plan 107 = .ok (.goto (-26), 3) := by decide +kernel
theorem d_Mod_plan_110 : decode b_Mod_plan 110 = .ok (.iload 5, 2) := by decide +kernel
theorem d_Mod_plan_112 : decode b_Mod_plan 112 = .ok (.ireturn, 1) := by decide +kernel
theorem d_Mod_tariff_0 : decode b_Mod_tariff 0 = .ok (.aload_n 0, 1) := by decide +kernel
theorem d_Mod_tariff_1 : decode b_Mod_tariff 1 = .ok (.getfield 64, 3) := by decide +kernel
theorem d_Mod_tariff_4 : decode b_Mod_tariff 4 = .ok (.sipush 1440, 3) := by decide +kernel
theorem d_Mod_tariff_7 : decode b_Mod_tariff 7 = .ok (.idiv, 1) := by decide +kernel
theorem d_Mod_tariff_8 : decode b_Mod_tariff 8 = .ok (.bipush 7, 2) := by decide +kernel
theorem d_Mod_tariff_10 : decode b_Mod_tariff 10 = .ok (.irem, 1) := by decide +kernel
theorem d_Mod_tariff_11 : decode b_Mod_tariff 11 = .ok (.iconst 4, 1) := by decide +kernel
theorem d_Mod_tariff_12 : decode b_Mod_tariff 12 = .ok (.if_icmp .le 7, 3) := by decide +kernel
theorem d_Mod_tariff_15 : decode b_Mod_tariff 15 = .ok (.iconst 4, 1) := by decide +kernel
theorem d_Mod_tariff_16 : decode b_Mod_tariff 16 = .ok (.goto 4, 3) := by decide +kernel
theorem d_Mod_tariff_19 : decode b_Mod_tariff 19 = .ok (.iconst 0, 1) := by decide +kernel
theorem d_Mod_tariff_20 : decode b_Mod_tariff 20 = .ok (.istore_n 1, 1) := by decide +kernel
theorem d_Mod_tariff_21 : decode b_Mod_tariff 21 = .ok (.iconst (-1), 1) := by decide +kernel
theorem d_Mod_tariff_22 : decode b_Mod_tariff 22 = .ok (.istore_n 2, 1) := by decide +kernel
theorem d_Mod_tariff_23 : decode b_Mod_tariff 23 = .ok (.iload_n 1, 1) := by decide +kernel
theorem d_Mod_tariff_24 : decode b_Mod_tariff 24 = .ok (.istore_n 3, 1) := by decide +kernel
theorem d_Mod_tariff_25 : decode b_Mod_tariff 25 = .ok (.iload_n 3, 1) := by decide +kernel
theorem d_Mod_tariff_26 : decode b_Mod_tariff 26 = .ok (.iload_n 1, 1) := by decide +kernel
theorem d_Mod_tariff_27 : decode b_Mod_tariff 27 = .ok (.iconst 4, 1) := by decide +kernel
theorem d_Mod_tariff_28 : decode b_Mod_tariff 28 = .ok (.iadd, 1) := by decide +kernel
theorem d_Mod_tariff_29 : decode b_Mod_tariff 29 = .ok (.if_icmp .ge 56, 3) := by decide +kernel
theorem d_Mod_tariff_32 : decode b_Mod_tariff 32 = .ok (.aload_n 0, 1) := by decide +kernel
theorem d_Mod_tariff_33 : decode b_Mod_tariff 33 = .ok (.getfield 30, 3) := by decide +kernel
theorem d_Mod_tariff_36 : decode b_Mod_tariff 36 = .ok (.iload_n 3, 1) := by decide +kernel
theorem d_Mod_tariff_37 : decode b_Mod_tariff 37 = .ok (.iaload, 1) := by decide +kernel
theorem d_Mod_tariff_38 : decode b_Mod_tariff 38 = .ok (.ifCond .lt 41, 3) := by decide +kernel
theorem d_Mod_tariff_41 : decode b_Mod_tariff 41 = .ok (.aload_n 0, 1) := by decide +kernel
theorem d_Mod_tariff_42 : decode b_Mod_tariff 42 = .ok (.getfield 26, 3) := by decide +kernel
theorem d_Mod_tariff_45 : decode b_Mod_tariff 45 = .ok (.iload_n 3, 1) := by decide +kernel
theorem d_Mod_tariff_46 : decode b_Mod_tariff 46 = .ok (.iaload, 1) := by decide +kernel
theorem d_Mod_tariff_47 : decode b_Mod_tariff 47 = .ok (.aload_n 0, 1) := by decide +kernel
theorem d_Mod_tariff_48 : decode b_Mod_tariff 48 = .ok (.getfield 64, 3) := by decide +kernel
theorem d_Mod_tariff_51 : decode b_Mod_tariff 51 = .ok (.sipush 1440, 3) := by decide +kernel
theorem d_Mod_tariff_54 : decode b_Mod_tariff 54 = .ok (.irem, 1) := by decide +kernel
theorem d_Mod_tariff_55 : decode b_Mod_tariff 55 = .ok (.if_icmp .gt 24, 3) := by decide +kernel
theorem d_Mod_tariff_58 : decode b_Mod_tariff 58 = .ok (.iload_n 2, 1) := by decide +kernel
theorem d_Mod_tariff_59 : decode b_Mod_tariff 59 = .ok (.ifCond .lt 18, 3) := by decide +kernel
theorem d_Mod_tariff_62 : decode b_Mod_tariff 62 = .ok (.aload_n 0, 1) := by decide +kernel
theorem d_Mod_tariff_63 : decode b_Mod_tariff 63 = .ok (.getfield 26, 3) := by decide +kernel
theorem d_Mod_tariff_66 : decode b_Mod_tariff 66 = .ok (.iload_n 3, 1) := by decide +kernel
theorem d_Mod_tariff_67 : decode b_Mod_tariff 67 = .ok (.iaload, 1) := by decide +kernel
theorem d_Mod_tariff_68 : decode b_Mod_tariff 68 = .ok (.aload_n 0, 1) := by decide +kernel
theorem d_Mod_tariff_69 : decode b_Mod_tariff 69 = .ok (.getfield 26, 3) := by decide +kernel
theorem d_Mod_tariff_72 : decode b_Mod_tariff 72 = .ok (.iload_n 2, 1) := by decide +kernel
theorem d_Mod_tariff_73 : decode b_Mod_tariff 73 = .ok (.iaload, 1) := by decide +kernel
theorem d_Mod_tariff_74 : decode b_Mod_tariff 74 = .ok (.if_icmp .le 5, 3) := by decide +kernel
theorem d_Mod_tariff_77 : decode b_Mod_tariff 77 = .ok (.iload_n 3, 1) := by decide +kernel
theorem d_Mod_tariff_78 : decode b_Mod_tariff 78 = .ok (.istore_n 2, 1) := by decide +kernel
theorem d_Mod_tariff_79 : decode b_Mod_tariff 79 = .ok (.iinc 3 1, 3) := by decide +kernel
theorem d_Mod_tariff_82 : decode b_Mod_tariff 82 = .ok (.goto (-57), 3) := by decide +kernel
theorem d_Mod_tariff_85 : decode b_Mod_tariff 85 = .ok (.iload_n 2, 1) := by decide +kernel
theorem d_Mod_tariff_86 : decode b_Mod_tariff 86 = .ok (.ifCond .ge 7, 3) := by decide +kernel
theorem d_Mod_tariff_89 : decode b_Mod_tariff 89 = .ok (.iconst 0, 1) := by decide +kernel
theorem d_Mod_tariff_90 : decode b_Mod_tariff 90 = .ok (.goto 9, 3) := by decide +kernel
theorem d_Mod_tariff_93 : decode b_Mod_tariff 93 = .ok (.aload_n 0, 1) := by decide +kernel
theorem d_Mod_tariff_94 : decode b_Mod_tariff 94 = .ok (.getfield 30, 3) := by decide +kernel
theorem d_Mod_tariff_97 : decode b_Mod_tariff 97 = .ok (.iload_n 2, 1) := by decide +kernel
theorem d_Mod_tariff_98 : decode b_Mod_tariff 98 = .ok (.iaload, 1) := by decide +kernel
theorem d_Mod_tariff_99 : decode b_Mod_tariff 99 = .ok (.ireturn, 1) := by decide +kernel
theorem d_Mod_sum_0 : decode b_Mod_sum 0 = .ok (.ldc2_w 75, 3) := by decide +kernel
theorem d_Mod_sum_3 : decode b_Mod_sum 3 = .ok (.aload_n 0, 1) := by decide +kernel
theorem d_Mod_sum_4 : decode b_Mod_sum 4 = .ok (.getfield 36, 3) := by decide +kernel
theorem d_Mod_sum_7 : decode b_Mod_sum 7 = .ok (.iload_n 1, 1) := by decide +kernel
theorem d_Mod_sum_8 : decode b_Mod_sum 8 = .ok (.laload, 1) := by decide +kernel
theorem d_Mod_sum_9 : decode b_Mod_sum 9 = .ok (.lmul, 1) := by decide +kernel
theorem d_Mod_sum_10 : decode b_Mod_sum 10 = .ok (.ldc2_w 77, 3) := by decide +kernel
theorem d_Mod_sum_13 : decode b_Mod_sum 13 = .ok (.aload_n 0, 1) := by decide +kernel
theorem d_Mod_sum_14 : decode b_Mod_sum 14 = .ok (.getfield 36, 3) := by decide +kernel
theorem d_Mod_sum_17 : decode b_Mod_sum 17 = .ok (.iload_n 1, 1) := by decide +kernel
theorem d_Mod_sum_18 : decode b_Mod_sum 18 = .ok (.iconst 1, 1) := by decide +kernel
theorem d_Mod_sum_19 : decode b_Mod_sum 19 = .ok (.iadd, 1) := by decide +kernel
theorem d_Mod_sum_20 : decode b_Mod_sum 20 = .ok (.laload, 1) := by decide +kernel
theorem d_Mod_sum_21 : decode b_Mod_sum 21 = .ok (.lmul, 1) := by decide +kernel
theorem d_Mod_sum_22 : decode b_Mod_sum 22 = .ok (.ladd, 1) := by decide +kernel
theorem d_Mod_sum_23 : decode b_Mod_sum 23 = .ok (.ldc2_w 79, 3) := by decide +kernel
theorem d_Mod_sum_26 : decode b_Mod_sum 26 = .ok (.aload_n 0, 1) := by decide +kernel
theorem d_Mod_sum_27 : decode b_Mod_sum 27 = .ok (.getfield 36, 3) := by decide +kernel
theorem d_Mod_sum_30 : decode b_Mod_sum 30 = .ok (.iload_n 1, 1) := by decide +kernel
theorem d_Mod_sum_31 : decode b_Mod_sum 31 = .ok (.iconst 2, 1) := by decide +kernel
theorem d_Mod_sum_32 : decode b_Mod_sum 32 = .ok (.iadd, 1) := by decide +kernel
theorem d_Mod_sum_33 : decode b_Mod_sum 33 = .ok (.laload, 1) := by decide +kernel
theorem d_Mod_sum_34 : decode b_Mod_sum 34 = .ok (.lmul, 1) := by decide +kernel
theorem d_Mod_sum_35 : decode b_Mod_sum 35 = .ok (.ladd, 1) := by decide +kernel
theorem d_Mod_sum_36 : decode b_Mod_sum 36 = .ok (.ldc2_w 81, 3) := by decide +kernel
theorem d_Mod_sum_39 : decode b_Mod_sum 39 = .ok (.aload_n 0, 1) := by decide +kernel
theorem d_Mod_sum_40 : decode b_Mod_sum 40 = .ok (.getfield 36, 3) := by decide +kernel
theorem d_Mod_sum_43 : decode b_Mod_sum 43 = .ok (.iload_n 1, 1) := by decide +kernel
theorem d_Mod_sum_44 : decode b_Mod_sum 44 = .ok (.iconst 3, 1) := by decide +kernel
theorem d_Mod_sum_45 : decode b_Mod_sum 45 = .ok (.iadd, 1) := by decide +kernel
theorem d_Mod_sum_46 : decode b_Mod_sum 46 = .ok (.laload, 1) := by decide +kernel
theorem d_Mod_sum_47 : decode b_Mod_sum 47 = .ok (.lmul, 1) := by decide +kernel
theorem d_Mod_sum_48 : decode b_Mod_sum 48 = .ok (.ladd, 1) := by decide +kernel
theorem d_Mod_sum_49 : decode b_Mod_sum 49 = .ok (.ldc2_w 83, 3) := by decide +kernel
theorem d_Mod_sum_52 : decode b_Mod_sum 52 = .ok (.aload_n 0, 1) := by decide +kernel
theorem d_Mod_sum_53 : decode b_Mod_sum 53 = .ok (.getfield 36, 3) := by decide +kernel
theorem d_Mod_sum_56 : decode b_Mod_sum 56 = .ok (.iload_n 1, 1) := by decide +kernel
theorem d_Mod_sum_57 : decode b_Mod_sum 57 = .ok (.iconst 4, 1) := by decide +kernel
theorem d_Mod_sum_58 : decode b_Mod_sum 58 = .ok (.iadd, 1) := by decide +kernel
theorem d_Mod_sum_59 : decode b_Mod_sum 59 = .ok (.laload, 1) := by decide +kernel
theorem d_Mod_sum_60 : decode b_Mod_sum 60 = .ok (.lmul, 1) := by decide +kernel
theorem d_Mod_sum_61 : decode b_Mod_sum 61 = .ok (.ladd, 1) := by decide +kernel
theorem d_Mod_sum_62 : decode b_Mod_sum 62 = .ok (.lconst 1, 1) := by decide +kernel
theorem d_Mod_sum_63 : decode b_Mod_sum 63 = .ok (.ladd, 1) := by decide +kernel
theorem d_Mod_sum_64 : decode b_Mod_sum 64 = .ok (.lreturn, 1) := by decide +kernel
theorem d_Mod_good_0 : decode b_Mod_good 0 = .ok (.aload_n 0, 1) := by decide +kernel
theorem d_Mod_good_1 : decode b_Mod_good 1 = .ok (.getfield 36, 3) := by decide +kernel
theorem d_Mod_good_4 : decode b_Mod_good 4 = .ok (.bipush 6, 2) := by decide +kernel
theorem d_Mod_good_6 : decode b_Mod_good 6 = .ok (.iload_n 1, 1) := by decide +kernel
theorem d_Mod_good_7 : decode b_Mod_good 7 = .ok (.imul, 1) := by decide +kernel
theorem d_Mod_good_8 : decode b_Mod_good 8 = .ok (.laload, 1) := by decide +kernel
theorem d_Mod_good_9 : decode b_Mod_good 9 = .ok (.lconst 0, 1) := by decide +kernel
theorem d_Mod_good_10 : decode b_Mod_good 10 = .ok (.lcmp, 1) := by decide +kernel
theorem d_Mod_good_11 : decode b_Mod_good 11 = .ok (.ifCond .le 30, 3) := by decide +kernel
theorem d_Mod_good_14 : decode b_Mod_good 14 = .ok (.aload_n 0, 1) := by decide +kernel
theorem d_Mod_good_15 : decode b_Mod_good 15 = .ok (.getfield 36, 3) := by decide +kernel
theorem d_Mod_good_18 : decode b_Mod_good 18 = .ok (.bipush 6, 2) := by decide +kernel
theorem d_Mod_good_20 : decode b_Mod_good 20 = .ok (.iload_n 1, 1) := by decide +kernel
theorem d_Mod_good_21 : decode b_Mod_good 21 = .ok (.imul, 1) := by decide +kernel
theorem d_Mod_good_22 : decode b_Mod_good 22 = .ok (.iconst 5, 1) := by decide +kernel
theorem d_Mod_good_23 : decode b_Mod_good 23 = .ok (.iadd, 1) := by decide +kernel
theorem d_Mod_good_24 : decode b_Mod_good 24 = .ok (.laload, 1) := by decide +kernel
theorem d_Mod_good_25 : decode b_Mod_good 25 = .ok (.aload_n 0, 1) := by decide +kernel
theorem d_Mod_good_26 : decode b_Mod_good 26 = .ok (.bipush 6, 2) := by decide +kernel
theorem d_Mod_good_28 : decode b_Mod_good 28 = .ok (.iload_n 1, 1) := by decide +kernel
theorem d_Mod_good_29 : decode b_Mod_good 29 = .ok (.imul, 1) := by decide +kernel
theorem d_Mod_good_30 : decode b_Mod_good 30 = .ok (.invokevirtual 85, 3) := by decide +kernel
theorem d_Mod_good_33 : decode b_Mod_good 33 = .ok (.lcmp, 1) := by decide +kernel
theorem d_Mod_good_34 : decode b_Mod_good 34 = .ok (.ifCond .ne 7, 3) := by decide +kernel
theorem d_Mod_good_37 : decode b_Mod_good 37 = .ok (.iconst 1, 1) := by decide +kernel
theorem d_Mod_good_38 : decode b_Mod_good 38 = .ok (.goto 4, 3) := by decide +kernel
theorem d_Mod_good_41 : decode b_Mod_good 41 = .ok (.iconst 0, 1) := by decide +kernel
theorem d_Mod_good_42 : decode b_Mod_good 42 = .ok (.ireturn, 1) := by decide +kernel
theorem d_Mod_latest_0 : decode b_Mod_latest 0 = .ok (.iconst (-1), 1) := by decide +kernel
theorem d_Mod_latest_1 : decode b_Mod_latest 1 = .ok (.istore_n 1, 1) := by decide +kernel
theorem d_Mod_latest_2 : decode b_Mod_latest 2 = .ok (.iconst 0, 1) := by decide +kernel
theorem d_Mod_latest_3 : decode b_Mod_latest 3 = .ok (.istore_n 2, 1) := by decide +kernel
theorem d_Mod_latest_4 : decode b_Mod_latest 4 = .ok (.iload_n 2, 1) := by decide +kernel
theorem d_Mod_latest_5 : decode b_Mod_latest 5 = .ok (.bipush 12, 2) := by decide +kernel
theorem d_Mod_latest_7 : decode b_Mod_latest 7 = .ok (.if_icmp .ge 45, 3) := by decide +kernel
theorem d_Mod_latest_10 : decode b_Mod_latest 10 = .ok (.aload_n 0, 1) := by decide +kernel
theorem d_Mod_latest_11 : decode b_Mod_latest 11 = .ok (.iload_n 2, 1) := by decide +kernel
theorem d_Mod_latest_12 : decode b_Mod_latest 12 = .ok (.invokevirtual 89, 3) := by decide +kernel
theorem d_Mod_latest_15 : decode b_Mod_latest 15 = .ok (.ifCond .eq 31, 3) := by decide +kernel
theorem d_Mod_latest_18 : decode b_Mod_latest 18 = .ok (.iload_n 1, 1) := by decide +kernel
theorem d_Mod_latest_19 : decode b_Mod_latest 19 = .ok (.ifCond .lt 25, 3) := by decide +kernel
theorem d_Mod_latest_22 : decode b_Mod_latest 22 = .ok (.aload_n 0, 1) := by decide +kernel
theorem d_Mod_latest_23 : decode b_Mod_latest 23 = .ok (.getfield 36, 3) := by decide +kernel
theorem d_Mod_latest_26 : decode b_Mod_latest 26 = .ok (.bipush 6, 2) := by decide +kernel
theorem d_Mod_latest_28 : decode b_Mod_latest 28 = .ok (.iload_n 2, 1) := by decide +kernel
theorem d_Mod_latest_29 : decode b_Mod_latest 29 = .ok (.imul, 1) := by decide +kernel
theorem d_Mod_latest_30 : decode b_Mod_latest 30 = .ok (.laload, 1) := by decide +kernel
theorem d_Mod_latest_31 : decode b_Mod_latest 31 = .ok (.aload_n 0, 1) := by decide +kernel
theorem d_Mod_latest_32 : decode b_Mod_latest 32 = .ok (.getfield 36, 3) := by decide +kernel
theorem d_Mod_latest_35 : decode b_Mod_latest 35 = .ok (.bipush 6, 2) := by decide +kernel
theorem d_Mod_latest_37 : decode b_Mod_latest 37 = .ok (.iload_n 1, 1) := by decide +kernel
theorem d_Mod_latest_38 : decode b_Mod_latest 38 = .ok (.imul, 1) := by decide +kernel
theorem d_Mod_latest_39 : decode b_Mod_latest 39 = .ok (.laload, 1) := by decide +kernel
theorem d_Mod_latest_40 : decode b_Mod_latest 40 = .ok (.lcmp, 1) := by decide +kernel
theorem d_Mod_latest_41 : decode b_Mod_latest 41 = .ok (.ifCond .le 5, 3) := by decide +kernel
theorem d_Mod_latest_44 : decode b_Mod_latest 44 = .ok (.iload_n 2, 1) := by decide +kernel
theorem d_Mod_latest_45 : decode b_Mod_latest 45 = .ok (.istore_n 1, 1) := by decide +kernel
theorem d_Mod_latest_46 : decode b_Mod_latest 46 = .ok (.iinc 2 1, 3) := by decide +kernel
theorem d_Mod_latest_49 : decode b_Mod_latest 49 = .ok (.goto (-45), 3) := by decide +kernel
theorem d_Mod_latest_52 : decode b_Mod_latest 52 = .ok (.iload_n 1, 1) := by decide +kernel
theorem d_Mod_latest_53 : decode b_Mod_latest 53 = .ok (.ireturn, 1) := by decide +kernel
theorem d_Mod_nextPlace_0 : decode b_Mod_nextPlace 0 = .ok (.aload_n 0, 1) := by decide +kernel
theorem d_Mod_nextPlace_1 : decode b_Mod_nextPlace 1 = .ok (.getfield 43, 3) := by decide +kernel
theorem d_Mod_nextPlace_4 : decode b_Mod_nextPlace 4 = .ok (.ifCond .lt 20, 3) := by decide +kernel
theorem d_Mod_nextPlace_7 : decode b_Mod_nextPlace 7 = .ok (.aload_n 0, 1) := by decide +kernel
theorem d_Mod_nextPlace_8 : decode b_Mod_nextPlace 8 = .ok (.getfield 43, 3) := by decide +kernel
theorem d_Mod_nextPlace_11 : decode b_Mod_nextPlace 11 = .ok (.iconst 3, 1) := by decide +kernel
theorem d_Mod_nextPlace_12 : decode b_Mod_nextPlace 12 = .ok (.irem, 1) := by decide +kernel
theorem d_Mod_nextPlace_13 : decode b_Mod_nextPlace 13 = .ok (.iconst 2, 1) := by decide +kernel
theorem d_Mod_nextPlace_14 : decode b_Mod_nextPlace 14 = .ok (.if_icmp .ge 10, 3) := by decide +kernel
theorem d_Mod_nextPlace_17 : decode b_Mod_nextPlace 17 = .ok (.aload_n 0, 1) := by decide +kernel
theorem d_Mod_nextPlace_18 : decode b_Mod_nextPlace 18 = .ok (.getfield 43, 3) := by decide +kernel
theorem d_Mod_nextPlace_21 : decode b_Mod_nextPlace 21 = .ok (.iconst 1, 1) := by decide +kernel
theorem d_Mod_nextPlace_22 : decode b_Mod_nextPlace 22 = .ok (.iadd, 1) := by decide +kernel
theorem d_Mod_nextPlace_23 : decode b_Mod_nextPlace 23 = .ok (.ireturn, 1) := by decide +kernel
theorem d_Mod_nextPlace_24 : decode b_Mod_nextPlace 24 = .ok (.aload_n 0, 1) := by decide +kernel
theorem d_Mod_nextPlace_25 : decode b_Mod_nextPlace 25 = .ok (.getfield 43, 3) := by decide +kernel
theorem d_Mod_nextPlace_28 : decode b_Mod_nextPlace 28 = .ok (.ifCond .ge 7, 3) := by decide +kernel
theorem d_Mod_nextPlace_31 : decode b_Mod_nextPlace 31 = .ok (.iconst 3, 1) := by decide +kernel
theorem d_Mod_nextPlace_32 : decode b_Mod_nextPlace 32 = .ok (.goto 9, 3) := by decide +kernel
theorem d_Mod_nextPlace_35 : decode b_Mod_nextPlace 35 = .ok (.aload_n 0, 1) := by decide +kernel
theorem d_Mod_nextPlace_36 : decode b_Mod_nextPlace 36 = .ok (.getfield 43, 3) := by decide +kernel
theorem d_Mod_nextPlace_39 : decode b_Mod_nextPlace 39 = .ok (.iconst 3, 1) := by decide +kernel
theorem d_Mod_nextPlace_40 : decode b_Mod_nextPlace 40 = .ok (.idiv, 1) := by decide +kernel
theorem d_Mod_nextPlace_41 : decode b_Mod_nextPlace 41 = .ok (.istore_n 1, 1) := by decide +kernel
theorem d_Mod_nextPlace_42 : decode b_Mod_nextPlace 42 = .ok (.iconst 1, 1) := by decide +kernel
theorem d_Mod_nextPlace_43 : decode b_Mod_nextPlace 43 = .ok (.istore_n 2, 1) := by decide +kernel
theorem d_Mod_nextPlace_44 : decode b_Mod_nextPlace 44 = .ok (.iload_n 2, 1) := by decide +kernel
theorem d_Mod_nextPlace_45 : decode b_Mod_nextPlace 45 = .ok (.iconst 5, 1) := by decide +kernel
theorem d_Mod_nextPlace_46 : decode b_Mod_nextPlace 46 = .ok (.if_icmp .ge 76, 3) := by decide +kernel
theorem d_Mod_nextPlace_49 : decode b_Mod_nextPlace 49 = .ok (.iload_n 1, 1) := by decide +kernel
theorem d_Mod_nextPlace_50 : decode b_Mod_nextPlace 50 = .ok (.iload_n 2, 1) := by decide +kernel
theorem d_Mod_nextPlace_51 : decode b_Mod_nextPlace 51 = .ok (.iadd, 1) := by decide +kernel
theorem d_Mod_nextPlace_52 : decode b_Mod_nextPlace 52 = .ok (.iconst 4, 1) := by decide +kernel
theorem d_Mod_nextPlace_53 : decode b_Mod_nextPlace 53 = .ok (.irem, 1) := by decide +kernel
theorem d_Mod_nextPlace_54 : decode b_Mod_nextPlace 54 = .ok (.istore_n 3, 1) := by decide +kernel
theorem d_Mod_nextPlace_55 : decode b_Mod_nextPlace 55 = .ok (.aload_n 0, 1) := by decide +kernel
theorem d_Mod_nextPlace_56 : decode b_Mod_nextPlace 56 = .ok (.getfield 40, 3) := by decide +kernel
theorem d_Mod_nextPlace_59 : decode b_Mod_nextPlace 59 = .ok (.iload_n 3, 1) := by decide +kernel
theorem d_Mod_nextPlace_60 : decode b_Mod_nextPlace 60 = .ok (.iaload, 1) := by decide +kernel
theorem d_Mod_nextPlace_61 : decode b_Mod_nextPlace 61 = .ok (.iconst 3, 1) := by decide +kernel
theorem d_Mod_nextPlace_62 : decode b_Mod_nextPlace 62 = .ok (.if_icmp .le 6, 3) := by decide +kernel
theorem d_Mod_nextPlace_65 : decode b_Mod_nextPlace 65 = .ok (.goto 51, 3) := by decide +kernel
theorem d_Mod_nextPlace_68 : decode b_Mod_nextPlace 68 = .ok (.bipush 18, 2) := by decide +kernel
theorem d_Mod_nextPlace_70 : decode b_Mod_nextPlace 70 = .ok (.iload_n 3, 1) := by decide +kernel
theorem d_Mod_nextPlace_71 : decode b_Mod_nextPlace 71 = .ok (.imul, 1) := by decide +kernel
theorem d_Mod_nextPlace_72 : decode b_Mod_nextPlace 72 = .ok (.istore 4, 2) := by decide +kernel
theorem d_Mod_nextPlace_74 : decode b_Mod_nextPlace 74 = .ok (.iload 4, 2) := by decide +kernel
theorem d_Mod_nextPlace_76 : decode b_Mod_nextPlace 76 = .ok (.bipush 18, 2) := by decide +kernel
theorem d_Mod_nextPlace_78 : decode b_Mod_nextPlace 78 = .ok (.iload_n 3, 1) := by decide +kernel
theorem d_Mod_nextPlace_79 : decode b_Mod_nextPlace 79 = .ok (.imul, 1) := by decide +kernel
theorem d_Mod_nextPlace_80 : decode b_Mod_nextPlace 80 = .ok (.bipush 18, 2) := by decide +kernel
theorem d_Mod_nextPlace_82 : decode b_Mod_nextPlace 82 = .ok (.iadd, 1) := by decide +kernel
theorem d_Mod_nextPlace_83 : decode b_Mod_nextPlace 83 = .ok (.if_icmp .ge 19, 3) := by decide +kernel
theorem d_Mod_nextPlace_86 : decode b_Mod_nextPlace 86 = .ok (.aload_n 0, 1) := by decide +kernel
theorem d_Mod_nextPlace_87 : decode b_Mod_nextPlace 87 = .ok (.getfield 36, 3) := by decide +kernel
theorem d_Mod_nextPlace_90 : decode b_Mod_nextPlace 90 = .ok (.iload 4, 2) := by decide +kernel
theorem d_Mod_nextPlace_92 : decode b_Mod_nextPlace 92 = .ok (.ldc2_w 56, 3) := by decide +kernel
theorem d_Mod_nextPlace_95 : decode b_Mod_nextPlace 95 = .ok (.lastore, 1) := by decide +kernel
theorem d_Mod_nextPlace_96 : decode b_Mod_nextPlace 96 = .ok (.iinc 4 1, 3) := by decide +kernel
theorem d_Mod_nextPlace_99 : decode b_Mod_nextPlace 99 = .ok (.goto (-25), 3) := by decide +kernel
theorem d_Mod_nextPlace_102 : decode b_Mod_nextPlace 102 = .ok (.aload_n 0, 1) := by decide +kernel
theorem d_Mod_nextPlace_103 : decode b_Mod_nextPlace 103 = .ok (.getfield 40, 3) := by decide +kernel
theorem d_Mod_nextPlace_106 : decode b_Mod_nextPlace 106 = .ok (.iload_n 3, 1) := by decide +kernel
theorem d_Mod_nextPlace_107 : decode b_Mod_nextPlace 107 = .ok (.dup2, 1) := by decide +kernel
theorem d_Mod_nextPlace_108 : decode b_Mod_nextPlace 108 = .ok (.iaload, 1) := by decide +kernel
theorem d_Mod_nextPlace_109 : decode b_Mod_nextPlace 109 = .ok (.iconst 1, 1) := by decide +kernel
theorem d_Mod_nextPlace_110 : decode b_Mod_nextPlace 110 = .ok (.iadd, 1) := by decide +kernel
theorem d_Mod_nextPlace_111 : decode b_Mod_nextPlace 111 = .ok (.iastore, 1) := by decide +kernel
theorem d_Mod_nextPlace_112 : decode b_Mod_nextPlace 112 = .ok (.iconst 3, 1) := by decide +kernel
theorem d_Mod_nextPlace_113 : decode b_Mod_nextPlace 113 = .ok (.iload_n 3, 1) := by decide +kernel
theorem d_Mod_nextPlace_114 : decode b_Mod_nextPlace 114 = .ok (.imul, 1) := by decide +kernel
theorem d_Mod_nextPlace_115 : decode b_Mod_nextPlace 115 = .ok (.ireturn, 1) := by decide +kernel
theorem d_Mod_nextPlace_116 : decode b_Mod_nextPlace 116 = .ok (.iinc 2 1, 3) := by decide +kernel
theorem d_Mod_nextPlace_119 : decode b_Mod_nextPlace 119 = .ok (.goto (-75), 3) := by decide +kernel
theorem d_Mod_nextPlace_122 : decode b_Mod_nextPlace 122 = .ok (.iconst (-1), 1) := by decide +kernel
theorem d_Mod_nextPlace_123 : decode b_Mod_nextPlace 123 = .ok (.ireturn, 1) := by decide +kernel
theorem d_Mod_word_0 : decode b_Mod_word 0 = .ok (.iload_n 1, 1) := by decide +kernel
theorem d_Mod_word_1 : decode b_Mod_word 1 = .ok (.tableswitch 99 0 3 #[31, 33, 85, 85], 31) := by decide +kernel
theorem d_Mod_word_32 : decode b_Mod_word 32 = .ok (.lload_n 2, 1) := by decide +kernel
theorem d_Mod_word_33 : decode b_Mod_word 33 = .ok (.lreturn, 1) := by decide +kernel
theorem d_Mod_word_34 : decode b_Mod_word 34 = .ok (.aload_n 0, 1) := by decide +kernel
theorem d_Mod_word_35 : decode b_Mod_word 35 = .ok (.getfield 15, 3) := by decide +kernel
theorem d_Mod_word_38 : decode b_Mod_word 38 = .ok (.ldc2_w 93, 3) := by decide +kernel
theorem d_Mod_word_41 : decode b_Mod_word 41 = .ok (.dmul, 1) := by decide +kernel
theorem d_Mod_word_42 : decode b_Mod_word 42 = .ok (.d2l, 1) := by decide +kernel
theorem d_Mod_word_43 : decode b_Mod_word 43 = .ok (.ldc2_w 95, 3) := by decide +kernel
theorem d_Mod_word_46 : decode b_Mod_word 46 = .ok (.aload_n 0, 1) := by decide +kernel
theorem d_Mod_word_47 : decode b_Mod_word 47 = .ok (.getfield 64, 3) := by decide +kernel
theorem d_Mod_word_50 : decode b_Mod_word 50 = .ok (.i2l, 1) := by decide +kernel
theorem d_Mod_word_51 : decode b_Mod_word 51 = .ok (.ldc2_w 97, 3) := by decide +kernel
theorem d_Mod_word_54 : decode b_Mod_word 54 = .ok (.lmul, 1) := by decide +kernel
theorem d_Mod_word_55 : decode b_Mod_word 55 = .ok (.aload_n 0, 1) := by decide +kernel
theorem d_Mod_word_56 : decode b_Mod_word 56 = .ok (.getfield 99, 3) := by decide +kernel
theorem d_Mod_word_59 : decode b_Mod_word 59 = .ok (.ifCond .eq 7, 3) := by decide +kernel
theorem d_Mod_word_62 : decode b_Mod_word 62 = .ok (.iconst 1, 1) := by decide +kernel
theorem d_Mod_word_63 : decode b_Mod_word 63 = .ok (.goto 4, 3) := by decide +kernel
theorem d_Mod_word_66 : decode b_Mod_word 66 = .ok (.iconst 0, 1) := by decide +kernel
theorem d_Mod_word_67 : decode b_Mod_word 67 = .ok (.i2l, 1) := by decide +kernel
theorem d_Mod_word_68 : decode b_Mod_word 68 = .ok (.ladd, 1) := by decide +kernel
theorem d_Mod_word_69 : decode b_Mod_word 69 = .ok (.aload_n 0, 1) := by decide +kernel
theorem d_Mod_word_70 : decode b_Mod_word 70 = .ok (.getfield 102, 3) := by decide +kernel
theorem d_Mod_word_73 : decode b_Mod_word 73 = .ok (.ifCond .eq 7, 3) := by decide +kernel
theorem d_Mod_word_76 : decode b_Mod_word 76 = .ok (.iconst 2, 1) := by decide +kernel
theorem d_Mod_word_77 : decode b_Mod_word 77 = .ok (.goto 4, 3) := by decide +kernel
theorem d_Mod_word_80 : decode b_Mod_word 80 = .ok (.iconst 0, 1) := by decide +kernel
theorem d_Mod_word_81 : decode b_Mod_word 81 = .ok (.i2l, 1) := by decide +kernel
theorem d_Mod_word_82 : decode b_Mod_word 82 = .ok (.ladd, 1) := by decide +kernel
theorem d_Mod_word_83 : decode b_Mod_word 83 = .ok (.lmul, 1) := by decide +kernel
theorem d_Mod_word_84 : decode b_Mod_word 84 = .ok (.ladd, 1) := by decide +kernel
theorem d_Mod_word_85 : decode b_Mod_word 85 = .ok (.lreturn, 1) := by decide +kernel
theorem d_Mod_word_86 : decode b_Mod_word 86 = .ok (.aload_n 0, 1) := by decide +kernel
theorem d_Mod_word_87 : decode b_Mod_word 87 = .ok (.getfield 19, 3) := by decide +kernel
theorem d_Mod_word_90 : decode b_Mod_word 90 = .ok (.iload_n 1, 1) := by decide +kernel
theorem d_Mod_word_91 : decode b_Mod_word 91 = .ok (.iconst 2, 1) := by decide +kernel
theorem d_Mod_word_92 : decode b_Mod_word 92 = .ok (.isub, 1) := by decide +kernel
theorem d_Mod_word_93 : decode b_Mod_word 93 = .ok (.daload, 1) := by decide +kernel
theorem d_Mod_word_94 : decode b_Mod_word 94 = .ok (.ldc2_w 93, 3) := by decide +kernel
theorem d_Mod_word_97 : decode b_Mod_word 97 = .ok (.dmul, 1) := by decide +kernel
theorem d_Mod_word_98 : decode b_Mod_word 98 = .ok (.d2l, 1) := by decide +kernel
theorem d_Mod_word_99 : decode b_Mod_word 99 = .ok (.lreturn, 1) := by decide +kernel
theorem d_Mod_word_100 : decode b_Mod_word 100 = .ok (.aload_n 0, 1) := by decide +kernel
theorem d_Mod_word_101 : decode b_Mod_word 101 = .ok (.getfield 19, 3) := by decide +kernel
theorem d_Mod_word_104 : decode b_Mod_word 104 = .ok (.iconst 2, 1) := by decide +kernel
theorem d_Mod_word_105 : decode b_Mod_word 105 = .ok (.daload, 1) := by decide +kernel
theorem d_Mod_word_106 : decode b_Mod_word 106 = .ok (.ldc2_w 93, 3) := by decide +kernel
theorem d_Mod_word_109 : decode b_Mod_word 109 = .ok (.dmul, 1) := by decide +kernel
theorem d_Mod_word_110 : decode b_Mod_word 110 = .ok (.d2l, 1) := by decide +kernel
theorem d_Mod_word_111 : decode b_Mod_word 111 = .ok (.ldc2_w 105, 3) := by decide +kernel
theorem d_Mod_word_114 : decode b_Mod_word 114 = .ok (.aload_n 0, 1) := by decide +kernel
theorem d_Mod_word_115 : decode b_Mod_word 115 = .ok (.getfield 107, 3) := by decide +kernel
theorem d_Mod_word_118 : decode b_Mod_word 118 = .ok (.i2l, 1) := by decide +kernel
theorem d_Mod_word_119 : decode b_Mod_word 119 = .ok (.lmul, 1) := by decide +kernel
theorem d_Mod_word_120 : decode b_Mod_word 120 = .ok (.ladd, 1) := by decide +kernel
theorem d_Mod_word_121 : decode b_Mod_word 121 = .ok (.lreturn, 1) := by decide +kernel
theorem d_Mod_saved_0 : decode b_Mod_saved 0 = .ok (.aload_n 0, 1) := by decide +kernel
theorem d_Mod_saved_1 : decode b_Mod_saved 1 = .ok (.iconst 0, 1) := by decide +kernel
theorem d_Mod_saved_2 : decode b_Mod_saved 2 = .ok (.putfield 110, 3) := by decide +kernel
theorem d_Mod_saved_5 : decode b_Mod_saved 5 = .ok (.aload_n 0, 1) := by decide +kernel
theorem d_Mod_saved_6 : decode b_Mod_saved 6 = .ok (.invokevirtual 113, 3) := by decide +kernel
theorem d_Mod_saved_9 : decode b_Mod_saved 9 = .ok (.istore_n 1, 1) := by decide +kernel
theorem d_Mod_saved_10 : decode b_Mod_saved 10 = .ok (.iload_n 1, 1) := by decide +kernel
theorem d_Mod_saved_11 : decode b_Mod_saved 11 = .ok (.ifCond .ge 7, 3) := by decide +kernel
theorem d_Mod_saved_14 : decode b_Mod_saved 14 = .ok (.lconst 1, 1) := by decide +kernel
theorem d_Mod_saved_15 : decode b_Mod_saved 15 = .ok (.goto 14, 3) := by decide +kernel
theorem d_Mod_saved_18 : decode b_Mod_saved 18 = .ok (.aload_n 0, 1) := by decide +kernel
theorem d_Mod_saved_19 : decode b_Mod_saved 19 = .ok (.getfield 36, 3) := by decide +kernel
theorem d_Mod_saved_22 : decode b_Mod_saved 22 = .ok (.bipush 6, 2) := by decide +kernel
theorem d_Mod_saved_24 : decode b_Mod_saved 24 = .ok (.iload_n 1, 1) := by decide +kernel
theorem d_Mod_saved_25 : decode b_Mod_saved 25 = .ok (.imul, 1) := by decide +kernel
theorem d_Mod_saved_26 : decode b_Mod_saved 26 = .ok (.laload, 1) := by decide +kernel
theorem d_Mod_saved_27 : decode b_Mod_saved 27 = .ok (.lconst 1, 1) := by decide +kernel
theorem d_Mod_saved_28 : decode b_Mod_saved 28 = .ok (.ladd, 1) := by decide +kernel
theorem d_Mod_saved_29 : decode b_Mod_saved 29 = .ok (.lstore_n 2, 1) := by decide +kernel
theorem d_Mod_saved_30 : decode b_Mod_saved 30 = .ok (.aload_n 0, 1) := by decide +kernel
theorem d_Mod_saved_31 : decode b_Mod_saved 31 = .ok (.invokevirtual 117, 3) := by decide +kernel
theorem d_Mod_saved_34 : decode b_Mod_saved 34 = .ok (.istore 4, 2) := by decide +kernel
theorem d_Mod_saved_36 : decode b_Mod_saved 36 = .ok (.iload 4, 2) := by decide +kernel
theorem d_Mod_saved_38 : decode b_Mod_saved 38 = .ok (.ifCond .ge 10, 3) := by decide +kernel
theorem d_Mod_saved_41 : decode b_Mod_saved 41 = .ok (.aload_n 0, 1) := by decide +kernel
theorem d_Mod_saved_42 : decode b_Mod_saved 42 = .ok (.iconst 1, 1) := by decide +kernel
theorem d_Mod_saved_43 : decode b_Mod_saved 43 = .ok (.putfield 110, 3) := by decide +kernel
theorem d_Mod_saved_46 : decode b_Mod_saved 46 = .ok (.lconst 0, 1) := by decide +kernel
theorem d_Mod_saved_47 : decode b_Mod_saved 47 = .ok (.lreturn, 1) := by decide +kernel
theorem d_Mod_saved_48 : decode b_Mod_saved 48 = .ok (.aload_n 0, 1) := by decide +kernel
theorem d_Mod_saved_49 : decode b_Mod_saved 49 = .ok (.iload 4, 2) := by decide +kernel
theorem d_Mod_saved_51 : decode b_Mod_saved 51 = .ok (.putfield 43, 3) := by decide +kernel
theorem d_Mod_saved_54 : decode b_Mod_saved 54 = .ok (.bipush 6, 2) := by decide +kernel
theorem d_Mod_saved_56 : decode b_Mod_saved 56 = .ok (.iload 4, 2) := by decide +kernel
theorem d_Mod_saved_58 : decode b_Mod_saved 58 = .ok (.imul, 1) := by decide +kernel
theorem d_Mod_saved_59 : decode b_Mod_saved 59 = .ok (.istore 5, 2) := by decide +kernel
theorem d_Mod_saved_61 : decode b_Mod_saved 61 = .ok (.iconst 0, 1) := by decide +kernel
theorem d_Mod_saved_62 : decode b_Mod_saved 62 = .ok (.istore 6, 2) := by decide +kernel
theorem d_Mod_saved_64 : decode b_Mod_saved 64 = .ok (.iload 6, 2) := by decide +kernel
theorem d_Mod_saved_66 : decode b_Mod_saved 66 = .ok (.bipush 6, 2) := by decide +kernel
theorem d_Mod_saved_68 : decode b_Mod_saved 68 = .ok (.if_icmp .ge 67, 3) := by decide +kernel
theorem d_Mod_saved_71 : decode b_Mod_saved 71 = .ok (.aload_n 0, 1) := by decide +kernel
theorem d_Mod_saved_72 : decode b_Mod_saved 72 = .ok (.getfield 47, 3) := by decide +kernel
theorem d_Mod_saved_75 : decode b_Mod_saved 75 = .ok (.iload 6, 2) := by decide +kernel
theorem d_Mod_saved_77 : decode b_Mod_saved 77 = .ok (.if_icmp .ne 20, 3) := by decide +kernel
theorem d_Mod_saved_80 : decode b_Mod_saved 80 = .ok (.aload_n 0, 1) := by decide +kernel
theorem d_Mod_saved_81 : decode b_Mod_saved 81 = .ok (.iconst (-1), 1) := by decide +kernel
theorem d_Mod_saved_82 : decode b_Mod_saved 82 = .ok (.putfield 47, 3) := by decide +kernel
theorem d_Mod_saved_85 : decode b_Mod_saved 85 = .ok (.aload_n 0, 1) := by decide +kernel
theorem d_Mod_saved_86 : decode b_Mod_saved 86 = .ok (.iconst 0, 1) := by decide +kernel
theorem d_Mod_saved_87 : decode b_Mod_saved 87 = .ok (.putfield 7, 3) := by decide +kernel
theorem d_Mod_saved_90 : decode b_Mod_saved 90 = .ok (.aload_n 0, 1) := by decide +kernel
theorem d_Mod_saved_91 : decode b_Mod_saved 91 = .ok (.iconst 2, 1) := by decide +kernel
theorem d_Mod_saved_92 : decode b_Mod_saved 92 = .ok (.putfield 110, 3) := by decide +kernel
theorem d_Mod_saved_95 : decode b_Mod_saved 95 = .ok (.lconst 0, 1) := by decide +kernel
theorem d_Mod_saved_96 : decode b_Mod_saved 96 = .ok (.lreturn, 1) := by decide +kernel
theorem d_Mod_saved_97 : decode b_Mod_saved 97 = .ok (.aload_n 0, 1) := by decide +kernel
theorem d_Mod_saved_98 : decode b_Mod_saved 98 = .ok (.getfield 36, 3) := by decide +kernel
theorem d_Mod_saved_101 : decode b_Mod_saved 101 = .ok (.iload 5, 2) := by decide +kernel
theorem d_Mod_saved_103 : decode b_Mod_saved 103 = .ok (.iload 6, 2) := by decide +kernel
theorem d_Mod_saved_105 : decode b_Mod_saved 105 = .ok (.iadd, 1) := by decide +kernel
theorem d_Mod_saved_106 : decode b_Mod_saved 106 = .ok (.iload 6, 2) := by decide +kernel
theorem d_Mod_saved_108 : decode b_Mod_saved 108 = .ok (.iconst 5, 1) := by decide +kernel
theorem d_Mod_saved_109 : decode b_Mod_saved 109 = .ok (.if_icmp .ge 13, 3) := by decide +kernel
theorem d_Mod_saved_112 : decode b_Mod_saved 112 = .ok (.aload_n 0, 1) := by decide +kernel
theorem d_Mod_saved_113 : decode b_Mod_saved 113 = .ok (.iload 6, 2) := by decide +kernel
theorem d_Mod_saved_115 : decode b_Mod_saved 115 = .ok (.lload_n 2, 1) := by decide +kernel
theorem d_Mod_saved_116 : decode b_Mod_saved 116 = .ok (.invokevirtual 120, 3) := by decide +kernel
theorem d_Mod_saved_119 : decode b_Mod_saved 119 = .ok (.goto 9, 3) := by decide +kernel
theorem d_Mod_saved_122 : decode b_Mod_saved 122 = .ok (.aload_n 0, 1) := by decide +kernel
theorem d_Mod_saved_123 : decode b_Mod_saved 123 = .ok (.iload 5, 2) := by decide +kernel
theorem d_Mod_saved_125 : decode b_Mod_saved 125 = .ok (.invokevirtual 85, 3) := by decide +kernel
theorem d_Mod_saved_128 : decode b_Mod_saved 128 = .ok (.lastore, 1) := by decide +kernel
theorem d_Mod_saved_129 : decode b_Mod_saved 129 = .ok (.iinc 6 1, 3) := by decide +kernel
theorem d_Mod_saved_132 : decode b_Mod_saved 132 = .ok (.goto (-68), 3) := by decide +kernel
theorem d_Mod_saved_135 : decode b_Mod_saved 135 = .ok (.lload_n 2, 1) := by decide +kernel
theorem d_Mod_saved_136 : decode b_Mod_saved 136 = .ok (.lreturn, 1) := by decide +kernel
theorem d_Mod_load_0 : decode b_Mod_load 0 = .ok (.aload_n 0, 1) := by decide +kernel
theorem d_Mod_load_1 : decode b_Mod_load 1 = .ok (.iconst 0, 1) := by decide +kernel
theorem d_Mod_load_2 : decode b_Mod_load 2 = .ok (.putfield 64, 3) := by decide +kernel
theorem d_Mod_load_5 : decode b_Mod_load 5 = .ok (.aload_n 0, 1) := by decide +kernel
theorem d_Mod_load_6 : decode b_Mod_load 6 = .ok (.ldc2_w 13, 3) := by decide +kernel
theorem d_Mod_load_9 : decode b_Mod_load 9 = .ok (.putfield 15, 3) := by decide +kernel
theorem d_Mod_load_12 : decode b_Mod_load 12 = .ok (.iconst 0, 1) := by decide +kernel
theorem d_Mod_load_13 : decode b_Mod_load 13 = .ok (.istore_n 1, 1) := by decide +kernel
theorem d_Mod_load_14 : decode b_Mod_load 14 = .ok (.iload_n 1, 1) := by decide +kernel
theorem d_Mod_load_15 : decode b_Mod_load 15 = .ok (.iconst 3, 1) := by decide +kernel
theorem d_Mod_load_16 : decode b_Mod_load 16 = .ok (.if_icmp .ge 16, 3) := by decide +kernel
theorem d_Mod_load_19 : decode b_Mod_load 19 = .ok (.aload_n 0, 1) := by decide +kernel
theorem d_Mod_load_20 : decode b_Mod_load 20 = .ok (.getfield 19, 3) := by decide +kernel
theorem d_Mod_load_23 : decode b_Mod_load 23 = .ok (.iload_n 1, 1) := by decide +kernel
theorem d_Mod_load_24 : decode b_Mod_load 24 = .ok (.dconst 0, 1) := by decide +kernel
theorem d_Mod_load_25 : decode b_Mod_load 25 = .ok (.dastore, 1) := by decide +kernel
theorem d_Mod_load_26 : decode b_Mod_load 26 = .ok (.iinc 1 1, 3) := by decide +kernel
theorem d_Mod_load_29 : decode b_Mod_load 29 = .ok (.goto (-15), 3) := by decide +kernel
theorem d_Mod_load_32 : decode b_Mod_load 32 = .ok (.aload_n 0, 1) := by decide +kernel
theorem d_Mod_load_33 : decode b_Mod_load 33 = .ok (.dconst 0, 1) := by decide +kernel
theorem d_Mod_load_34 : decode b_Mod_load 34 = .ok (.putfield 124, 3) := by decide +kernel
theorem d_Mod_load_37 : decode b_Mod_load 37 = .ok (.aload_n 0, 1) := by decide +kernel
theorem d_Mod_load_38 : decode b_Mod_load 38 = .ok (.iconst 0, 1) := by decide +kernel
theorem d_Mod_load_39 : decode b_Mod_load 39 = .ok (.putfield 107, 3) := by decide +kernel
theorem d_Mod_load_42 : decode b_Mod_load 42 = .ok (.aload_n 0, 1) := by decide +kernel
theorem d_Mod_load_43 : decode b_Mod_load 43 = .ok (.iconst 0, 1) := by decide +kernel
theorem d_Mod_load_44 : decode b_Mod_load 44 = .ok (.putfield 99, 3) := by decide +kernel
theorem d_Mod_load_47 : decode b_Mod_load 47 = .ok (.aload_n 0, 1) := by decide +kernel
theorem d_Mod_load_48 : decode b_Mod_load 48 = .ok (.iconst 0, 1) := by decide +kernel
theorem d_Mod_load_49 : decode b_Mod_load 49 = .ok (.putfield 102, 3) := by decide +kernel
theorem d_Mod_load_52 : decode b_Mod_load 52 = .ok (.aload_n 0, 1) := by decide +kernel
theorem d_Mod_load_53 : decode b_Mod_load 53 = .ok (.invokevirtual 113, 3) := by decide +kernel
theorem d_Mod_load_56 : decode b_Mod_load 56 = .ok (.istore_n 1, 1) := by decide +kernel
theorem d_Mod_load_57 : decode b_Mod_load 57 = .ok (.aload_n 0, 1) := by decide +kernel
theorem d_Mod_load_58 : decode b_Mod_load 58 = .ok (.iload_n 1, 1) := by decide +kernel
theorem d_Mod_load_59 : decode b_Mod_load 59 = .ok (.putfield 43, 3) := by decide +kernel
theorem d_Mod_load_62 : decode b_Mod_load 62 = .ok (.iload_n 1, 1) := by decide +kernel
theorem d_Mod_load_63 : decode b_Mod_load 63 = .ok (.ifCond .ge 4, 3) := by decide +kernel
theorem d_Mod_load_66 : decode b_Mod_load 66 = .ok (.return_, 1) := by decide +kernel
theorem d_Mod_load_67 : decode b_Mod_load 67 = .ok (.aload_n 0, 1) := by decide +kernel
theorem d_Mod_load_68 : decode b_Mod_load 68 = .ok (.getfield 36, 3) := by decide +kernel
theorem d_Mod_load_71 : decode b_Mod_load 71 = .ok (.bipush 6, 2) := by decide +kernel
theorem d_Mod_load_73 : decode b_Mod_load 73 = .ok (.iload_n 1, 1) := by decide +kernel
theorem d_Mod_load_74 : decode b_Mod_load 74 = .ok (.imul, 1) := by decide +kernel
theorem d_Mod_load_75 : decode b_Mod_load 75 = .ok (.iconst 1, 1) := by decide +kernel
theorem d_Mod_load_76 : decode b_Mod_load 76 = .ok (.iadd, 1) := by decide +kernel
theorem d_Mod_load_77 : decode b_Mod_load 77 = .ok (.laload, 1) := by decide +kernel
theorem d_Mod_load_78 : decode b_Mod_load 78 = .ok (.lstore_n 2, 1) := by decide +kernel
theorem d_Mod_load_79 : decode b_Mod_load 79 = .ok (.aload_n 0, 1) := by decide +kernel
theorem d_Mod_load_80 : decode b_Mod_load 80 = .ok (.getfield 36, 3) := by decide +kernel
theorem d_Mod_load_83 : decode b_Mod_load 83 = .ok (.bipush 6, 2) := by decide +kernel
theorem d_Mod_load_85 : decode b_Mod_load 85 = .ok (.iload_n 1, 1) := by decide +kernel
theorem d_Mod_load_86 : decode b_Mod_load 86 = .ok (.imul, 1) := by decide +kernel
theorem d_Mod_load_87 : decode b_Mod_load 87 = .ok (.iconst 4, 1) := by decide +kernel
theorem d_Mod_load_88 : decode b_Mod_load 88 = .ok (.iadd, 1) := by decide +kernel
theorem d_Mod_load_89 : decode b_Mod_load 89 = .ok (.laload, 1) := by decide +kernel
theorem d_Mod_load_90 : decode b_Mod_load 90 = .ok (.lstore 4, 2) := by decide +kernel
theorem d_Mod_load_92 : decode b_Mod_load 92 = .ok (.lload_n 2, 1) := by decide +kernel
theorem d_Mod_load_93 : decode b_Mod_load 93 = .ok (.ldc2_w 127, 3) := by decide +kernel
theorem d_Mod_load_96 : decode b_Mod_load 96 = .ok (.ladd, 1) := by decide +kernel
theorem d_Mod_load_97 : decode b_Mod_load 97 = .ok (.ldc2_w 95, 3) := by decide +kernel
theorem d_Mod_load_100 : decode b_Mod_load 100 = .ok (.ldiv, 1) := by decide +kernel
theorem d_Mod_load_101 : decode b_Mod_load 101 = .ok (.lstore 6, 2) := by decide +kernel
theorem d_Mod_load_103 : decode b_Mod_load 103 = .ok (.aload_n 0, 1) := by decide +kernel
theorem d_Mod_load_104 : decode b_Mod_load 104 = .ok (.lload_n 2, 1) := by decide +kernel
theorem d_Mod_load_105 : decode b_Mod_load 105 = .ok (.lload 6, 2) := by decide +kernel
theorem d_Mod_load_107 : decode b_Mod_load 107 = .ok (.ldc2_w 95, 3) := by decide +kernel
theorem d_Mod_load_110 : decode b_Mod_load 110 = .ok (.lmul, 1) := by decide +kernel
theorem d_Mod_load_111 : decode b_Mod_load 111 = .ok (.lsub, 1) := by decide +kernel
theorem d_Mod_load_112 : decode b_Mod_load 112 = .ok (.l2d, 1) := by decide +kernel
theorem d_Mod_load_113 : decode b_Mod_load 113 = .ok (.ldc2_w 93, 3) := by decide +kernel
theorem d_Mod_load_116 : decode b_Mod_load 116 = .ok (.ddiv, 1) := by decide +kernel
theorem d_Mod_load_117 : decode b_Mod_load 117 = .ok (.putfield 15, 3) := by decide +kernel
theorem d_Mod_load_120 : decode b_Mod_load 120 = .ok (.aload_n 0, 1) := by decide +kernel
theorem d_Mod_load_121 : decode b_Mod_load 121 = .ok (.lload 6, 2) := by decide +kernel
theorem d_Mod_load_123 : decode b_Mod_load 123 = .ok (.ldc2_w 97, 3) := by decide +kernel
theorem d_Mod_load_126 : decode b_Mod_load 126 = .ok (.ldiv, 1) := by decide +kernel
theorem d_Mod_load_127 : decode b_Mod_load 127 = .ok (.l2i, 1) := by decide +kernel
theorem d_Mod_load_128 : decode b_Mod_load 128 = .ok (.putfield 64, 3) := by decide +kernel
theorem d_Mod_load_131 : decode b_Mod_load 131 = .ok (.aload_n 0, 1) := by decide +kernel
theorem d_Mod_load_132 : decode b_Mod_load 132 = .ok (.lload 6, 2) := by decide +kernel
theorem d_Mod_load_134 : decode b_Mod_load 134 = .ok (.lconst 1, 1) := by decide +kernel
theorem d_Mod_load_135 : decode b_Mod_load 135 = .ok (.land, 1) := by decide +kernel
theorem d_Mod_load_136 : decode b_Mod_load 136 = .ok (.lconst 0, 1) := by decide +kernel
theorem d_Mod_load_137 : decode b_Mod_load 137 = .ok (.lcmp, 1) := by decide +kernel
theorem d_Mod_load_138 : decode b_Mod_load 138 = .ok (.ifCond .eq 7, 3) := by decide +kernel
theorem d_Mod_load_141 : decode b_Mod_load 141 = .ok (.iconst 1, 1) := by decide +kernel
theorem d_Mod_load_142 : decode b_Mod_load 142 = .ok (.goto 4, 3) := by decide +kernel
theorem d_Mod_load_145 : decode b_Mod_load 145 = .ok (.iconst 0, 1) := by decide +kernel
theorem d_Mod_load_146 : decode b_Mod_load 146 = .ok (.putfield 99, 3) := by decide +kernel
theorem d_Mod_load_149 : decode b_Mod_load 149 = .ok (.aload_n 0, 1) := by decide +kernel
theorem d_Mod_load_150 : decode b_Mod_load 150 = .ok (.lload 6, 2) := by decide +kernel
theorem d_Mod_load_152 : decode b_Mod_load 152 = .ok (.ldc2_w 129, 3) := by decide +kernel
theorem d_Mod_load_155 : decode b_Mod_load 155 = .ok (.land, 1) := by decide +kernel
theorem d_Mod_load_156 : decode b_Mod_load 156 = .ok (.lconst 0, 1) := by decide +kernel
theorem d_Mod_load_157 : decode b_Mod_load 157 = .ok (.lcmp, 1) := by decide +kernel
theorem d_Mod_load_158 : decode b_Mod_load 158 = .ok (.ifCond .eq 7, 3) := by decide +kernel
theorem d_Mod_load_161 : decode b_Mod_load 161 = .ok (.iconst 1, 1) := by decide +kernel
theorem d_Mod_load_162 : decode b_Mod_load 162 = .ok (.goto 4, 3) := by decide +kernel
theorem d_Mod_load_165 : decode b_Mod_load 165 = .ok (.iconst 0, 1) := by decide +kernel
theorem d_Mod_load_166 : decode b_Mod_load 166 = .ok (.putfield 102, 3) := by decide +kernel
theorem d_Mod_load_169 : decode b_Mod_load 169 = .ok (.aload_n 0, 1) := by decide +kernel
theorem d_Mod_load_170 : decode b_Mod_load 170 = .ok (.getfield 19, 3) := by decide +kernel
theorem d_Mod_load_173 : decode b_Mod_load 173 = .ok (.iconst 0, 1) := by decide +kernel
theorem d_Mod_load_174 : decode b_Mod_load 174 = .ok (.aload_n 0, 1) := by decide +kernel
theorem d_Mod_load_175 : decode b_Mod_load 175 = .ok (.getfield 36, 3) := by decide +kernel
theorem d_Mod_load_178 : decode b_Mod_load 178 = .ok (.bipush 6, 2) := by decide +kernel
theorem d_Mod_load_180 : decode b_Mod_load 180 = .ok (.iload_n 1, 1) := by decide +kernel
theorem d_Mod_load_181 : decode b_Mod_load 181 = .ok (.imul, 1) := by decide +kernel
theorem d_Mod_load_182 : decode b_Mod_load 182 = .ok (.iconst 2, 1) := by decide +kernel
theorem d_Mod_load_183 : decode b_Mod_load 183 = .ok (.iadd, 1) := by decide +kernel
theorem d_Mod_load_184 : decode b_Mod_load 184 = .ok (.laload, 1) := by decide +kernel
theorem d_Mod_load_185 : decode b_Mod_load 185 = .ok (.l2d, 1) := by decide +kernel
theorem d_Mod_load_186 : decode b_Mod_load 186 = .ok (.ldc2_w 93, 3) := by decide +kernel
theorem d_Mod_load_189 : decode b_Mod_load 189 = .ok (.ddiv, 1) := by decide +kernel
theorem d_Mod_load_190 : decode b_Mod_load 190 = .ok (.dastore, 1) := by decide +kernel
theorem d_Mod_load_191 : decode b_Mod_load 191 = .ok (.aload_n 0, 1) := by decide +kernel
theorem d_Mod_load_192 : decode b_Mod_load 192 = .ok (.getfield 19, 3) := by decide +kernel
theorem d_Mod_load_195 : decode b_Mod_load 195 = .ok (.iconst 1, 1) := by decide +kernel
theorem d_Mod_load_196 : decode b_Mod_load 196 = .ok (.aload_n 0, 1) := by decide +kernel
theorem d_Mod_load_197 : decode b_Mod_load 197 = .ok (.getfield 36, 3) := by decide +kernel
theorem d_Mod_load_200 : decode b_Mod_load 200 = .ok (.bipush 6, 2) := by decide +kernel
theorem d_Mod_load_202 : decode b_Mod_load 202 = .ok (.iload_n 1, 1) := by decide +kernel
theorem d_Mod_load_203 : decode b_Mod_load 203 = .ok (.imul, 1) := by decide +kernel
theorem d_Mod_load_204 : decode b_Mod_load 204 = .ok (.iconst 3, 1) := by decide +kernel
theorem d_Mod_load_205 : decode b_Mod_load 205 = .ok (.iadd, 1) := by decide +kernel
theorem d_Mod_load_206 : decode b_Mod_load 206 = .ok (.laload, 1) := by decide +kernel
theorem d_Mod_load_207 : decode b_Mod_load 207 = .ok (.l2d, 1) := by decide +kernel
theorem d_Mod_load_208 : decode b_Mod_load 208 = .ok (.ldc2_w 93, 3) := by decide +kernel
theorem d_Mod_load_211 : decode b_Mod_load 211 = .ok (.ddiv, 1) := by decide +kernel
theorem d_Mod_load_212 : decode b_Mod_load 212 = .ok (.dastore, 1) := by decide +kernel
theorem d_Mod_load_213 : decode b_Mod_load 213 = .ok (.aload_n 0, 1) := by decide +kernel
theorem d_Mod_load_214 : decode b_Mod_load 214 = .ok (.lload 4, 2) := by decide +kernel
theorem d_Mod_load_216 : decode b_Mod_load 216 = .ok (.ldc2_w 105, 3) := by decide +kernel
theorem d_Mod_load_219 : decode b_Mod_load 219 = .ok (.ldiv, 1) := by decide +kernel
theorem d_Mod_load_220 : decode b_Mod_load 220 = .ok (.l2i, 1) := by decide +kernel
theorem d_Mod_load_221 : decode b_Mod_load 221 = .ok (.putfield 107, 3) := by decide +kernel
theorem d_Mod_load_224 : decode b_Mod_load 224 = .ok (.aload_n 0, 1) := by decide +kernel
theorem d_Mod_load_225 : decode b_Mod_load 225 = .ok (.getfield 19, 3) := by decide +kernel
theorem d_Mod_load_228 : decode b_Mod_load 228 = .ok (.iconst 2, 1) := by decide +kernel
theorem d_Mod_load_229 : decode b_Mod_load 229 = .ok (.lload 4, 2) := by decide +kernel
theorem d_Mod_load_231 : decode b_Mod_load 231 = .ok (.aload_n 0, 1) := by decide +kernel
theorem d_Mod_load_232 : decode b_Mod_load 232 = .ok (.getfield 107, 3) := by decide +kernel
theorem d_Mod_load_235 : decode b_Mod_load 235 = .ok (.i2l, 1) := by decide +kernel
theorem d_Mod_load_236 : decode b_Mod_load 236 = .ok (.ldc2_w 105, 3) := by decide +kernel
theorem d_Mod_load_239 : decode b_Mod_load 239 = .ok (.lmul, 1) := by decide +kernel
theorem d_Mod_load_240 : decode b_Mod_load 240 = .ok (.lsub, 1) := by decide +kernel
theorem d_Mod_load_241 : decode b_Mod_load 241 = .ok (.l2d, 1) := by decide +kernel
theorem d_Mod_load_242 : decode b_Mod_load 242 = .ok (.ldc2_w 93, 3) := by decide +kernel
theorem d_Mod_load_245 : decode b_Mod_load 245 = .ok (.ddiv, 1) := by decide +kernel
theorem d_Mod_load_246 : decode b_Mod_load 246 = .ok (.dastore, 1) := by decide +kernel
theorem d_Mod_load_247 : decode b_Mod_load 247 = .ok (.return_, 1) := by decide +kernel
theorem d_Mod_minute_0 : decode b_Mod_minute 0 = .ok (.dload_n 1, 1) := by decide +kernel
theorem d_Mod_minute_1 : decode b_Mod_minute 1 = .ok (.aload_n 0, 1) := by decide +kernel
theorem d_Mod_minute_2 : decode b_Mod_minute 2 = .ok (.getfield 99, 3) := by decide +kernel
theorem d_Mod_minute_5 : decode b_Mod_minute 5 = .ok (.ifCond .eq 7, 3) := by decide +kernel
theorem d_Mod_minute_8 : decode b_Mod_minute 8 = .ok (.dconst 0, 1) := by decide +kernel
theorem d_Mod_minute_9 : decode b_Mod_minute 9 = .ok (.goto 4, 3) := by decide +kernel
theorem d_Mod_minute_12 : decode b_Mod_minute 12 = .ok (.dload_n 3, 1) := by decide +kernel
theorem d_Mod_minute_13 : decode b_Mod_minute 13 = .ok (.dmul, 1) := by decide +kernel
theorem d_Mod_minute_14 : decode b_Mod_minute 14 = .ok (.dstore 5, 2) := by decide +kernel
theorem d_Mod_minute_16 : decode b_Mod_minute 16 = .ok (.dload 5, 2) := by decide +kernel
theorem d_Mod_minute_18 : decode b_Mod_minute 18 = .ok (.aload_n 0, 1) := by decide +kernel
theorem d_Mod_minute_19 : decode b_Mod_minute 19 = .ok (.getfield 124, 3) := by decide +kernel
theorem d_Mod_minute_22 : decode b_Mod_minute 22 = .ok (.dcmp .l, 1) := by decide +kernel
theorem d_Mod_minute_23 : decode b_Mod_minute 23 = .ok (.ifCond .le 9, 3) := by decide +kernel
theorem d_Mod_minute_26 : decode b_Mod_minute 26 = .ok (.aload_n 0, 1) := by decide +kernel
theorem d_Mod_minute_27 : decode b_Mod_minute 27 = .ok (.dload 5, 2) := by decide +kernel
theorem d_Mod_minute_29 : decode b_Mod_minute 29 = .ok (.putfield 124, 3) := by decide +kernel
theorem d_Mod_minute_32 : decode b_Mod_minute 32 = .ok (.dload 5, 2) := by decide +kernel
theorem d_Mod_minute_34 : decode b_Mod_minute 34 = .ok (.ldc2_w 131, 3) := by decide +kernel
theorem d_Mod_minute_37 : decode b_Mod_minute 37 = .ok (.ddiv, 1) := by decide +kernel
theorem d_Mod_minute_38 : decode b_Mod_minute 38 = .ok (.dstore 7, 2) := by decide +kernel
theorem d_Mod_minute_40 : decode b_Mod_minute 40 = .ok (.aload_n 0, 1) := by decide +kernel
theorem d_Mod_minute_41 : decode b_Mod_minute 41 = .ok (.invokevirtual 133, 3) := by decide +kernel
theorem d_Mod_minute_44 : decode b_Mod_minute 44 = .ok (.istore 9, 2) := by decide +kernel
theorem d_Mod_minute_46 : decode b_Mod_minute 46 = .ok (.aload_n 0, 1) := by decide +kernel
theorem d_Mod_minute_47 : decode b_Mod_minute 47 = .ok (.getfield 19, 3) := by decide +kernel
theorem d_Mod_minute_50 : decode b_Mod_minute 50 = .ok (.iload 9, 2) := by decide +kernel
theorem d_Mod_minute_52 : decode b_Mod_minute 52 = .ok (.dup2, 1) := by decide +kernel
theorem d_Mod_minute_53 : decode b_Mod_minute 53 = .ok (.daload, 1) := by decide +kernel
theorem d_Mod_minute_54 : decode b_Mod_minute 54 = .ok (.dload 7, 2) := by decide +kernel
theorem d_Mod_minute_56 : decode b_Mod_minute 56 = .ok (.dadd, 1) := by decide +kernel
theorem d_Mod_minute_57 : decode b_Mod_minute 57 = .ok (.dastore, 1) := by decide +kernel
theorem d_Mod_minute_58 : decode b_Mod_minute 58 = .ok (.aload_n 0, 1) := by decide +kernel
theorem d_Mod_minute_59 : decode b_Mod_minute 59 = .ok (.dup, 1) := by decide +kernel
theorem d_Mod_minute_60 : decode b_Mod_minute 60 = .ok (.getfield 15, 3) := by decide +kernel
theorem d_Mod_minute_63 : decode b_Mod_minute 63 = .ok (.dload 7, 2) := by decide +kernel
theorem d_Mod_minute_65 : decode b_Mod_minute 65 = .ok (.aload_n 0, 1) := by decide +kernel
theorem d_Mod_minute_66 : decode b_Mod_minute 66 = .ok (.getfield 23, 3) := by decide +kernel
theorem d_Mod_minute_69 : decode b_Mod_minute 69 = .ok (.iload 9, 2) := by decide +kernel
theorem d_Mod_minute_71 : decode b_Mod_minute 71 = .ok (.daload, 1) := by decide +kernel
theorem d_Mod_minute_72 : decode b_Mod_minute 72 = .ok (.dmul, 1) := by decide +kernel
theorem d_Mod_minute_73 : decode b_Mod_minute 73 = .ok (.dsub, 1) := by decide +kernel
theorem d_Mod_minute_74 : decode b_Mod_minute 74 = .ok (.putfield 15, 3) := by decide +kernel
theorem d_Mod_minute_77 : decode b_Mod_minute 77 = .ok (.aload_n 0, 1) := by decide +kernel
theorem d_Mod_minute_78 : decode b_Mod_minute 78 = .ok (.dup, 1) := by decide +kernel
theorem d_Mod_minute_79 : decode b_Mod_minute 79 = .ok (.getfield 64, 3) := by decide +kernel
theorem d_Mod_minute_82 : decode b_Mod_minute 82 = .ok (.iconst 1, 1) := by decide +kernel
theorem d_Mod_minute_83 : decode b_Mod_minute 83 = .ok (.iadd, 1) := by decide +kernel
theorem d_Mod_minute_84 : decode b_Mod_minute 84 = .ok (.putfield 64, 3) := by decide +kernel
theorem d_Mod_minute_87 : decode b_Mod_minute 87 = .ok (.aload_n 0, 1) := by decide +kernel
theorem d_Mod_minute_88 : decode b_Mod_minute 88 = .ok (.getfield 64, 3) := by decide +kernel
theorem d_Mod_minute_91 : decode b_Mod_minute 91 = .ok (.sipush 1440, 3) := by decide +kernel
theorem d_Mod_minute_94 : decode b_Mod_minute 94 = .ok (.irem, 1) := by decide +kernel
theorem d_Mod_minute_95 : decode b_Mod_minute 95 = .ok (.istore 10, 2) := by decide +kernel
theorem d_Mod_minute_97 : decode b_Mod_minute 97 = .ok (.aload_n 0, 1) := by decide +kernel
theorem d_Mod_minute_98 : decode b_Mod_minute 98 = .ok (.getfield 15, 3) := by decide +kernel
theorem d_Mod_minute_101 : decode b_Mod_minute 101 = .ok (.aload_n 0, 1) := by decide +kernel
theorem d_Mod_minute_102 : decode b_Mod_minute 102 = .ok (.getfield 102, 3) := by decide +kernel
theorem d_Mod_minute_105 : decode b_Mod_minute 105 = .ok (.ifCond .eq 9, 3) := by decide +kernel
theorem d_Mod_minute_108 : decode b_Mod_minute 108 = .ok (.ldc2_w 136, 3) := by decide +kernel
theorem d_Mod_minute_111 : decode b_Mod_minute 111 = .ok (.goto 4, 3) := by decide +kernel
theorem d_Mod_minute_114 : decode b_Mod_minute 114 = .ok (.dconst 0, 1) := by decide +kernel
theorem d_Mod_minute_115 : decode b_Mod_minute 115 = .ok (.dcmp .g, 1) := by decide +kernel
theorem d_Mod_minute_116 : decode b_Mod_minute 116 = .ok (.ifCond .ge 34, 3) := by decide +kernel
theorem d_Mod_minute_119 : decode b_Mod_minute 119 = .ok (.aload_n 0, 1) := by decide +kernel
theorem d_Mod_minute_120 : decode b_Mod_minute 120 = .ok (.getfield 99, 3) := by decide +kernel
theorem d_Mod_minute_123 : decode b_Mod_minute 123 = .ok (.ifCond .ne 27, 3) := by decide +kernel
theorem d_Mod_minute_126 : decode b_Mod_minute 126 = .ok (.iload 10, 2) := by decide +kernel
theorem d_Mod_minute_128 : decode b_Mod_minute 128 = .ok (.sipush 360, 3) := by decide +kernel
theorem d_Mod_minute_131 : decode b_Mod_minute 131 = .ok (.sipush 1079, 3) := by decide +kernel
theorem d_Mod_minute_134 : decode b_Mod_minute 134 = .ok (.invokestatic 67, 3) := by decide +kernel
theorem d_Mod_minute_137 : decode b_Mod_minute 137 = .ok (.ifCond .eq 13, 3) := by decide +kernel
theorem d_Mod_minute_140 : decode b_Mod_minute 140 = .ok (.aload_n 0, 1) := by decide +kernel
theorem d_Mod_minute_141 : decode b_Mod_minute 141 = .ok (.iconst 1, 1) := by decide +kernel
theorem d_Mod_minute_142 : decode b_Mod_minute 142 = .ok (.putfield 99, 3) := by decide +kernel
theorem d_Mod_minute_145 : decode b_Mod_minute 145 = .ok (.aload_n 0, 1) := by decide +kernel
theorem d_Mod_minute_146 : decode b_Mod_minute 146 = .ok (.iconst 1, 1) := by decide +kernel
theorem d_Mod_minute_147 : decode b_Mod_minute 147 = .ok (.invokevirtual 138, 3) := by decide +kernel
theorem d_Mod_minute_150 : decode b_Mod_minute 150 = .ok (.iload 10, 2) := by decide +kernel
theorem d_Mod_minute_152 : decode b_Mod_minute 152 = .ok (.ifCond .eq 4, 3) := by decide +kernel
theorem d_Mod_minute_155 : decode b_Mod_minute 155 = .ok (.return_, 1) := by decide +kernel
theorem d_Mod_minute_156 : decode b_Mod_minute 156 = .ok (.aload_n 0, 1) := by decide +kernel
theorem d_Mod_minute_157 : decode b_Mod_minute 157 = .ok (.invokevirtual 142, 3) := by decide +kernel
theorem d_Mod_minute_160 : decode b_Mod_minute 160 = .ok (.pop2, 1) := by decide +kernel
theorem d_Mod_minute_161 : decode b_Mod_minute 161 = .ok (.aload_n 0, 1) := by decide +kernel
theorem d_Mod_minute_162 : decode b_Mod_minute 162 = .ok (.getfield 110, 3) := by decide +kernel
theorem d_Mod_minute_165 : decode b_Mod_minute 165 = .ok (.iconst 1, 1) := by decide +kernel
theorem d_Mod_minute_166 : decode b_Mod_minute 166 = .ok (.if_icmp .ne 8, 3) := by decide +kernel
theorem d_Mod_minute_169 : decode b_Mod_minute 169 = .ok (.aload_n 0, 1) := by decide +kernel
theorem d_Mod_minute_170 : decode b_Mod_minute 170 = .ok (.iconst 3, 1) := by decide +kernel
theorem d_Mod_minute_171 : decode b_Mod_minute 171 = .ok (.invokevirtual 138, 3) := by decide +kernel
theorem d_Mod_minute_174 : decode b_Mod_minute 174 = .ok (.return_, 1) := by decide +kernel
theorem d_Mod_use_0 : decode b_Mod_use 0 = .ok (.aload_n 0, 1) := by decide +kernel
theorem d_Mod_use_1 : decode b_Mod_use 1 = .ok (.iconst 0, 1) := by decide +kernel
theorem d_Mod_use_2 : decode b_Mod_use 2 = .ok (.putfield 58, 3) := by decide +kernel
theorem d_Mod_use_5 : decode b_Mod_use 5 = .ok (.dload_n 1, 1) := by decide +kernel
theorem d_Mod_use_6 : decode b_Mod_use 6 = .ok (.dconst 0, 1) := by decide +kernel
theorem d_Mod_use_7 : decode b_Mod_use 7 = .ok (.dcmp .l, 1) := by decide +kernel
theorem d_Mod_use_8 : decode b_Mod_use 8 = .ok (.ifCond .lt 37, 3) := by decide +kernel
theorem d_Mod_use_11 : decode b_Mod_use 11 = .ok (.dload_n 1, 1) := by decide +kernel
theorem d_Mod_use_12 : decode b_Mod_use 12 = .ok (.ldc2_w 146, 3) := by decide +kernel
theorem d_Mod_use_15 : decode b_Mod_use 15 = .ok (.dcmp .g, 1) := by decide +kernel
theorem d_Mod_use_16 : decode b_Mod_use 16 = .ok (.ifCond .gt 29, 3) := by decide +kernel
theorem d_Mod_use_19 : decode b_Mod_use 19 = .ok (.dload_n 3, 1) := by decide +kernel
theorem d_Mod_use_20 : decode b_Mod_use 20 = .ok (.dconst 0, 1) := by decide +kernel
theorem d_Mod_use_21 : decode b_Mod_use 21 = .ok (.dcmp .l, 1) := by decide +kernel
theorem d_Mod_use_22 : decode b_Mod_use 22 = .ok (.ifCond .lt 23, 3) := by decide +kernel
theorem d_Mod_use_25 : decode b_Mod_use 25 = .ok (.dload_n 3, 1) := by decide +kernel
theorem d_Mod_use_26 : decode b_Mod_use 26 = .ok (.ldc2_w 148, 3) := by decide +kernel
theorem d_Mod_use_29 : decode b_Mod_use 29 = .ok (.dcmp .g, 1) := by decide +kernel
theorem d_Mod_use_30 : decode b_Mod_use 30 = .ok (.ifCond .gt 15, 3) := by decide +kernel
theorem d_Mod_use_33 : decode b_Mod_use 33 = .ok (.iload 5, 2) := by decide +kernel
theorem d_Mod_use_35 : decode b_Mod_use 35 = .ok (.iconst 1, 1) := by decide +kernel
theorem d_Mod_use_36 : decode b_Mod_use 36 = .ok (.sipush 300, 3) := by decide +kernel
theorem d_Mod_use_39 : decode b_Mod_use 39 = .ok (.invokestatic 67, 3) := by decide +kernel
theorem d_Mod_use_42 : decode b_Mod_use 42 = .ok (.ifCond .ne 9, 3) := by decide +kernel
theorem d_Mod_use_45 : decode b_Mod_use 45 = .ok (.aload_n 0, 1) := by decide +kernel
theorem d_Mod_use_46 : decode b_Mod_use 46 = .ok (.iconst 1, 1) := by decide +kernel
theorem d_Mod_use_47 : decode b_Mod_use 47 = .ok (.invokevirtual 71, 3) := by decide +kernel
theorem d_Mod_use_50 : decode b_Mod_use 50 = .ok (.ireturn, 1) := by decide +kernel
theorem d_Mod_use_51 : decode b_Mod_use 51 = .ok (.aload_n 0, 1) := by decide +kernel
theorem d_Mod_use_52 : decode b_Mod_use 52 = .ok (.getfield 7, 3) := by decide +kernel
theorem d_Mod_use_55 : decode b_Mod_use 55 = .ok (.ifCond .ne 9, 3) := by decide +kernel
theorem d_Mod_use_58 : decode b_Mod_use 58 = .ok (.aload_n 0, 1) := by decide +kernel
theorem d_Mod_use_59 : decode b_Mod_use 59 = .ok (.iconst 2, 1) := by decide +kernel
theorem d_Mod_use_60 : decode b_Mod_use 60 = .ok (.invokevirtual 71, 3) := by decide +kernel
theorem d_Mod_use_63 : decode b_Mod_use 63 = .ok (.ireturn, 1) := by decide +kernel
theorem d_Mod_use_64 : decode b_Mod_use 64 = .ok (.dload_n 1, 1) := by decide +kernel
theorem d_Mod_use_65 : decode b_Mod_use 65 = .ok (.ldc2_w 150, 3) := by decide +kernel
theorem d_Mod_use_68 : decode b_Mod_use 68 = .ok (.dcmp .l, 1) := by decide +kernel
theorem d_Mod_use_69 : decode b_Mod_use 69 = .ok (.ifCond .le 8, 3) := by decide +kernel
theorem d_Mod_use_72 : decode b_Mod_use 72 = .ok (.aload_n 0, 1) := by decide +kernel
theorem d_Mod_use_73 : decode b_Mod_use 73 = .ok (.iconst 2, 1) := by decide +kernel
theorem d_Mod_use_74 : decode b_Mod_use 74 = .ok (.invokevirtual 138, 3) := by decide +kernel
theorem d_Mod_use_77 : decode b_Mod_use 77 = .ok (.iconst 0, 1) := by decide +kernel
theorem d_Mod_use_78 : decode b_Mod_use 78 = .ok (.istore 6, 2) := by decide +kernel
theorem d_Mod_use_80 : decode b_Mod_use 80 = .ok (.iconst 0, 1) := by decide +kernel
theorem d_Mod_use_81 : decode b_Mod_use 81 = .ok (.istore 7, 2) := by decide +kernel
theorem d_Mod_use_83 : decode b_Mod_use 83 = .ok (.iload 7, 2) := by decide +kernel
theorem d_Mod_use_85 : decode b_Mod_use 85 = .ok (.iload 5, 2) := by decide +kernel
theorem d_Mod_use_87 : decode b_Mod_use 87 = .ok (.if_icmp .ge 38, 3) := by decide +kernel
theorem d_Mod_use_90 : decode b_Mod_use 90 = .ok (.aload_n 0, 1) := by decide +kernel
theorem d_Mod_use_91 : decode b_Mod_use 91 = .ok (.getfield 99, 3) := by decide +kernel
theorem d_Mod_use_94 : decode b_Mod_use 94 = .ok (.ifCond .ne 6, 3) := by decide +kernel
theorem d_Mod_use_97 : decode b_Mod_use 97 = .ok (.iinc 6 1, 3) := by decide +kernel
theorem d_Mod_use_100 : decode b_Mod_use 100 = .ok (.aload_n 0, 1) := by decide +kernel
theorem d_Mod_use_101 : decode b_Mod_use 101 = .ok (.dload_n 1, 1) := by decide +kernel
theorem d_Mod_use_102 : decode b_Mod_use 102 = .ok (.dload_n 3, 1) := by decide +kernel
theorem d_Mod_use_103 : decode b_Mod_use 103 = .ok (.invokevirtual 152, 3) := by decide +kernel
theorem d_Mod_use_106 : decode b_Mod_use 106 = .ok (.aload_n 0, 1) := by decide +kernel
theorem d_Mod_use_107 : decode b_Mod_use 107 = .ok (.getfield 7, 3) := by decide +kernel
theorem d_Mod_use_110 : decode b_Mod_use 110 = .ok (.ifCond .ne 9, 3) := by decide +kernel
theorem d_Mod_use_113 : decode b_Mod_use 113 = .ok (.aload_n 0, 1) := by decide +kernel
theorem d_Mod_use_114 : decode b_Mod_use 114 = .ok (.iconst 3, 1) := by decide +kernel
theorem d_Mod_use_115 : decode b_Mod_use 115 = .ok (.invokevirtual 71, 3) := by decide +kernel
theorem d_Mod_use_118 : decode b_Mod_use 118 = .ok (.ireturn, 1) := by decide +kernel
theorem d_Mod_use_119 : decode b_Mod_use 119 = .ok (.iinc 7 1, 3) := by decide +kernel
theorem d_Mod_use_122 : decode b_Mod_use 122 = .ok (.goto (-39), 3) := by decide +kernel
theorem d_Mod_use_125 : decode b_Mod_use 125 = .ok (.iload 6, 2) := by decide +kernel
theorem d_Mod_use_127 : decode b_Mod_use 127 = .ok (.ireturn, 1) := by decide +kernel
theorem d_Mod_close_0 : decode b_Mod_close 0 = .ok (.aload_n 0, 1) := by decide +kernel
theorem d_Mod_close_1 : decode b_Mod_close 1 = .ok (.iconst 0, 1) := by decide +kernel
theorem d_Mod_close_2 : decode b_Mod_close 2 = .ok (.putfield 99, 3) := by decide +kernel
theorem d_Mod_close_5 : decode b_Mod_close 5 = .ok (.aload_n 0, 1) := by decide +kernel
theorem d_Mod_close_6 : decode b_Mod_close 6 = .ok (.iconst 5, 1) := by decide +kernel
theorem d_Mod_close_7 : decode b_Mod_close 7 = .ok (.invokevirtual 138, 3) := by decide +kernel
theorem d_Mod_close_10 : decode b_Mod_close 10 = .ok (.return_, 1) := by decide +kernel
theorem d_Mod_checkOf_0 : decode b_Mod_checkOf 0 = .ok (.lconst 0, 1) := by decide +kernel
theorem d_Mod_checkOf_1 : decode b_Mod_checkOf 1 = .ok (.lstore_n 2, 1) := by decide +kernel
theorem d_Mod_checkOf_2 : decode b_Mod_checkOf 2 = .ok (.iconst 0, 1) := by decide +kernel
theorem d_Mod_checkOf_3 : decode b_Mod_checkOf 3 = .ok (.istore 4, 2) := by decide +kernel
theorem d_Mod_checkOf_5 : decode b_Mod_checkOf 5 = .ok (.iload 4, 2) := by decide +kernel
theorem d_Mod_checkOf_7 : decode b_Mod_checkOf 7 = .ok (.iconst 4, 1) := by decide +kernel
theorem d_Mod_checkOf_8 : decode b_Mod_checkOf 8 = .ok (.if_icmp .ge 23, 3) := by decide +kernel
theorem d_Mod_checkOf_11 : decode b_Mod_checkOf 11 = .ok (.lload_n 2, 1) := by decide +kernel
theorem d_Mod_checkOf_12 : decode b_Mod_checkOf 12 = .ok (.lload_n 0, 1) := by decide +kernel
theorem d_Mod_checkOf_13 : decode b_Mod_checkOf 13 = .ok (.bipush 8, 2) := by decide +kernel
theorem d_Mod_checkOf_15 : decode b_Mod_checkOf 15 = .ok (.iload 4, 2) := by decide +kernel
theorem d_Mod_checkOf_17 : decode b_Mod_checkOf 17 = .ok (.imul, 1) := by decide +kernel
theorem d_Mod_checkOf_18 : decode b_Mod_checkOf 18 = .ok (.lshr, 1) := by decide +kernel
theorem d_Mod_checkOf_19 : decode b_Mod_checkOf 19 = .ok (.ldc2_w 156, 3) := by decide +kernel
theorem d_Mod_checkOf_22 : decode b_Mod_checkOf 22 = .ok (.land, 1) := by decide +kernel
theorem d_Mod_checkOf_23 : decode b_Mod_checkOf 23 = .ok (.ladd, 1) := by decide +kernel
theorem d_Mod_checkOf_24 : decode b_Mod_checkOf 24 = .ok (.lstore_n 2, 1) := by decide +kernel
theorem d_Mod_checkOf_25 : decode b_Mod_checkOf 25 = .ok (.iinc 4 1, 3) := by decide +kernel
theorem d_Mod_checkOf_28 : decode b_Mod_checkOf 28 = .ok (.goto (-23), 3) := by decide +kernel
theorem d_Mod_checkOf_31 : decode b_Mod_checkOf 31 = .ok (.lload_n 2, 1) := by decide +kernel
theorem d_Mod_checkOf_32 : decode b_Mod_checkOf 32 = .ok (.ldc2_w 158, 3) := by decide +kernel
theorem d_Mod_checkOf_35 : decode b_Mod_checkOf 35 = .ok (.lmul, 1) := by decide +kernel
theorem d_Mod_checkOf_36 : decode b_Mod_checkOf 36 = .ok (.ldc2_w 75, 3) := by decide +kernel
theorem d_Mod_checkOf_39 : decode b_Mod_checkOf 39 = .ok (.ladd, 1) := by decide +kernel
theorem d_Mod_checkOf_40 : decode b_Mod_checkOf 40 = .ok (.ldc2_w 160, 3) := by decide +kernel
theorem d_Mod_checkOf_43 : decode b_Mod_checkOf 43 = .ok (.lrem, 1) := by decide +kernel
theorem d_Mod_checkOf_44 : decode b_Mod_checkOf 44 = .ok (.lreturn, 1) := by decide +kernel
theorem d_Mod_work_0 : decode b_Mod_work 0 = .ok (.iload_n 1, 1) := by decide +kernel
theorem d_Mod_work_1 : decode b_Mod_work 1 = .ok (.ifCond .ne 23, 3) := by decide +kernel
theorem d_Mod_work_4 : decode b_Mod_work 4 = .ok (.aload_n 0, 1) := by decide +kernel
theorem d_Mod_work_5 : decode b_Mod_work 5 = .ok (.dup, 1) := by decide +kernel
theorem d_Mod_work_6 : decode b_Mod_work 6 = .ok (.getfield 15, 3) := by decide +kernel
theorem d_Mod_work_9 : decode b_Mod_work 9 = .ok (.iload_n 2, 1) := by decide +kernel
theorem d_Mod_work_10 : decode b_Mod_work 10 = .ok (.i2d, 1) := by decide +kernel
theorem d_Mod_work_11 : decode b_Mod_work 11 = .ok (.ldc2_w 148, 3) := by decide +kernel
theorem d_Mod_work_14 : decode b_Mod_work 14 = .ok (.ddiv, 1) := by decide +kernel
theorem d_Mod_work_15 : decode b_Mod_work 15 = .ok (.dadd, 1) := by decide +kernel
theorem d_Mod_work_16 : decode b_Mod_work 16 = .ok (.putfield 15, 3) := by decide +kernel
theorem d_Mod_work_19 : decode b_Mod_work 19 = .ok (.aload_n 0, 1) := by decide +kernel
theorem d_Mod_work_20 : decode b_Mod_work 20 = .ok (.iconst 0, 1) := by decide +kernel
theorem d_Mod_work_21 : decode b_Mod_work 21 = .ok (.putfield 102, 3) := by decide +kernel
theorem d_Mod_work_24 : decode b_Mod_work 24 = .ok (.iload_n 1, 1) := by decide +kernel
theorem d_Mod_work_25 : decode b_Mod_work 25 = .ok (.iconst 1, 1) := by decide +kernel
theorem d_Mod_work_26 : decode b_Mod_work 26 = .ok (.if_icmp .ne 19, 3) := by decide +kernel
theorem d_Mod_work_29 : decode b_Mod_work 29 = .ok (.aload_n 0, 1) := by decide +kernel
theorem d_Mod_work_30 : decode b_Mod_work 30 = .ok (.getfield 23, 3) := by decide +kernel
theorem d_Mod_work_33 : decode b_Mod_work 33 = .ok (.iload_n 2, 1) := by decide +kernel
theorem d_Mod_work_34 : decode b_Mod_work 34 = .ok (.iconst 3, 1) := by decide +kernel
theorem d_Mod_work_35 : decode b_Mod_work 35 = .ok (.irem, 1) := by decide +kernel
theorem d_Mod_work_36 : decode b_Mod_work 36 = .ok (.iload_n 2, 1) := by decide +kernel
theorem d_Mod_work_37 : decode b_Mod_work 37 = .ok (.iconst 3, 1) := by decide +kernel
theorem d_Mod_work_38 : decode b_Mod_work 38 = .ok (.idiv, 1) := by decide +kernel
theorem d_Mod_work_39 : decode b_Mod_work 39 = .ok (.i2d, 1) := by decide +kernel
theorem d_Mod_work_40 : decode b_Mod_work 40 = .ok (.ldc2_w 93, 3) := by decide +kernel
theorem d_Mod_work_43 : decode b_Mod_work 43 = .ok (.ddiv, 1) := by decide +kernel
theorem d_Mod_work_44 : decode b_Mod_work 44 = .ok (.dastore, 1) := by decide +kernel
theorem d_Mod_work_45 : decode b_Mod_work 45 = .ok (.iload_n 1, 1) := by decide +kernel
theorem d_Mod_work_46 : decode b_Mod_work 46 = .ok (.iconst 2, 1) := by decide +kernel
theorem d_Mod_work_47 : decode b_Mod_work 47 = .ok (.if_icmp .ne 13, 3) := by decide +kernel
theorem d_Mod_work_50 : decode b_Mod_work 50 = .ok (.aload_n 0, 1) := by decide +kernel
theorem d_Mod_work_51 : decode b_Mod_work 51 = .ok (.dconst 0, 1) := by decide +kernel
theorem d_Mod_work_52 : decode b_Mod_work 52 = .ok (.putfield 124, 3) := by decide +kernel
theorem d_Mod_work_55 : decode b_Mod_work 55 = .ok (.aload_n 0, 1) := by decide +kernel
theorem d_Mod_work_56 : decode b_Mod_work 56 = .ok (.iconst 0, 1) := by decide +kernel
theorem d_Mod_work_57 : decode b_Mod_work 57 = .ok (.putfield 61, 3) := by decide +kernel
theorem d_Mod_work_60 : decode b_Mod_work 60 = .ok (.return_, 1) := by decide +kernel
