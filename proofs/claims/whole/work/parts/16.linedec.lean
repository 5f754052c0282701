theorem d_Line_giveUp_0 : decode b_Line_giveUp 0 = .ok (.aload_n 0, 1) := by decide +kernel
theorem d_Line_giveUp_1 : decode b_Line_giveUp 1 = .ok (.iconst 0, 1) := by decide +kernel
theorem d_Line_giveUp_2 : decode b_Line_giveUp 2 = .ok (.putfield 19, 3) := by decide +kernel
theorem d_Line_giveUp_5 : decode b_Line_giveUp 5 = .ok (.aload_n 0, 1) := by decide +kernel
theorem d_Line_giveUp_6 : decode b_Line_giveUp 6 = .ok (.iconst 0, 1) := by decide +kernel
theorem d_Line_giveUp_7 : decode b_Line_giveUp 7 = .ok (.putfield 23, 3) := by decide +kernel
theorem d_Line_giveUp_10 : decode b_Line_giveUp 10 = .ok (.return_, 1) := by decide +kernel
theorem d_Line_keepByte_0 : decode b_Line_keepByte 0 = .ok (.aload_n 0, 1) := by decide +kernel
theorem d_Line_keepByte_1 : decode b_Line_keepByte 1 = .ok (.getfield 26, 3) := by decide +kernel
theorem d_Line_keepByte_4 : decode b_Line_keepByte 4 = .ok (.bipush 12, 2) := by decide +kernel
theorem d_Line_keepByte_6 : decode b_Line_keepByte 6 = .ok (.if_icmp .ge 13, 3) := by decide +kernel
theorem d_Line_keepByte_9 : decode b_Line_keepByte 9 = .ok (.aload_n 0, 1) := by decide +kernel
theorem d_Line_keepByte_10 : decode b_Line_keepByte 10 = .ok (.getfield 9, 3) := by decide +kernel
theorem d_Line_keepByte_13 : decode b_Line_keepByte 13 = .ok (.aload_n 0, 1) := by decide +kernel
theorem d_Line_keepByte_14 : decode b_Line_keepByte 14 = .ok (.getfield 26, 3) := by decide +kernel
theorem d_Line_keepByte_17 : decode b_Line_keepByte 17 = .ok (.iload_n 1, 1) := by decide +kernel
theorem d_Line_keepByte_18 : decode b_Line_keepByte 18 = .ok (.iastore, 1) := by decide +kernel
theorem d_Line_keepByte_19 : decode b_Line_keepByte 19 = .ok (.aload_n 0, 1) := by decide +kernel
theorem d_Line_keepByte_20 : decode b_Line_keepByte 20 = .ok (.getfield 26, 3) := by decide +kernel
theorem d_Line_keepByte_23 : decode b_Line_keepByte 23 = .ok (.bipush 12, 2) := by decide +kernel
theorem d_Line_keepByte_25 : decode b_Line_keepByte 25 = .ok (.if_icmp .gt 13, 3) := by decide +kernel
theorem d_Line_keepByte_28 : decode b_Line_keepByte 28 = .ok (.aload_n 0, 1) := by decide +kernel
theorem d_Line_keepByte_29 : decode b_Line_keepByte 29 = .ok (.dup, 1) := by decide +kernel
theorem d_Line_keepByte_30 : decode b_Line_keepByte 30 = .ok (.getfield 26, 3) := by decide +kernel
theorem d_Line_keepByte_33 : decode b_Line_keepByte 33 = .ok (.iconst 1, 1) := by decide +kernel
theorem d_Line_keepByte_34 : decode b_Line_keepByte 34 = .ok (.iadd, 1) := by decide +kernel
theorem d_Line_keepByte_35 : decode b_Line_keepByte 35 = .ok (.putfield 26, 3) := by decide +kernel
theorem d_Line_keepByte_38 : decode b_Line_keepByte 38 = .ok (.return_, 1) := by decide +kernel
theorem d_Line_endsWith_0 : decode b_Line_endsWith 0 = .ok (.aload_n 0, 1) := by decide +kernel
theorem d_Line_endsWith_1 : decode b_Line_endsWith 1 = .ok (.getfield 19, 3) := by decide +kernel
theorem d_Line_endsWith_4 : decode b_Line_endsWith 4 = .ok (.ifCond .ne 25, 3) := by decide +kernel
theorem d_Line_endsWith_7 : decode b_Line_endsWith 7 = .ok (.aload_n 0, 1) := by decide +kernel
theorem d_Line_endsWith_8 : decode b_Line_endsWith 8 = .ok (.iload_n 1, 1) := by decide +kernel
theorem d_Line_endsWith_9 : decode b_Line_endsWith 9 = .ok (.bipush 126, 2) := by decide +kernel
theorem d_Line_endsWith_11 : decode b_Line_endsWith 11 = .ok (.if_icmp .ne 7, 3) := by decide +kernel
theorem d_Line_endsWith_14 : decode b_Line_endsWith 14 = .ok (.iconst 1, 1) := by decide +kernel
theorem d_Line_endsWith_15 : decode b_Line_endsWith 15 = .ok (.goto 4, 3) := by decide +kernel
theorem d_Line_endsWith_18 : decode b_Line_endsWith 18 = .ok (.iconst 0, 1) := by decide +kernel
theorem d_Line_endsWith_19 : decode b_Line_endsWith 19 = .ok (.putfield 19, 3) := by decide +kernel
theorem d_Line_endsWith_22 : decode b_Line_endsWith 22 = .ok (.aload_n 0, 1) := by decide +kernel
theorem d_Line_endsWith_23 : decode b_Line_endsWith 23 = .ok (.iconst 0, 1) := by decide +kernel
theorem d_Line_endsWith_24 : decode b_Line_endsWith 24 = .ok (.putfield 26, 3) := by decide +kernel
theorem d_Line_endsWith_27 : decode b_Line_endsWith 27 = .ok (.iconst 0, 1) := by decide +kernel
theorem d_Line_endsWith_28 : decode b_Line_endsWith 28 = .ok (.ireturn, 1) := by decide +kernel
theorem d_Line_endsWith_29 : decode b_Line_endsWith 29 = .ok (.aload_n 0, 1) := by decide +kernel
theorem d_Line_endsWith_30 : decode b_Line_endsWith 30 = .ok (.getfield 23, 3) := by decide +kernel
theorem d_Line_endsWith_33 : decode b_Line_endsWith 33 = .ok (.ifCond .eq 18, 3) := by decide +kernel
theorem d_Line_endsWith_36 : decode b_Line_endsWith 36 = .ok (.aload_n 0, 1) := by decide +kernel
theorem d_Line_endsWith_37 : decode b_Line_endsWith 37 = .ok (.iconst 0, 1) := by decide +kernel
theorem d_Line_endsWith_38 : decode b_Line_endsWith 38 = .ok (.putfield 23, 3) := by decide +kernel
theorem d_Line_endsWith_41 : decode b_Line_endsWith 41 = .ok (.aload_n 0, 1) := by decide +kernel
theorem d_Line_endsWith_42 : decode b_Line_endsWith 42 = .ok (.iload_n 1, 1) := by decide +kernel
theorem d_Line_endsWith_43 : decode b_Line_endsWith 43 = .ok (.bipush 32, 2) := by decide +kernel
theorem d_Line_endsWith_45 : decode b_Line_endsWith 45 = .ok (.ixor, 1) := by decide +kernel
theorem d_Line_endsWith_46 : decode b_Line_endsWith 46 = .ok (.invokevirtual 30, 3) := by decide +kernel
theorem d_Line_endsWith_49 : decode b_Line_endsWith 49 = .ok (.iconst 0, 1) := by decide +kernel
theorem d_Line_endsWith_50 : decode b_Line_endsWith 50 = .ok (.ireturn, 1) := by decide +kernel
theorem d_Line_endsWith_51 : decode b_Line_endsWith 51 = .ok (.iload_n 1, 1) := by decide +kernel
theorem d_Line_endsWith_52 : decode b_Line_endsWith 52 = .ok (.bipush 125, 2) := by decide +kernel
theorem d_Line_endsWith_54 : decode b_Line_endsWith 54 = .ok (.if_icmp .ne 10, 3) := by decide +kernel
theorem d_Line_endsWith_57 : decode b_Line_endsWith 57 = .ok (.aload_n 0, 1) := by decide +kernel
theorem d_Line_endsWith_58 : decode b_Line_endsWith 58 = .ok (.iconst 1, 1) := by decide +kernel
theorem d_Line_endsWith_59 : decode b_Line_endsWith 59 = .ok (.putfield 23, 3) := by decide +kernel
theorem d_Line_endsWith_62 : decode b_Line_endsWith 62 = .ok (.iconst 0, 1) := by decide +kernel
theorem d_Line_endsWith_63 : decode b_Line_endsWith 63 = .ok (.ireturn, 1) := by decide +kernel
theorem d_Line_endsWith_64 : decode b_Line_endsWith 64 = .ok (.iload_n 1, 1) := by decide +kernel
theorem d_Line_endsWith_65 : decode b_Line_endsWith 65 = .ok (.bipush 126, 2) := by decide +kernel
theorem d_Line_endsWith_67 : decode b_Line_endsWith 67 = .ok (.if_icmp .eq 10, 3) := by decide +kernel
theorem d_Line_endsWith_70 : decode b_Line_endsWith 70 = .ok (.aload_n 0, 1) := by decide +kernel
theorem d_Line_endsWith_71 : decode b_Line_endsWith 71 = .ok (.iload_n 1, 1) := by decide +kernel
theorem d_Line_endsWith_72 : decode b_Line_endsWith 72 = .ok (.invokevirtual 30, 3) := by decide +kernel
theorem d_Line_endsWith_75 : decode b_Line_endsWith 75 = .ok (.iconst 0, 1) := by decide +kernel
theorem d_Line_endsWith_76 : decode b_Line_endsWith 76 = .ok (.ireturn, 1) := by decide +kernel
theorem d_Line_endsWith_77 : decode b_Line_endsWith 77 = .ok (.aload_n 0, 1) := by decide +kernel
theorem d_Line_endsWith_78 : decode b_Line_endsWith 78 = .ok (.aload_n 0, 1) := by decide +kernel
theorem d_Line_endsWith_79 : decode b_Line_endsWith 79 = .ok (.getfield 26, 3) := by decide +kernel
theorem d_Line_endsWith_82 : decode b_Line_endsWith 82 = .ok (.ifCond .ne 7, 3) := by decide +kernel
theorem d_Line_endsWith_85 : decode b_Line_endsWith 85 = .ok (.iconst 1, 1) := by decide +kernel
theorem d_Line_endsWith_86 : decode b_Line_endsWith 86 = .ok (.goto 4, 3) := by decide +kernel
theorem d_Line_endsWith_89 : decode b_Line_endsWith 89 = .ok (.iconst 0, 1) := by decide +kernel
theorem d_Line_endsWith_90 : decode b_Line_endsWith 90 = .ok (.putfield 19, 3) := by decide +kernel
theorem d_Line_endsWith_93 : decode b_Line_endsWith 93 = .ok (.aload_n 0, 1) := by decide +kernel
theorem d_Line_endsWith_94 : decode b_Line_endsWith 94 = .ok (.getfield 19, 3) := by decide +kernel
theorem d_Line_endsWith_97 : decode b_Line_endsWith 97 = .ok (.ifCond .ne 7, 3) := by decide +kernel
theorem d_Line_endsWith_100 : decode b_Line_endsWith 100 = .ok (.iconst 1, 1) := by decide +kernel
theorem d_Line_endsWith_101 : decode b_Line_endsWith 101 = .ok (.goto 4, 3) := by decide +kernel
theorem d_Line_endsWith_104 : decode b_Line_endsWith 104 = .ok (.iconst 0, 1) := by decide +kernel
theorem d_Line_endsWith_105 : decode b_Line_endsWith 105 = .ok (.ireturn, 1) := by decide +kernel
theorem d_Line_isLengthRight_0 : decode b_Line_isLengthRight 0 = .ok (.aload_n 0, 1) := by decide +kernel
theorem d_Line_isLengthRight_1 : decode b_Line_isLengthRight 1 = .ok (.getfield 26, 3) := by decide +kernel
theorem d_Line_isLengthRight_4 : decode b_Line_isLengthRight 4 = .ok (.iconst 4, 1) := by decide +kernel
theorem d_Line_isLengthRight_5 : decode b_Line_isLengthRight 5 = .ok (.if_icmp .lt 16, 3) := by decide +kernel
theorem d_Line_isLengthRight_8 : decode b_Line_isLengthRight 8 = .ok (.aload_n 0, 1) := by decide +kernel
theorem d_Line_isLengthRight_9 : decode b_Line_isLengthRight 9 = .ok (.getfield 26, 3) := by decide +kernel
theorem d_Line_isLengthRight_12 : decode b_Line_isLengthRight 12 = .ok (.bipush 12, 2) := by decide +kernel
theorem d_Line_isLengthRight_14 : decode b_Line_isLengthRight 14 = .ok (.if_icmp .gt 7, 3) := by decide +kernel
theorem d_Line_isLengthRight_17 : decode b_Line_isLengthRight 17 = .ok (.iconst 1, 1) := by decide +kernel
theorem d_Line_isLengthRight_18 : decode b_Line_isLengthRight 18 = .ok (.goto 4, 3) := by decide +kernel
theorem d_Line_isLengthRight_21 : decode b_Line_isLengthRight 21 = .ok (.iconst 0, 1) := by decide +kernel
theorem d_Line_isLengthRight_22 : decode b_Line_isLengthRight 22 = .ok (.ireturn, 1) := by decide +kernel
theorem d_Line_fcsOf_0 : decode b_Line_fcsOf 0 = .ok (.ldc 38, 2) := by decide +kernel
theorem d_Line_fcsOf_2 : decode b_Line_fcsOf 2 = .ok (.istore_n 2, 1) := by decide +kernel
theorem d_Line_fcsOf_3 : decode b_Line_fcsOf 3 = .ok (.iconst 0, 1) := by decide +kernel
theorem d_Line_fcsOf_4 : decode b_Line_fcsOf 4 = .ok (.istore_n 3, 1) := by decide +kernel
theorem d_Line_fcsOf_5 : decode b_Line_fcsOf 5 = .ok (.iload_n 3, 1) := by decide +kernel
theorem d_Line_fcsOf_6 : decode b_Line_fcsOf 6 = .ok (.iload_n 1, 1) := by decide +kernel
theorem d_Line_fcsOf_7 : decode b_Line_fcsOf 7 = .ok (.if_icmp .ge 51, 3) := by decide +kernel
theorem d_Line_fcsOf_10 : decode b_Line_fcsOf 10 = .ok (.iload_n 2, 1) := by decide +kernel
theorem d_Line_fcsOf_11 : decode b_Line_fcsOf 11 = .ok (.aload_n 0, 1) := by decide +kernel
theorem d_Line_fcsOf_12 : decode b_Line_fcsOf 12 = .ok (.iload_n 3, 1) := by decide +kernel
theorem d_Line_fcsOf_13 : decode b_Line_fcsOf 13 = .ok (.iaload, 1) := by decide +kernel
theorem d_Line_fcsOf_14 : decode b_Line_fcsOf 14 = .ok (.ixor, 1) := by decide +kernel
theorem d_Line_fcsOf_15 : decode b_Line_fcsOf 15 = .ok (.istore_n 2, 1) := by decide +kernel
theorem d_Line_fcsOf_16 : decode b_Line_fcsOf 16 = .ok (.iconst 0, 1) := by decide +kernel
theorem d_Line_fcsOf_17 : decode b_Line_fcsOf 17 = .ok (.istore 4, 2) := by decide +kernel
theorem d_Line_fcsOf_19 : decode b_Line_fcsOf 19 = .ok (.iload 4, 2) := by decide +kernel
theorem d_Line_fcsOf_21 : decode b_Line_fcsOf 21 = .ok (.bipush 8, 2) := by decide +kernel
theorem d_Line_fcsOf_23 : decode b_Line_fcsOf 23 = .ok (.if_icmp .ge 29, 3) := by decide +kernel
theorem d_Line_fcsOf_26 : decode b_Line_fcsOf 26 = .ok (.iload_n 2, 1) := by decide +kernel
theorem d_Line_fcsOf_27 : decode b_Line_fcsOf 27 = .ok (.iconst 2, 1) := by decide +kernel
theorem d_Line_fcsOf_28 : decode b_Line_fcsOf 28 = .ok (.irem, 1) := by decide +kernel
theorem d_Line_fcsOf_29 : decode b_Line_fcsOf 29 = .ok (.iconst 1, 1) := by decide +kernel
theorem d_Line_fcsOf_30 : decode b_Line_fcsOf 30 = .ok (.if_icmp .ne 12, 3) := by decide +kernel
theorem d_Line_fcsOf_33 : decode b_Line_fcsOf 33 = .ok (.iload_n 2, 1) := by decide +kernel
theorem d_Line_fcsOf_34 : decode b_Line_fcsOf 34 = .ok (.iconst 2, 1) := by decide +kernel
theorem d_Line_fcsOf_35 : decode b_Line_fcsOf 35 = .ok (.idiv, 1) := by decide +kernel
theorem d_Line_fcsOf_36 : decode b_Line_fcsOf 36 = .ok (.ldc 39, 2) := by decide +kernel
theorem d_Line_fcsOf_38 : decode b_Line_fcsOf 38 = .ok (.ixor, 1) := by decide +kernel
theorem d_Line_fcsOf_39 : decode b_Line_fcsOf 39 = .ok (.goto 6, 3) := by decide +kernel
theorem d_Line_fcsOf_42 : decode b_Line_fcsOf 42 = .ok (.iload_n 2, 1) := by decide +kernel
theorem d_Line_fcsOf_43 : decode b_Line_fcsOf 43 = .ok (.iconst 2, 1) := by decide +kernel
theorem d_Line_fcsOf_44 : decode b_Line_fcsOf 44 = .ok (.idiv, 1) := by decide +kernel
theorem d_Line_fcsOf_45 : decode b_Line_fcsOf 45 = .ok (.istore_n 2, 1) := by decide +kernel
theorem d_Line_fcsOf_46 : decode b_Line_fcsOf 46 = .ok (.iinc 4 1, 3) := by decide +kernel
theorem d_Line_fcsOf_49 : decode b_Line_fcsOf 49 = .ok (.goto (-30), 3) := by decide +kernel
theorem d_Line_fcsOf_52 : decode b_Line_fcsOf 52 = .ok (.iinc 3 1, 3) := by decide +kernel
theorem d_Line_fcsOf_55 : decode b_Line_fcsOf 55 = .ok (.goto (-50), 3) := by decide +kernel
theorem d_Line_fcsOf_58 : decode b_Line_fcsOf 58 = .ok (.ldc 38, 2) := by decide +kernel
theorem d_Line_fcsOf_60 : decode b_Line_fcsOf 60 = .ok (.iload_n 2, 1) := by decide +kernel
theorem d_Line_fcsOf_61 : decode b_Line_fcsOf 61 = .ok (.isub, 1) := by decide +kernel
theorem d_Line_fcsOf_62 : decode b_Line_fcsOf 62 = .ok (.ireturn, 1) := by decide +kernel
theorem d_Line_isFcsRight_0 : decode b_Line_isFcsRight 0 = .ok (.aload_n 0, 1) := by decide +kernel
theorem d_Line_isFcsRight_1 : decode b_Line_isFcsRight 1 = .ok (.getfield 9, 3) := by decide +kernel
theorem d_Line_isFcsRight_4 : decode b_Line_isFcsRight 4 = .ok (.aload_n 0, 1) := by decide +kernel
theorem d_Line_isFcsRight_5 : decode b_Line_isFcsRight 5 = .ok (.getfield 26, 3) := by decide +kernel
theorem d_Line_isFcsRight_8 : decode b_Line_isFcsRight 8 = .ok (.iconst 2, 1) := by decide +kernel
theorem d_Line_isFcsRight_9 : decode b_Line_isFcsRight 9 = .ok (.isub, 1) := by decide +kernel
theorem d_Line_isFcsRight_10 : decode b_Line_isFcsRight 10 = .ok (.invokestatic 34, 3) := by decide +kernel
theorem d_Line_isFcsRight_13 : decode b_Line_isFcsRight 13 = .ok (.istore_n 1, 1) := by decide +kernel
theorem d_Line_isFcsRight_14 : decode b_Line_isFcsRight 14 = .ok (.aload_n 0, 1) := by decide +kernel
theorem d_Line_isFcsRight_15 : decode b_Line_isFcsRight 15 = .ok (.getfield 9, 3) := by decide +kernel
theorem d_Line_isFcsRight_18 : decode b_Line_isFcsRight 18 = .ok (.aload_n 0, 1) := by decide +kernel
theorem d_Line_isFcsRight_19 : decode b_Line_isFcsRight 19 = .ok (.getfield 26, 3) := by decide +kernel
theorem d_Line_isFcsRight_22 : decode b_Line_isFcsRight 22 = .ok (.iconst 2, 1) := by decide +kernel
theorem d_Line_isFcsRight_23 : decode b_Line_isFcsRight 23 = .ok (.isub, 1) := by decide +kernel
theorem d_Line_isFcsRight_24 : decode b_Line_isFcsRight 24 = .ok (.iaload, 1) := by decide +kernel
theorem d_Line_isFcsRight_25 : decode b_Line_isFcsRight 25 = .ok (.iload_n 1, 1) := by decide +kernel
theorem d_Line_isFcsRight_26 : decode b_Line_isFcsRight 26 = .ok (.sipush 256, 3) := by decide +kernel
theorem d_Line_isFcsRight_29 : decode b_Line_isFcsRight 29 = .ok (.irem, 1) := by decide +kernel
theorem d_Line_isFcsRight_30 : decode b_Line_isFcsRight 30 = .ok (.if_icmp .ne 26, 3) := by decide +kernel
theorem d_Line_isFcsRight_33 : decode b_Line_isFcsRight 33 = .ok (.aload_n 0, 1) := by decide +kernel
theorem d_Line_isFcsRight_34 : decode b_Line_isFcsRight 34 = .ok (.getfield 9, 3) := by decide +kernel
theorem d_Line_isFcsRight_37 : decode b_Line_isFcsRight 37 = .ok (.aload_n 0, 1) := by decide +kernel
theorem d_Line_isFcsRight_38 : decode b_Line_isFcsRight 38 = .ok (.getfield 26, 3) := by decide +kernel
theorem d_Line_isFcsRight_41 : decode b_Line_isFcsRight 41 = .ok (.iconst 1, 1) := by decide +kernel
theorem d_Line_isFcsRight_42 : decode b_Line_isFcsRight 42 = .ok (.isub, 1) := by decide +kernel
theorem d_Line_isFcsRight_43 : decode b_Line_isFcsRight 43 = .ok (.iaload, 1) := by decide +kernel
theorem d_Line_isFcsRight_44 : decode b_Line_isFcsRight 44 = .ok (.iload_n 1, 1) := by decide +kernel
theorem d_Line_isFcsRight_45 : decode b_Line_isFcsRight 45 = .ok (.sipush 256, 3) := by decide +kernel
theorem d_Line_isFcsRight_48 : decode b_Line_isFcsRight 48 = .ok (.idiv, 1) := by decide +kernel
theorem d_Line_isFcsRight_49 : decode b_Line_isFcsRight 49 = .ok (.if_icmp .ne 7, 3) := by decide +kernel
theorem d_Line_isFcsRight_52 : decode b_Line_isFcsRight 52 = .ok (.iconst 1, 1) := by decide +kernel
theorem d_Line_isFcsRight_53 : decode b_Line_isFcsRight 53 = .ok (.goto 4, 3) := by decide +kernel
theorem d_Line_isFcsRight_56 : decode b_Line_isFcsRight 56 = .ok (.iconst 0, 1) := by decide +kernel
theorem d_Line_isFcsRight_57 : decode b_Line_isFcsRight 57 = .ok (.ireturn, 1) := by decide +kernel
theorem d_Line_command_0 : decode b_Line_command 0 = .ok (.aload_n 0, 1) := by decide +kernel
theorem d_Line_command_1 : decode b_Line_command 1 = .ok (.getfield 9, 3) := by decide +kernel
theorem d_Line_command_4 : decode b_Line_command 4 = .ok (.iconst 0, 1) := by decide +kernel
theorem d_Line_command_5 : decode b_Line_command 5 = .ok (.iaload, 1) := by decide +kernel
theorem d_Line_command_6 : decode b_Line_command 6 = .ok (.ireturn, 1) := by decide +kernel
theorem d_Line_argument_0 : decode b_Line_argument 0 = .ok (.aload_n 0, 1) := by decide +kernel
theorem d_Line_argument_1 : decode b_Line_argument 1 = .ok (.getfield 9, 3) := by decide +kernel
theorem d_Line_argument_4 : decode b_Line_argument 4 = .ok (.iconst 1, 1) := by decide +kernel
theorem d_Line_argument_5 : decode b_Line_argument 5 = .ok (.iaload, 1) := by decide +kernel
theorem d_Line_argument_6 : decode b_Line_argument 6 = .ok (.ireturn, 1) := by decide +kernel
theorem d_Line_frameAnswer_0 : decode b_Line_frameAnswer 0 = .ok (.aload_n 0, 1) := by decide +kernel
theorem d_Line_frameAnswer_1 : decode b_Line_frameAnswer 1 = .ok (.getfield 16, 3) := by decide +kernel
theorem d_Line_frameAnswer_4 : decode b_Line_frameAnswer 4 = .ok (.iconst 0, 1) := by decide +kernel
theorem d_Line_frameAnswer_5 : decode b_Line_frameAnswer 5 = .ok (.bipush 126, 2) := by decide +kernel
theorem d_Line_frameAnswer_7 : decode b_Line_frameAnswer 7 = .ok (.iastore, 1) := by decide +kernel
theorem d_Line_frameAnswer_8 : decode b_Line_frameAnswer 8 = .ok (.iconst 1, 1) := by decide +kernel
theorem d_Line_frameAnswer_9 : decode b_Line_frameAnswer 9 = .ok (.istore_n 1, 1) := by decide +kernel
theorem d_Line_frameAnswer_10 : decode b_Line_frameAnswer 10 = .ok (.iconst 0, 1) := by decide +kernel
theorem d_Line_frameAnswer_11 : decode b_Line_frameAnswer 11 = .ok (.istore_n 2, 1) := by decide +kernel
theorem d_Line_frameAnswer_12 : decode b_Line_frameAnswer 12 = .ok (.iload_n 2, 1) := by decide +kernel
theorem d_Line_frameAnswer_13 : decode b_Line_frameAnswer 13 = .ok (.aload_n 0, 1) := by decide +kernel
theorem d_Line_frameAnswer_14 : decode b_Line_frameAnswer 14 = .ok (.getfield 13, 3) := by decide +kernel
theorem d_Line_frameAnswer_17 : decode b_Line_frameAnswer 17 = .ok (.arraylength, 1) := by decide +kernel
theorem d_Line_frameAnswer_18 : decode b_Line_frameAnswer 18 = .ok (.if_icmp .ge 54, 3) := by decide +kernel
theorem d_Line_frameAnswer_21 : decode b_Line_frameAnswer 21 = .ok (.aload_n 0, 1) := by decide +kernel
theorem d_Line_frameAnswer_22 : decode b_Line_frameAnswer 22 = .ok (.getfield 13, 3) := by decide +kernel
theorem d_Line_frameAnswer_25 : decode b_Line_frameAnswer 25 = .ok (.iload_n 2, 1) := by decide +kernel
theorem d_Line_frameAnswer_26 : decode b_Line_frameAnswer 26 = .ok (.iaload, 1) := by decide +kernel
theorem d_Line_frameAnswer_27 : decode b_Line_frameAnswer 27 = .ok (.istore_n 3, 1) := by decide +kernel
theorem d_Line_frameAnswer_28 : decode b_Line_frameAnswer 28 = .ok (.iload_n 3, 1) := by decide +kernel
theorem d_Line_frameAnswer_29 : decode b_Line_frameAnswer 29 = .ok (.bipush 126, 2) := by decide +kernel
theorem d_Line_frameAnswer_31 : decode b_Line_frameAnswer 31 = .ok (.if_icmp .eq 9, 3) := by decide +kernel
theorem d_Line_frameAnswer_34 : decode b_Line_frameAnswer 34 = .ok (.iload_n 3, 1) := by decide +kernel
theorem d_Line_frameAnswer_35 : decode b_Line_frameAnswer 35 = .ok (.bipush 125, 2) := by decide +kernel
theorem d_Line_frameAnswer_37 : decode b_Line_frameAnswer 37 = .ok (.if_icmp .ne 19, 3) := by decide +kernel
theorem d_Line_frameAnswer_40 : decode b_Line_frameAnswer 40 = .ok (.aload_n 0, 1) := by decide +kernel
theorem d_Line_frameAnswer_41 : decode b_Line_frameAnswer 41 = .ok (.getfield 16, 3) := by decide +kernel
theorem d_Line_frameAnswer_44 : decode b_Line_frameAnswer 44 = .ok (.iload_n 1, 1) := by decide +kernel
theorem d_Line_frameAnswer_45 : decode b_Line_frameAnswer 45 = .ok (.bipush 125, 2) := by decide +kernel
theorem d_Line_frameAnswer_47 : decode b_Line_frameAnswer 47 = .ok (.iastore, 1) := by decide +kernel
theorem d_Line_frameAnswer_48 : decode b_Line_frameAnswer 48 = .ok (.iinc 1 1, 3) := by decide +kernel
theorem d_Line_frameAnswer_51 : decode b_Line_frameAnswer 51 = .ok (.iload_n 3, 1) := by decide +kernel
theorem d_Line_frameAnswer_52 : decode b_Line_frameAnswer 52 = .ok (.bipush 32, 2) := by decide +kernel
theorem d_Line_frameAnswer_54 : decode b_Line_frameAnswer 54 = .ok (.ixor, 1) := by decide +kernel
theorem d_Line_frameAnswer_55 : decode b_Line_frameAnswer 55 = .ok (.istore_n 3, 1) := by decide +kernel
theorem d_Line_frameAnswer_56 : decode b_Line_frameAnswer 56 = .ok (.aload_n 0, 1) := by decide +kernel
theorem d_Line_frameAnswer_57 : decode b_Line_frameAnswer 57 = .ok (.getfield 16, 3) := by decide +kernel
theorem d_Line_frameAnswer_60 : decode b_Line_frameAnswer 60 = .ok (.iload_n 1, 1) := by decide +kernel
theorem d_Line_frameAnswer_61 : decode b_Line_frameAnswer 61 = .ok (.iload_n 3, 1) := by decide +kernel
theorem d_Line_frameAnswer_62 : decode b_Line_frameAnswer 62 = .ok (.iastore, 1) := by decide +kernel
theorem d_Line_frameAnswer_63 : decode b_Line_frameAnswer 63 = .ok (.iinc 1 1, 3) := by decide +kernel
theorem d_Line_frameAnswer_66 : decode b_Line_frameAnswer 66 = .ok (.iinc 2 1, 3) := by decide +kernel
theorem d_Line_frameAnswer_69 : decode b_Line_frameAnswer 69 = .ok (.goto (-57), 3) := by decide +kernel
theorem d_Line_frameAnswer_72 : decode b_Line_frameAnswer 72 = .ok (.aload_n 0, 1) := by decide +kernel
theorem d_Line_frameAnswer_73 : decode b_Line_frameAnswer 73 = .ok (.getfield 16, 3) := by decide +kernel
theorem d_Line_frameAnswer_76 : decode b_Line_frameAnswer 76 = .ok (.iload_n 1, 1) := by decide +kernel
theorem d_Line_frameAnswer_77 : decode b_Line_frameAnswer 77 = .ok (.bipush 126, 2) := by decide +kernel
theorem d_Line_frameAnswer_79 : decode b_Line_frameAnswer 79 = .ok (.iastore, 1) := by decide +kernel
theorem d_Line_frameAnswer_80 : decode b_Line_frameAnswer 80 = .ok (.aload_n 0, 1) := by decide +kernel
theorem d_Line_frameAnswer_81 : decode b_Line_frameAnswer 81 = .ok (.iload_n 1, 1) := by decide +kernel
theorem d_Line_frameAnswer_82 : decode b_Line_frameAnswer 82 = .ok (.iconst 1, 1) := by decide +kernel
theorem d_Line_frameAnswer_83 : decode b_Line_frameAnswer 83 = .ok (.iadd, 1) := by decide +kernel
theorem d_Line_frameAnswer_84 : decode b_Line_frameAnswer 84 = .ok (.putfield 43, 3) := by decide +kernel
theorem d_Line_frameAnswer_87 : decode b_Line_frameAnswer 87 = .ok (.return_, 1) := by decide +kernel
theorem d_Line_answer_0 : decode b_Line_answer 0 = .ok (.aload_n 0, 1) := by decide +kernel
theorem d_Line_answer_1 : decode b_Line_answer 1 = .ok (.getfield 13, 3) := by decide +kernel
theorem d_Line_answer_4 : decode b_Line_answer 4 = .ok (.iconst 0, 1) := by decide +kernel
theorem d_Line_answer_5 : decode b_Line_answer 5 = .ok (.iload_n 1, 1) := by decide +kernel
theorem d_Line_answer_6 : decode b_Line_answer 6 = .ok (.sipush 128, 3) := by decide +kernel
theorem d_Line_answer_9 : decode b_Line_answer 9 = .ok (.iadd, 1) := by decide +kernel
theorem d_Line_answer_10 : decode b_Line_answer 10 = .ok (.iastore, 1) := by decide +kernel
theorem d_Line_answer_11 : decode b_Line_answer 11 = .ok (.iconst 1, 1) := by decide +kernel
theorem d_Line_answer_12 : decode b_Line_answer 12 = .ok (.istore 4, 2) := by decide +kernel
theorem d_Line_answer_14 : decode b_Line_answer 14 = .ok (.iload 4, 2) := by decide +kernel
theorem d_Line_answer_16 : decode b_Line_answer 16 = .ok (.bipush 8, 2) := by decide +kernel
theorem d_Line_answer_18 : decode b_Line_answer 18 = .ok (.if_icmp .gt 31, 3) := by decide +kernel
theorem d_Line_answer_21 : decode b_Line_answer 21 = .ok (.aload_n 0, 1) := by decide +kernel
theorem d_Line_answer_22 : decode b_Line_answer 22 = .ok (.getfield 13, 3) := by decide +kernel
theorem d_Line_answer_25 : decode b_Line_answer 25 = .ok (.iload 4, 2) := by decide +kernel
theorem d_Line_answer_27 : decode b_Line_answer 27 = .ok (.lload_n 2, 1) := by decide +kernel
theorem d_Line_answer_28 : decode b_Line_answer 28 = .ok (.bipush 8, 2) := by decide +kernel
theorem d_Line_answer_30 : decode b_Line_answer 30 = .ok (.bipush 8, 2) := by decide +kernel
theorem d_Line_answer_32 : decode b_Line_answer 32 = .ok (.iload 4, 2) := by decide +kernel
theorem d_Line_answer_34 : decode b_Line_answer 34 = .ok (.isub, 1) := by decide +kernel
theorem d_Line_answer_35 : decode b_Line_answer 35 = .ok (.imul, 1) := by decide +kernel
theorem d_Line_answer_36 : decode b_Line_answer 36 = .ok (.lshr, 1) := by decide +kernel
theorem d_Line_answer_37 : decode b_Line_answer 37 = .ok (.l2i, 1) := by decide +kernel
theorem d_Line_answer_38 : decode b_Line_answer 38 = .ok (.sipush 255, 3) := by decide +kernel
theorem d_Line_answer_41 : decode b_Line_answer 41 = .ok (.iand, 1) := by decide +kernel
theorem d_Line_answer_42 : decode b_Line_answer 42 = .ok (.iastore, 1) := by decide +kernel
theorem d_Line_answer_43 : decode b_Line_answer 43 = .ok (.iinc 4 1, 3) := by decide +kernel
theorem d_Line_answer_46 : decode b_Line_answer 46 = .ok (.goto (-32), 3) := by decide +kernel
theorem d_Line_answer_49 : decode b_Line_answer 49 = .ok (.aload_n 0, 1) := by decide +kernel
theorem d_Line_answer_50 : decode b_Line_answer 50 = .ok (.getfield 13, 3) := by decide +kernel
theorem d_Line_answer_53 : decode b_Line_answer 53 = .ok (.bipush 9, 2) := by decide +kernel
theorem d_Line_answer_55 : decode b_Line_answer 55 = .ok (.invokestatic 34, 3) := by decide +kernel
theorem d_Line_answer_58 : decode b_Line_answer 58 = .ok (.istore 4, 2) := by decide +kernel
theorem d_Line_answer_60 : decode b_Line_answer 60 = .ok (.aload_n 0, 1) := by decide +kernel
theorem d_Line_answer_61 : decode b_Line_answer 61 = .ok (.getfield 13, 3) := by decide +kernel
theorem d_Line_answer_64 : decode b_Line_answer 64 = .ok (.bipush 9, 2) := by decide +kernel
theorem d_Line_answer_66 : decode b_Line_answer 66 = .ok (.iload 4, 2) := by decide +kernel
theorem d_Line_answer_68 : decode b_Line_answer 68 = .ok (.sipush 256, 3) := by decide +kernel
theorem d_Line_answer_71 : decode b_Line_answer 71 = .ok (.irem, 1) := by decide +kernel
theorem d_Line_answer_72 : decode b_Line_answer 72 = .ok (.iastore, 1) := by decide +kernel
theorem d_Line_answer_73 : decode b_Line_answer 73 = .ok (.aload_n 0, 1) := by decide +kernel
theorem d_Line_answer_74 : decode b_Line_answer 74 = .ok (.getfield 13, 3) := by decide +kernel
theorem d_Line_answer_77 : decode b_Line_answer 77 = .ok (.bipush 10, 2) := by decide +kernel
theorem d_Line_answer_79 : decode b_Line_answer 79 = .ok (.iload 4, 2) := by decide +kernel
theorem d_Line_answer_81 : decode b_Line_answer 81 = .ok (.sipush 256, 3) := by decide +kernel
theorem d_Line_answer_84 : decode b_Line_answer 84 = .ok (.idiv, 1) := by decide +kernel
theorem d_Line_answer_85 : decode b_Line_answer 85 = .ok (.iastore, 1) := by decide +kernel
theorem d_Line_answer_86 : decode b_Line_answer 86 = .ok (.aload_n 0, 1) := by decide +kernel
theorem d_Line_answer_87 : decode b_Line_answer 87 = .ok (.invokevirtual 40, 3) := by decide +kernel
theorem d_Line_answer_90 : decode b_Line_answer 90 = .ok (.aload_n 0, 1) := by decide +kernel
theorem d_Line_answer_91 : decode b_Line_answer 91 = .ok (.getfield 43, 3) := by decide +kernel
theorem d_Line_answer_94 : decode b_Line_answer 94 = .ok (.ireturn, 1) := by decide +kernel
