theorem d_Box_note_0 : decode b_Box_note 0 = .ok (.aload_n 0, 1) := by decide +kernel
theorem d_Box_note_1 : decode b_Box_note 1 = .ok (.getfield 30, 3) := by decide +kernel
theorem d_Box_note_4 : decode b_Box_note 4 = .ok (.iload_n 1, 1) := by decide +kernel
theorem d_Box_note_5 : decode b_Box_note 5 = .ok (.aload_n 0, 1) := by decide +kernel
theorem d_Box_note_6 : decode b_Box_note 6 = .ok (.getfield 23, 3) := by decide +kernel
theorem d_Box_note_9 : decode b_Box_note 9 = .ok (.getfield 228, 3) := by decide +kernel
theorem d_Box_note_12 : decode b_Box_note 12 = .ok (.invokevirtual 238, 3) := by decide +kernel
theorem d_Box_note_15 : decode b_Box_note 15 = .ok (.return_, 1) := by decide +kernel
theorem d_Box_keep_0 : decode b_Box_keep 0 = .ok (.aload_n 0, 1) := by decide +kernel
theorem d_Box_keep_1 : decode b_Box_keep 1 = .ok (.getfield 37, 3) := by decide +kernel
theorem d_Box_keep_4 : decode b_Box_keep 4 = .ok (.invokevirtual 262, 3) := by decide +kernel
theorem d_Box_keep_7 : decode b_Box_keep 7 = .ok (.lstore_n 1, 1) := by decide +kernel
theorem d_Box_keep_8 : decode b_Box_keep 8 = .ok (.aload_n 0, 1) := by decide +kernel
theorem d_Box_keep_9 : decode b_Box_keep 9 = .ok (.getfield 37, 3) := by decide +kernel
theorem d_Box_keep_12 : decode b_Box_keep 12 = .ok (.invokevirtual 266, 3) := by decide +kernel
theorem d_Box_keep_15 : decode b_Box_keep 15 = .ok (.istore_n 3, 1) := by decide +kernel
theorem d_Box_keep_16 : decode b_Box_keep 16 = .ok (.iload_n 3, 1) := by decide +kernel
theorem d_Box_keep_17 : decode b_Box_keep 17 = .ok (.iconst (-1), 1) := by decide +kernel
theorem d_Box_keep_18 : decode b_Box_keep 18 = .ok (.if_icmp .ne 5, 3) := by decide +kernel
theorem d_Box_keep_21 : decode b_Box_keep 21 = .ok (.iconst 0, 1) := by decide +kernel
theorem d_Box_keep_22 : decode b_Box_keep 22 = .ok (.ireturn, 1) := by decide +kernel
theorem d_Box_keep_23 : decode b_Box_keep 23 = .ok (.aload_n 0, 1) := by decide +kernel
theorem d_Box_keep_24 : decode b_Box_keep 24 = .ok (.getfield 23, 3) := by decide +kernel
theorem d_Box_keep_27 : decode b_Box_keep 27 = .ok (.aload_n 0, 1) := by decide +kernel
theorem d_Box_keep_28 : decode b_Box_keep 28 = .ok (.getfield 37, 3) := by decide +kernel
theorem d_Box_keep_31 : decode b_Box_keep 31 = .ok (.getfield 269, 3) := by decide +kernel
theorem d_Box_keep_34 : decode b_Box_keep 34 = .ok (.invokevirtual 273, 3) := by decide +kernel
theorem d_Box_keep_37 : decode b_Box_keep 37 = .ok (.aload_n 0, 1) := by decide +kernel
theorem d_Box_keep_38 : decode b_Box_keep 38 = .ok (.getfield 37, 3) := by decide +kernel
theorem d_Box_keep_41 : decode b_Box_keep 41 = .ok (.iload_n 3, 1) := by decide +kernel
theorem d_Box_keep_42 : decode b_Box_keep 42 = .ok (.lload_n 1, 1) := by decide +kernel
theorem d_Box_keep_43 : decode b_Box_keep 43 = .ok (.invokevirtual 277, 3) := by decide +kernel
theorem d_Box_keep_46 : decode b_Box_keep 46 = .ok (.ifCond .ne 10, 3) := by decide +kernel
theorem d_Box_keep_49 : decode b_Box_keep 49 = .ok (.aload_n 0, 1) := by decide +kernel
theorem d_Box_keep_50 : decode b_Box_keep 50 = .ok (.iconst 0, 1) := by decide +kernel
theorem d_Box_keep_51 : decode b_Box_keep 51 = .ok (.putfield 48, 3) := by decide +kernel
theorem d_Box_keep_54 : decode b_Box_keep 54 = .ok (.iconst (-1), 1) := by decide +kernel
theorem d_Box_keep_55 : decode b_Box_keep 55 = .ok (.ireturn, 1) := by decide +kernel
theorem d_Box_keep_56 : decode b_Box_keep 56 = .ok (.lload_n 1, 1) := by decide +kernel
theorem d_Box_keep_57 : decode b_Box_keep 57 = .ok (.l2i, 1) := by decide +kernel
theorem d_Box_keep_58 : decode b_Box_keep 58 = .ok (.ireturn, 1) := by decide +kernel
theorem d_Box_passMinute_0 : decode b_Box_passMinute 0 = .ok (.aload_n 0, 1) := by decide +kernel
theorem d_Box_passMinute_1 : decode b_Box_passMinute 1 = .ok (.getfield 16, 3) := by decide +kernel
theorem d_Box_passMinute_4 : decode b_Box_passMinute 4 = .ok (.aload_n 0, 1) := by decide +kernel
theorem d_Box_passMinute_5 : decode b_Box_passMinute 5 = .ok (.getfield 23, 3) := by decide +kernel
theorem d_Box_passMinute_8 : decode b_Box_passMinute 8 = .ok (.getfield 228, 3) := by decide +kernel
theorem d_Box_passMinute_11 : decode b_Box_passMinute 11 = .ok (.invokevirtual 231, 3) := by decide +kernel
theorem d_Box_passMinute_14 : decode b_Box_passMinute 14 = .ok (.istore 5, 2) := by decide +kernel
theorem d_Box_passMinute_16 : decode b_Box_passMinute 16 = .ok (.aload_n 0, 1) := by decide +kernel
theorem d_Box_passMinute_17 : decode b_Box_passMinute 17 = .ok (.getfield 23, 3) := by decide +kernel
theorem d_Box_passMinute_20 : decode b_Box_passMinute 20 = .ok (.aload_n 0, 1) := by decide +kernel
theorem d_Box_passMinute_21 : decode b_Box_passMinute 21 = .ok (.getfield 23, 3) := by decide +kernel
theorem d_Box_passMinute_24 : decode b_Box_passMinute 24 = .ok (.getfield 81, 3) := by decide +kernel
theorem d_Box_passMinute_27 : decode b_Box_passMinute 27 = .ok (.ifCond .eq 7, 3) := by decide +kernel
theorem d_Box_passMinute_30 : decode b_Box_passMinute 30 = .ok (.dconst 0, 1) := by decide +kernel
theorem d_Box_passMinute_31 : decode b_Box_passMinute 31 = .ok (.goto 6, 3) := by decide +kernel
theorem d_Box_passMinute_34 : decode b_Box_passMinute 34 = .ok (.dload_n 1, 1) := by decide +kernel
theorem d_Box_passMinute_35 : decode b_Box_passMinute 35 = .ok (.dload_n 3, 1) := by decide +kernel
theorem d_Box_passMinute_36 : decode b_Box_passMinute 36 = .ok (.dmul, 1) := by decide +kernel
theorem d_Box_passMinute_37 : decode b_Box_passMinute 37 = .ok (.iload 5, 2) := by decide +kernel
theorem d_Box_passMinute_39 : decode b_Box_passMinute 39 = .ok (.aload_n 0, 1) := by decide +kernel
theorem d_Box_passMinute_40 : decode b_Box_passMinute 40 = .ok (.getfield 9, 3) := by decide +kernel
theorem d_Box_passMinute_43 : decode b_Box_passMinute 43 = .ok (.iload 5, 2) := by decide +kernel
theorem d_Box_passMinute_45 : decode b_Box_passMinute 45 = .ok (.daload, 1) := by decide +kernel
theorem d_Box_passMinute_46 : decode b_Box_passMinute 46 = .ok (.invokevirtual 241, 3) := by decide +kernel
theorem d_Box_passMinute_49 : decode b_Box_passMinute 49 = .ok (.aload_n 0, 1) := by decide +kernel
theorem d_Box_passMinute_50 : decode b_Box_passMinute 50 = .ok (.getfield 23, 3) := by decide +kernel
theorem d_Box_passMinute_53 : decode b_Box_passMinute 53 = .ok (.getfield 228, 3) := by decide +kernel
theorem d_Box_passMinute_56 : decode b_Box_passMinute 56 = .ok (.sipush 1440, 3) := by decide +kernel
theorem d_Box_passMinute_59 : decode b_Box_passMinute 59 = .ok (.irem, 1) := by decide +kernel
theorem d_Box_passMinute_60 : decode b_Box_passMinute 60 = .ok (.istore 6, 2) := by decide +kernel
theorem d_Box_passMinute_62 : decode b_Box_passMinute 62 = .ok (.aload_n 0, 1) := by decide +kernel
theorem d_Box_passMinute_63 : decode b_Box_passMinute 63 = .ok (.getfield 23, 3) := by decide +kernel
theorem d_Box_passMinute_66 : decode b_Box_passMinute 66 = .ok (.getfield 81, 3) := by decide +kernel
theorem d_Box_passMinute_69 : decode b_Box_passMinute 69 = .ok (.ifCond .ne 42, 3) := by decide +kernel
theorem d_Box_passMinute_72 : decode b_Box_passMinute 72 = .ok (.aload_n 0, 1) := by decide +kernel
theorem d_Box_passMinute_73 : decode b_Box_passMinute 73 = .ok (.getfield 23, 3) := by decide +kernel
theorem d_Box_passMinute_76 : decode b_Box_passMinute 76 = .ok (.invokevirtual 245, 3) := by decide +kernel
theorem d_Box_passMinute_79 : decode b_Box_passMinute 79 = .ok (.ifCond .eq 32, 3) := by decide +kernel
theorem d_Box_passMinute_82 : decode b_Box_passMinute 82 = .ok (.iload 6, 2) := by decide +kernel
theorem d_Box_passMinute_84 : decode b_Box_passMinute 84 = .ok (.sipush 360, 3) := by decide +kernel
theorem d_Box_passMinute_87 : decode b_Box_passMinute 87 = .ok (.if_icmp .lt 24, 3) := by decide +kernel
theorem d_Box_passMinute_90 : decode b_Box_passMinute 90 = .ok (.iload 6, 2) := by decide +kernel
theorem d_Box_passMinute_92 : decode b_Box_passMinute 92 = .ok (.sipush 1079, 3) := by decide +kernel
theorem d_Box_passMinute_95 : decode b_Box_passMinute 95 = .ok (.if_icmp .gt 16, 3) := by decide +kernel
theorem d_Box_passMinute_98 : decode b_Box_passMinute 98 = .ok (.aload_n 0, 1) := by decide +kernel
theorem d_Box_passMinute_99 : decode b_Box_passMinute 99 = .ok (.getfield 23, 3) := by decide +kernel
theorem d_Box_passMinute_102 : decode b_Box_passMinute 102 = .ok (.iconst 1, 1) := by decide +kernel
theorem d_Box_passMinute_103 : decode b_Box_passMinute 103 = .ok (.putfield 81, 3) := by decide +kernel
theorem d_Box_passMinute_106 : decode b_Box_passMinute 106 = .ok (.aload_n 0, 1) := by decide +kernel
theorem d_Box_passMinute_107 : decode b_Box_passMinute 107 = .ok (.iconst 1, 1) := by decide +kernel
theorem d_Box_passMinute_108 : decode b_Box_passMinute 108 = .ok (.invokevirtual 77, 3) := by decide +kernel
theorem d_Box_passMinute_111 : decode b_Box_passMinute 111 = .ok (.iload 6, 2) := by decide +kernel
theorem d_Box_passMinute_113 : decode b_Box_passMinute 113 = .ok (.ifCond .ne 15, 3) := by decide +kernel
theorem d_Box_passMinute_116 : decode b_Box_passMinute 116 = .ok (.aload_n 0, 1) := by decide +kernel
theorem d_Box_passMinute_117 : decode b_Box_passMinute 117 = .ok (.invokevirtual 248, 3) := by decide +kernel
theorem d_Box_passMinute_120 : decode b_Box_passMinute 120 = .ok (.ifCond .ne 8, 3) := by decide +kernel
theorem d_Box_passMinute_123 : decode b_Box_passMinute 123 = .ok (.aload_n 0, 1) := by decide +kernel
theorem d_Box_passMinute_124 : decode b_Box_passMinute 124 = .ok (.iconst 3, 1) := by decide +kernel
theorem d_Box_passMinute_125 : decode b_Box_passMinute 125 = .ok (.invokevirtual 77, 3) := by decide +kernel
theorem d_Box_passMinute_128 : decode b_Box_passMinute 128 = .ok (.return_, 1) := by decide +kernel
theorem d_Box_checkOf_0 : decode b_Box_checkOf 0 = .ok (.lload_n 0, 1) := by decide +kernel
theorem d_Box_checkOf_1 : decode b_Box_checkOf 1 = .ok (.bipush 24, 2) := by decide +kernel
theorem d_Box_checkOf_3 : decode b_Box_checkOf 3 = .ok (.lshr, 1) := by decide +kernel
theorem d_Box_checkOf_4 : decode b_Box_checkOf 4 = .ok (.ldc2_w 251, 3) := by decide +kernel
theorem d_Box_checkOf_7 : decode b_Box_checkOf 7 = .ok (.land, 1) := by decide +kernel
theorem d_Box_checkOf_8 : decode b_Box_checkOf 8 = .ok (.lload_n 0, 1) := by decide +kernel
theorem d_Box_checkOf_9 : decode b_Box_checkOf 9 = .ok (.bipush 16, 2) := by decide +kernel
theorem d_Box_checkOf_11 : decode b_Box_checkOf 11 = .ok (.lshr, 1) := by decide +kernel
theorem d_Box_checkOf_12 : decode b_Box_checkOf 12 = .ok (.ldc2_w 251, 3) := by decide +kernel
theorem d_Box_checkOf_15 : decode b_Box_checkOf 15 = .ok (.land, 1) := by decide +kernel
theorem d_Box_checkOf_16 : decode b_Box_checkOf 16 = .ok (.ladd, 1) := by decide +kernel
theorem d_Box_checkOf_17 : decode b_Box_checkOf 17 = .ok (.lload_n 0, 1) := by decide +kernel
theorem d_Box_checkOf_18 : decode b_Box_checkOf 18 = .ok (.bipush 8, 2) := by decide +kernel
theorem d_Box_checkOf_20 : decode b_Box_checkOf 20 = .ok (.lshr, 1) := by decide +kernel
theorem d_Box_checkOf_21 : decode b_Box_checkOf 21 = .ok (.ldc2_w 251, 3) := by decide +kernel
theorem d_Box_checkOf_24 : decode b_Box_checkOf 24 = .ok (.land, 1) := by decide +kernel
theorem d_Box_checkOf_25 : decode b_Box_checkOf 25 = .ok (.ladd, 1) := by decide +kernel
theorem d_Box_checkOf_26 : decode b_Box_checkOf 26 = .ok (.lload_n 0, 1) := by decide +kernel
theorem d_Box_checkOf_27 : decode b_Box_checkOf 27 = .ok (.ldc2_w 251, 3) := by decide +kernel
theorem d_Box_checkOf_30 : decode b_Box_checkOf 30 = .ok (.land, 1) := by decide +kernel
theorem d_Box_checkOf_31 : decode b_Box_checkOf 31 = .ok (.ladd, 1) := by decide +kernel
theorem d_Box_checkOf_32 : decode b_Box_checkOf 32 = .ok (.lstore_n 2, 1) := by decide +kernel
theorem d_Box_checkOf_33 : decode b_Box_checkOf 33 = .ok (.lload_n 2, 1) := by decide +kernel
theorem d_Box_checkOf_34 : decode b_Box_checkOf 34 = .ok (.ldc2_w 253, 3) := by decide +kernel
theorem d_Box_checkOf_37 : decode b_Box_checkOf 37 = .ok (.lmul, 1) := by decide +kernel
theorem d_Box_checkOf_38 : decode b_Box_checkOf 38 = .ok (.ldc2_w 255, 3) := by decide +kernel
theorem d_Box_checkOf_41 : decode b_Box_checkOf 41 = .ok (.ladd, 1) := by decide +kernel
theorem d_Box_checkOf_42 : decode b_Box_checkOf 42 = .ok (.ldc2_w 103, 3) := by decide +kernel
theorem d_Box_checkOf_45 : decode b_Box_checkOf 45 = .ok (.lrem, 1) := by decide +kernel
theorem d_Box_checkOf_46 : decode b_Box_checkOf 46 = .ok (.l2i, 1) := by decide +kernel
theorem d_Box_checkOf_47 : decode b_Box_checkOf 47 = .ok (.ireturn, 1) := by decide +kernel
theorem d_Box_putToWork_0 : decode b_Box_putToWork 0 = .ok (.iload_n 1, 1) := by decide +kernel
theorem d_Box_putToWork_1 : decode b_Box_putToWork 1 = .ok (.ifCond .ne 32, 3) := by decide +kernel
theorem d_Box_putToWork_4 : decode b_Box_putToWork 4 = .ok (.aload_n 0, 1) := by decide +kernel
theorem d_Box_putToWork_5 : decode b_Box_putToWork 5 = .ok (.getfield 23, 3) := by decide +kernel
theorem d_Box_putToWork_8 : decode b_Box_putToWork 8 = .ok (.dup, 1) := by decide +kernel
theorem d_Box_putToWork_9 : decode b_Box_putToWork 9 = .ok (.getfield 132, 3) := by decide +kernel
theorem d_Box_putToWork_12 : decode b_Box_putToWork 12 = .ok (.iload_n 2, 1) := by decide +kernel
theorem d_Box_putToWork_13 : decode b_Box_putToWork 13 = .ok (.i2d, 1) := by decide +kernel
theorem d_Box_putToWork_14 : decode b_Box_putToWork 14 = .ok (.ldc2_w 70, 3) := by decide +kernel
theorem d_Box_putToWork_17 : decode b_Box_putToWork 17 = .ok (.ddiv, 1) := by decide +kernel
theorem d_Box_putToWork_18 : decode b_Box_putToWork 18 = .ok (.dadd, 1) := by decide +kernel
theorem d_Box_putToWork_19 : decode b_Box_putToWork 19 = .ok (.putfield 132, 3) := by decide +kernel
theorem d_Box_putToWork_22 : decode b_Box_putToWork 22 = .ok (.aload_n 0, 1) := by decide +kernel
theorem d_Box_putToWork_23 : decode b_Box_putToWork 23 = .ok (.getfield 23, 3) := by decide +kernel
theorem d_Box_putToWork_26 : decode b_Box_putToWork 26 = .ok (.iconst 0, 1) := by decide +kernel
theorem d_Box_putToWork_27 : decode b_Box_putToWork 27 = .ok (.putfield 139, 3) := by decide +kernel
theorem d_Box_putToWork_30 : decode b_Box_putToWork 30 = .ok (.goto 42, 3) := by decide +kernel
theorem d_Box_putToWork_33 : decode b_Box_putToWork 33 = .ok (.iload_n 1, 1) := by decide +kernel
theorem d_Box_putToWork_34 : decode b_Box_putToWork 34 = .ok (.iconst 1, 1) := by decide +kernel
theorem d_Box_putToWork_35 : decode b_Box_putToWork 35 = .ok (.if_icmp .ne 22, 3) := by decide +kernel
theorem d_Box_putToWork_38 : decode b_Box_putToWork 38 = .ok (.aload_n 0, 1) := by decide +kernel
theorem d_Box_putToWork_39 : decode b_Box_putToWork 39 = .ok (.getfield 9, 3) := by decide +kernel
theorem d_Box_putToWork_42 : decode b_Box_putToWork 42 = .ok (.iload_n 2, 1) := by decide +kernel
theorem d_Box_putToWork_43 : decode b_Box_putToWork 43 = .ok (.iconst 3, 1) := by decide +kernel
theorem d_Box_putToWork_44 : decode b_Box_putToWork 44 = .ok (.irem, 1) := by decide +kernel
theorem d_Box_putToWork_45 : decode b_Box_putToWork 45 = .ok (.iload_n 2, 1) := by decide +kernel
theorem d_Box_putToWork_46 : decode b_Box_putToWork 46 = .ok (.iconst 3, 1) := by decide +kernel
theorem d_Box_putToWork_47 : decode b_Box_putToWork 47 = .ok (.idiv, 1) := by decide +kernel
theorem d_Box_putToWork_48 : decode b_Box_putToWork 48 = .ok (.i2d, 1) := by decide +kernel
theorem d_Box_putToWork_49 : decode b_Box_putToWork 49 = .ok (.ldc2_w 257, 3) := by decide +kernel
theorem d_Box_putToWork_52 : decode b_Box_putToWork 52 = .ok (.ddiv, 1) := by decide +kernel
theorem d_Box_putToWork_53 : decode b_Box_putToWork 53 = .ok (.dastore, 1) := by decide +kernel
theorem d_Box_putToWork_54 : decode b_Box_putToWork 54 = .ok (.goto 18, 3) := by decide +kernel
theorem d_Box_putToWork_57 : decode b_Box_putToWork 57 = .ok (.aload_n 0, 1) := by decide +kernel
theorem d_Box_putToWork_58 : decode b_Box_putToWork 58 = .ok (.getfield 23, 3) := by decide +kernel
theorem d_Box_putToWork_61 : decode b_Box_putToWork 61 = .ok (.dconst 0, 1) := by decide +kernel
theorem d_Box_putToWork_62 : decode b_Box_putToWork 62 = .ok (.putfield 259, 3) := by decide +kernel
theorem d_Box_putToWork_65 : decode b_Box_putToWork 65 = .ok (.aload_n 0, 1) := by decide +kernel
theorem d_Box_putToWork_66 : decode b_Box_putToWork 66 = .ok (.getfield 30, 3) := by decide +kernel
theorem d_Box_putToWork_69 : decode b_Box_putToWork 69 = .ok (.invokevirtual 154, 3) := by decide +kernel
theorem d_Box_putToWork_72 : decode b_Box_putToWork 72 = .ok (.return_, 1) := by decide +kernel
theorem d_Box_closeRelay_0 : decode b_Box_closeRelay 0 = .ok (.aload_n 0, 1) := by decide +kernel
theorem d_Box_closeRelay_1 : decode b_Box_closeRelay 1 = .ok (.getfield 23, 3) := by decide +kernel
theorem d_Box_closeRelay_4 : decode b_Box_closeRelay 4 = .ok (.getfield 81, 3) := by decide +kernel
theorem d_Box_closeRelay_7 : decode b_Box_closeRelay 7 = .ok (.ifCond .eq 16, 3) := by decide +kernel
theorem d_Box_closeRelay_10 : decode b_Box_closeRelay 10 = .ok (.aload_n 0, 1) := by decide +kernel
theorem d_Box_closeRelay_11 : decode b_Box_closeRelay 11 = .ok (.getfield 23, 3) := by decide +kernel
theorem d_Box_closeRelay_14 : decode b_Box_closeRelay 14 = .ok (.iconst 0, 1) := by decide +kernel
theorem d_Box_closeRelay_15 : decode b_Box_closeRelay 15 = .ok (.putfield 81, 3) := by decide +kernel
theorem d_Box_closeRelay_18 : decode b_Box_closeRelay 18 = .ok (.aload_n 0, 1) := by decide +kernel
theorem d_Box_closeRelay_19 : decode b_Box_closeRelay 19 = .ok (.iconst 5, 1) := by decide +kernel
theorem d_Box_closeRelay_20 : decode b_Box_closeRelay 20 = .ok (.invokevirtual 77, 3) := by decide +kernel
theorem d_Box_closeRelay_23 : decode b_Box_closeRelay 23 = .ok (.return_, 1) := by decide +kernel
theorem d_Box_load_0 : decode b_Box_load 0 = .ok (.aload_n 0, 1) := by decide +kernel
theorem d_Box_load_1 : decode b_Box_load 1 = .ok (.getfield 37, 3) := by decide +kernel
theorem d_Box_load_4 : decode b_Box_load 4 = .ok (.invokevirtual 285, 3) := by decide +kernel
theorem d_Box_load_7 : decode b_Box_load 7 = .ok (.istore_n 1, 1) := by decide +kernel
theorem d_Box_load_8 : decode b_Box_load 8 = .ok (.aload_n 0, 1) := by decide +kernel
theorem d_Box_load_9 : decode b_Box_load 9 = .ok (.getfield 37, 3) := by decide +kernel
theorem d_Box_load_12 : decode b_Box_load 12 = .ok (.iload_n 1, 1) := by decide +kernel
theorem d_Box_load_13 : decode b_Box_load 13 = .ok (.putfield 288, 3) := by decide +kernel
theorem d_Box_load_16 : decode b_Box_load 16 = .ok (.iload_n 1, 1) := by decide +kernel
theorem d_Box_load_17 : decode b_Box_load 17 = .ok (.iconst (-1), 1) := by decide +kernel
theorem d_Box_load_18 : decode b_Box_load 18 = .ok (.if_icmp .ne 13, 3) := by decide +kernel
theorem d_Box_load_21 : decode b_Box_load 21 = .ok (.aload_n 0, 1) := by decide +kernel
theorem d_Box_load_22 : decode b_Box_load 22 = .ok (.getfield 23, 3) := by decide +kernel
theorem d_Box_load_25 : decode b_Box_load 25 = .ok (.invokevirtual 291, 3) := by decide +kernel
theorem d_Box_load_28 : decode b_Box_load 28 = .ok (.goto 25, 3) := by decide +kernel
theorem d_Box_load_31 : decode b_Box_load 31 = .ok (.aload_n 0, 1) := by decide +kernel
theorem d_Box_load_32 : decode b_Box_load 32 = .ok (.getfield 37, 3) := by decide +kernel
theorem d_Box_load_35 : decode b_Box_load 35 = .ok (.iload_n 1, 1) := by decide +kernel
theorem d_Box_load_36 : decode b_Box_load 36 = .ok (.invokevirtual 294, 3) := by decide +kernel
theorem d_Box_load_39 : decode b_Box_load 39 = .ok (.aload_n 0, 1) := by decide +kernel
theorem d_Box_load_40 : decode b_Box_load 40 = .ok (.getfield 23, 3) := by decide +kernel
theorem d_Box_load_43 : decode b_Box_load 43 = .ok (.aload_n 0, 1) := by decide +kernel
theorem d_Box_load_44 : decode b_Box_load 44 = .ok (.getfield 37, 3) := by decide +kernel
theorem d_Box_load_47 : decode b_Box_load 47 = .ok (.getfield 269, 3) := by decide +kernel
theorem d_Box_load_50 : decode b_Box_load 50 = .ok (.invokevirtual 297, 3) := by decide +kernel
theorem d_Box_load_53 : decode b_Box_load 53 = .ok (.return_, 1) := by decide +kernel
theorem d_Box_isKnown_0 : decode b_Box_isKnown 0 = .ok (.iload_n 1, 1) := by decide +kernel
theorem d_Box_isKnown_1 : decode b_Box_isKnown 1 = .ok (.tableswitch 66 0 2 #[27, 38, 49], 27) := by decide +kernel
theorem d_Box_isKnown_28 : decode b_Box_isKnown 28 = .ok (.iload_n 2, 1) := by decide +kernel
theorem d_Box_isKnown_29 : decode b_Box_isKnown 29 = .ok (.iconst 5, 1) := by decide +kernel
theorem d_Box_isKnown_30 : decode b_Box_isKnown 30 = .ok (.if_icmp .gt 7, 3) := by decide +kernel
theorem d_Box_isKnown_33 : decode b_Box_isKnown 33 = .ok (.iconst 1, 1) := by decide +kernel
theorem d_Box_isKnown_34 : decode b_Box_isKnown 34 = .ok (.goto 4, 3) := by decide +kernel
theorem d_Box_isKnown_37 : decode b_Box_isKnown 37 = .ok (.iconst 0, 1) := by decide +kernel
theorem d_Box_isKnown_38 : decode b_Box_isKnown 38 = .ok (.ireturn, 1) := by decide +kernel
theorem d_Box_isKnown_39 : decode b_Box_isKnown 39 = .ok (.iload_n 2, 1) := by decide +kernel
theorem d_Box_isKnown_40 : decode b_Box_isKnown 40 = .ok (.iconst 4, 1) := by decide +kernel
theorem d_Box_isKnown_41 : decode b_Box_isKnown 41 = .ok (.if_icmp .ge 7, 3) := by decide +kernel
theorem d_Box_isKnown_44 : decode b_Box_isKnown 44 = .ok (.iconst 1, 1) := by decide +kernel
theorem d_Box_isKnown_45 : decode b_Box_isKnown 45 = .ok (.goto 4, 3) := by decide +kernel
theorem d_Box_isKnown_48 : decode b_Box_isKnown 48 = .ok (.iconst 0, 1) := by decide +kernel
theorem d_Box_isKnown_49 : decode b_Box_isKnown 49 = .ok (.ireturn, 1) := by decide +kernel
theorem d_Box_isKnown_50 : decode b_Box_isKnown 50 = .ok (.iload_n 2, 1) := by decide +kernel
theorem d_Box_isKnown_51 : decode b_Box_isKnown 51 = .ok (.aload_n 0, 1) := by decide +kernel
theorem d_Box_isKnown_52 : decode b_Box_isKnown 52 = .ok (.getfield 30, 3) := by decide +kernel
theorem d_Box_isKnown_55 : decode b_Box_isKnown 55 = .ok (.getfield 223, 3) := by decide +kernel
theorem d_Box_isKnown_58 : decode b_Box_isKnown 58 = .ok (.if_icmp .ge 7, 3) := by decide +kernel
theorem d_Box_isKnown_61 : decode b_Box_isKnown 61 = .ok (.iconst 1, 1) := by decide +kernel
theorem d_Box_isKnown_62 : decode b_Box_isKnown 62 = .ok (.goto 4, 3) := by decide +kernel
theorem d_Box_isKnown_65 : decode b_Box_isKnown 65 = .ok (.iconst 0, 1) := by decide +kernel
theorem d_Box_isKnown_66 : decode b_Box_isKnown 66 = .ok (.ireturn, 1) := by decide +kernel
theorem d_Box_isKnown_67 : decode b_Box_isKnown 67 = .ok (.iconst 0, 1) := by decide +kernel
theorem d_Box_isKnown_68 : decode b_Box_isKnown 68 = .ok (.ireturn, 1) := by decide +kernel
theorem d_Box_numberFor_0 : decode b_Box_numberFor 0 = .ok (.iload_n 1, 1) := by decide +kernel
theorem d_Box_numberFor_1 : decode b_Box_numberFor 1 = .ok (.iconst 1, 1) := by decide +kernel
theorem d_Box_numberFor_2 : decode b_Box_numberFor 2 = .ok (.if_icmp .ne 14, 3) := by decide +kernel
theorem d_Box_numberFor_5 : decode b_Box_numberFor 5 = .ok (.aload_n 0, 1) := by decide +kernel
theorem d_Box_numberFor_6 : decode b_Box_numberFor 6 = .ok (.getfield 37, 3) := by decide +kernel
theorem d_Box_numberFor_9 : decode b_Box_numberFor 9 = .ok (.getfield 225, 3) := by decide +kernel
theorem d_Box_numberFor_12 : decode b_Box_numberFor 12 = .ok (.iload_n 2, 1) := by decide +kernel
theorem d_Box_numberFor_13 : decode b_Box_numberFor 13 = .ok (.iaload, 1) := by decide +kernel
theorem d_Box_numberFor_14 : decode b_Box_numberFor 14 = .ok (.i2l, 1) := by decide +kernel
theorem d_Box_numberFor_15 : decode b_Box_numberFor 15 = .ok (.lreturn, 1) := by decide +kernel
theorem d_Box_numberFor_16 : decode b_Box_numberFor 16 = .ok (.iload_n 1, 1) := by decide +kernel
theorem d_Box_numberFor_17 : decode b_Box_numberFor 17 = .ok (.iconst 2, 1) := by decide +kernel
theorem d_Box_numberFor_18 : decode b_Box_numberFor 18 = .ok (.if_icmp .ne 14, 3) := by decide +kernel
theorem d_Box_numberFor_21 : decode b_Box_numberFor 21 = .ok (.aload_n 0, 1) := by decide +kernel
theorem d_Box_numberFor_22 : decode b_Box_numberFor 22 = .ok (.getfield 30, 3) := by decide +kernel
theorem d_Box_numberFor_25 : decode b_Box_numberFor 25 = .ok (.getfield 300, 3) := by decide +kernel
theorem d_Box_numberFor_28 : decode b_Box_numberFor 28 = .ok (.iload_n 2, 1) := by decide +kernel
theorem d_Box_numberFor_29 : decode b_Box_numberFor 29 = .ok (.iaload, 1) := by decide +kernel
theorem d_Box_numberFor_30 : decode b_Box_numberFor 30 = .ok (.i2l, 1) := by decide +kernel
theorem d_Box_numberFor_31 : decode b_Box_numberFor 31 = .ok (.lreturn, 1) := by decide +kernel
theorem d_Box_numberFor_32 : decode b_Box_numberFor 32 = .ok (.iload_n 2, 1) := by decide +kernel
theorem d_Box_numberFor_33 : decode b_Box_numberFor 33 = .ok (.iconst 5, 1) := by decide +kernel
theorem d_Box_numberFor_34 : decode b_Box_numberFor 34 = .ok (.if_icmp .ne 12, 3) := by decide +kernel
theorem d_Box_numberFor_37 : decode b_Box_numberFor 37 = .ok (.aload_n 0, 1) := by decide +kernel
theorem d_Box_numberFor_38 : decode b_Box_numberFor 38 = .ok (.getfield 23, 3) := by decide +kernel
theorem d_Box_numberFor_41 : decode b_Box_numberFor 41 = .ok (.getfield 228, 3) := by decide +kernel
theorem d_Box_numberFor_44 : decode b_Box_numberFor 44 = .ok (.i2l, 1) := by decide +kernel
theorem d_Box_numberFor_45 : decode b_Box_numberFor 45 = .ok (.lreturn, 1) := by decide +kernel
theorem d_Box_numberFor_46 : decode b_Box_numberFor 46 = .ok (.aload_n 0, 1) := by decide +kernel
theorem d_Box_numberFor_47 : decode b_Box_numberFor 47 = .ok (.getfield 23, 3) := by decide +kernel
theorem d_Box_numberFor_50 : decode b_Box_numberFor 50 = .ok (.iload_n 2, 1) := by decide +kernel
theorem d_Box_numberFor_51 : decode b_Box_numberFor 51 = .ok (.invokevirtual 216, 3) := by decide +kernel
theorem d_Box_numberFor_54 : decode b_Box_numberFor 54 = .ok (.invokestatic 303, 3) := by decide +kernel
theorem d_Box_numberFor_57 : decode b_Box_numberFor 57 = .ok (.lreturn, 1) := by decide +kernel
theorem d_Box_countOfState_0 : decode b_Box_countOfState 0 = .ok (.iload_n 1, 1) := by decide +kernel
theorem d_Box_countOfState_1 : decode b_Box_countOfState 1 = .ok (.tableswitch 79 6 9 #[31, 39, 55, 71], 31) := by decide +kernel
theorem d_Box_countOfState_32 : decode b_Box_countOfState 32 = .ok (.aload_n 0, 1) := by decide +kernel
theorem d_Box_countOfState_33 : decode b_Box_countOfState 33 = .ok (.getfield 23, 3) := by decide +kernel
theorem d_Box_countOfState_36 : decode b_Box_countOfState 36 = .ok (.getfield 228, 3) := by decide +kernel
theorem d_Box_countOfState_39 : decode b_Box_countOfState 39 = .ok (.ireturn, 1) := by decide +kernel
theorem d_Box_countOfState_40 : decode b_Box_countOfState 40 = .ok (.aload_n 0, 1) := by decide +kernel
theorem d_Box_countOfState_41 : decode b_Box_countOfState 41 = .ok (.getfield 23, 3) := by decide +kernel
theorem d_Box_countOfState_44 : decode b_Box_countOfState 44 = .ok (.getfield 81, 3) := by decide +kernel
theorem d_Box_countOfState_47 : decode b_Box_countOfState 47 = .ok (.ifCond .eq 7, 3) := by decide +kernel
theorem d_Box_countOfState_50 : decode b_Box_countOfState 50 = .ok (.iconst 0, 1) := by decide +kernel
theorem d_Box_countOfState_51 : decode b_Box_countOfState 51 = .ok (.goto 4, 3) := by decide +kernel
theorem d_Box_countOfState_54 : decode b_Box_countOfState 54 = .ok (.iconst 1, 1) := by decide +kernel
theorem d_Box_countOfState_55 : decode b_Box_countOfState 55 = .ok (.ireturn, 1) := by decide +kernel
theorem d_Box_countOfState_56 : decode b_Box_countOfState 56 = .ok (.aload_n 0, 1) := by decide +kernel
theorem d_Box_countOfState_57 : decode b_Box_countOfState 57 = .ok (.getfield 23, 3) := by decide +kernel
theorem d_Box_countOfState_60 : decode b_Box_countOfState 60 = .ok (.getfield 139, 3) := by decide +kernel
theorem d_Box_countOfState_63 : decode b_Box_countOfState 63 = .ok (.ifCond .eq 7, 3) := by decide +kernel
theorem d_Box_countOfState_66 : decode b_Box_countOfState 66 = .ok (.iconst 1, 1) := by decide +kernel
theorem d_Box_countOfState_67 : decode b_Box_countOfState 67 = .ok (.goto 4, 3) := by decide +kernel
theorem d_Box_countOfState_70 : decode b_Box_countOfState 70 = .ok (.iconst 0, 1) := by decide +kernel
theorem d_Box_countOfState_71 : decode b_Box_countOfState 71 = .ok (.ireturn, 1) := by decide +kernel
theorem d_Box_countOfState_72 : decode b_Box_countOfState 72 = .ok (.aload_n 0, 1) := by decide +kernel
theorem d_Box_countOfState_73 : decode b_Box_countOfState 73 = .ok (.getfield 23, 3) := by decide +kernel
theorem d_Box_countOfState_76 : decode b_Box_countOfState 76 = .ok (.getfield 114, 3) := by decide +kernel
theorem d_Box_countOfState_79 : decode b_Box_countOfState 79 = .ok (.ireturn, 1) := by decide +kernel
theorem d_Box_countOfState_80 : decode b_Box_countOfState 80 = .ok (.aload_n 0, 1) := by decide +kernel
theorem d_Box_countOfState_81 : decode b_Box_countOfState 81 = .ok (.getfield 16, 3) := by decide +kernel
theorem d_Box_countOfState_84 : decode b_Box_countOfState 84 = .ok (.aload_n 0, 1) := by decide +kernel
theorem d_Box_countOfState_85 : decode b_Box_countOfState 85 = .ok (.getfield 23, 3) := by decide +kernel
theorem d_Box_countOfState_88 : decode b_Box_countOfState 88 = .ok (.getfield 228, 3) := by decide +kernel
theorem d_Box_countOfState_91 : decode b_Box_countOfState 91 = .ok (.invokevirtual 231, 3) := by decide +kernel
theorem d_Box_countOfState_94 : decode b_Box_countOfState 94 = .ok (.ireturn, 1) := by decide +kernel
