theorem d_Mod_token_0 : decode b_Mod_token 0 = .ok (.aload_n 0, 1) := by decide +kernel
theorem d_Mod_token_1 : decode b_Mod_token 1 = .ok (.iconst 0, 1) := by decide +kernel
theorem d_Mod_token_2 : decode b_Mod_token 2 = .ok (.putfield 58, 3) := by decide +kernel
theorem d_Mod_token_5 : decode b_Mod_token 5 = .ok (.lload_n 1, 1) := by decide +kernel
theorem d_Mod_token_6 : decode b_Mod_token 6 = .ok (.lconst 0, 1) := by decide +kernel
theorem d_Mod_token_7 : decode b_Mod_token 7 = .ok (.lcmp, 1) := by decide +kernel
theorem d_Mod_token_8 : decode b_Mod_token 8 = .ok (.ifCond .lt 11, 3) := by decide +kernel
theorem d_Mod_token_11 : decode b_Mod_token 11 = .ok (.lload_n 1, 1) := by decide +kernel
theorem d_Mod_token_12 : decode b_Mod_token 12 = .ok (.ldc2_w 162, 3) := by decide +kernel
theorem d_Mod_token_15 : decode b_Mod_token 15 = .ok (.lcmp, 1) := by decide +kernel
theorem d_Mod_token_16 : decode b_Mod_token 16 = .ok (.ifCond .le 9, 3) := by decide +kernel
theorem d_Mod_token_19 : decode b_Mod_token 19 = .ok (.aload_n 0, 1) := by decide +kernel
theorem d_Mod_token_20 : decode b_Mod_token 20 = .ok (.iconst 1, 1) := by decide +kernel
theorem d_Mod_token_21 : decode b_Mod_token 21 = .ok (.invokevirtual 71, 3) := by decide +kernel
theorem d_Mod_token_24 : decode b_Mod_token 24 = .ok (.ireturn, 1) := by decide +kernel
theorem d_Mod_token_25 : decode b_Mod_token 25 = .ok (.aload_n 0, 1) := by decide +kernel
theorem d_Mod_token_26 : decode b_Mod_token 26 = .ok (.getfield 7, 3) := by decide +kernel
theorem d_Mod_token_29 : decode b_Mod_token 29 = .ok (.ifCond .ne 9, 3) := by decide +kernel
theorem d_Mod_token_32 : decode b_Mod_token 32 = .ok (.aload_n 0, 1) := by decide +kernel
theorem d_Mod_token_33 : decode b_Mod_token 33 = .ok (.iconst 2, 1) := by decide +kernel
theorem d_Mod_token_34 : decode b_Mod_token 34 = .ok (.invokevirtual 71, 3) := by decide +kernel
theorem d_Mod_token_37 : decode b_Mod_token 37 = .ok (.ireturn, 1) := by decide +kernel
theorem d_Mod_token_38 : decode b_Mod_token 38 = .ok (.lload_n 1, 1) := by decide +kernel
theorem d_Mod_token_39 : decode b_Mod_token 39 = .ok (.ldc2_w 164, 3) := by decide +kernel
theorem d_Mod_token_42 : decode b_Mod_token 42 = .ok (.lxor, 1) := by decide +kernel
theorem d_Mod_token_43 : decode b_Mod_token 43 = .ok (.lstore_n 3, 1) := by decide +kernel
theorem d_Mod_token_44 : decode b_Mod_token 44 = .ok (.lload_n 3, 1) := by decide +kernel
theorem d_Mod_token_45 : decode b_Mod_token 45 = .ok (.ldc2_w 160, 3) := by decide +kernel
theorem d_Mod_token_48 : decode b_Mod_token 48 = .ok (.ldiv, 1) := by decide +kernel
theorem d_Mod_token_49 : decode b_Mod_token 49 = .ok (.lstore 5, 2) := by decide +kernel
theorem d_Mod_token_51 : decode b_Mod_token 51 = .ok (.lload 5, 2) := by decide +kernel
theorem d_Mod_token_53 : decode b_Mod_token 53 = .ok (.bipush 30, 2) := by decide +kernel
theorem d_Mod_token_55 : decode b_Mod_token 55 = .ok (.lshr, 1) := by decide +kernel
theorem d_Mod_token_56 : decode b_Mod_token 56 = .ok (.l2i, 1) := by decide +kernel
theorem d_Mod_token_57 : decode b_Mod_token 57 = .ok (.istore 7, 2) := by decide +kernel
theorem d_Mod_token_59 : decode b_Mod_token 59 = .ok (.lload 5, 2) := by decide +kernel
theorem d_Mod_token_61 : decode b_Mod_token 61 = .ok (.invokestatic 166, 3) := by decide +kernel
theorem d_Mod_token_64 : decode b_Mod_token 64 = .ok (.lload_n 3, 1) := by decide +kernel
theorem d_Mod_token_65 : decode b_Mod_token 65 = .ok (.ldc2_w 160, 3) := by decide +kernel
theorem d_Mod_token_68 : decode b_Mod_token 68 = .ok (.lrem, 1) := by decide +kernel
theorem d_Mod_token_69 : decode b_Mod_token 69 = .ok (.lcmp, 1) := by decide +kernel
theorem d_Mod_token_70 : decode b_Mod_token 70 = .ok (.ifCond .ne 9, 3) := by decide +kernel
theorem d_Mod_token_73 : decode b_Mod_token 73 = .ok (.iload 7, 2) := by decide +kernel
theorem d_Mod_token_75 : decode b_Mod_token 75 = .ok (.iconst 3, 1) := by decide +kernel
theorem d_Mod_token_76 : decode b_Mod_token 76 = .ok (.if_icmp .ne 14, 3) := by decide +kernel
theorem d_Mod_token_79 : decode b_Mod_token 79 = .ok (.aload_n 0, 1) := by decide +kernel
theorem d_Mod_token_80 : decode b_Mod_token 80 = .ok (.iconst 4, 1) := by decide +kernel
theorem d_Mod_token_81 : decode b_Mod_token 81 = .ok (.invokevirtual 138, 3) := by decide +kernel
theorem d_Mod_token_84 : decode b_Mod_token 84 = .ok (.aload_n 0, 1) := by decide +kernel
theorem d_Mod_token_85 : decode b_Mod_token 85 = .ok (.iconst 3, 1) := by decide +kernel
theorem d_Mod_token_86 : decode b_Mod_token 86 = .ok (.invokevirtual 71, 3) := by decide +kernel
theorem d_Mod_token_89 : decode b_Mod_token 89 = .ok (.ireturn, 1) := by decide +kernel
theorem d_Mod_token_90 : decode b_Mod_token 90 = .ok (.lload 5, 2) := by decide +kernel
theorem d_Mod_token_92 : decode b_Mod_token 92 = .ok (.bipush 16, 2) := by decide +kernel
theorem d_Mod_token_94 : decode b_Mod_token 94 = .ok (.lshr, 1) := by decide +kernel
theorem d_Mod_token_95 : decode b_Mod_token 95 = .ok (.ldc2_w 170, 3) := by decide +kernel
theorem d_Mod_token_98 : decode b_Mod_token 98 = .ok (.land, 1) := by decide +kernel
theorem d_Mod_token_99 : decode b_Mod_token 99 = .ok (.l2i, 1) := by decide +kernel
theorem d_Mod_token_100 : decode b_Mod_token 100 = .ok (.istore 8, 2) := by decide +kernel
theorem d_Mod_token_102 : decode b_Mod_token 102 = .ok (.iload 8, 2) := by decide +kernel
theorem d_Mod_token_104 : decode b_Mod_token 104 = .ok (.aload_n 0, 1) := by decide +kernel
theorem d_Mod_token_105 : decode b_Mod_token 105 = .ok (.getfield 107, 3) := by decide +kernel
theorem d_Mod_token_108 : decode b_Mod_token 108 = .ok (.if_icmp .gt 9, 3) := by decide +kernel
theorem d_Mod_token_111 : decode b_Mod_token 111 = .ok (.aload_n 0, 1) := by decide +kernel
theorem d_Mod_token_112 : decode b_Mod_token 112 = .ok (.iconst 4, 1) := by decide +kernel
theorem d_Mod_token_113 : decode b_Mod_token 113 = .ok (.invokevirtual 71, 3) := by decide +kernel
theorem d_Mod_token_116 : decode b_Mod_token 116 = .ok (.ireturn, 1) := by decide +kernel
theorem d_Mod_token_117 : decode b_Mod_token 117 = .ok (.aload_n 0, 1) := by decide +kernel
theorem d_Mod_token_118 : decode b_Mod_token 118 = .ok (.iload 7, 2) := by decide +kernel
theorem d_Mod_token_120 : decode b_Mod_token 120 = .ok (.lload 5, 2) := by decide +kernel
theorem d_Mod_token_122 : decode b_Mod_token 122 = .ok (.ldc2_w 172, 3) := by decide +kernel
theorem d_Mod_token_125 : decode b_Mod_token 125 = .ok (.land, 1) := by decide +kernel
theorem d_Mod_token_126 : decode b_Mod_token 126 = .ok (.l2i, 1) := by decide +kernel
theorem d_Mod_token_127 : decode b_Mod_token 127 = .ok (.invokevirtual 174, 3) := by decide +kernel
theorem d_Mod_token_130 : decode b_Mod_token 130 = .ok (.aload_n 0, 1) := by decide +kernel
theorem d_Mod_token_131 : decode b_Mod_token 131 = .ok (.iload 8, 2) := by decide +kernel
theorem d_Mod_token_133 : decode b_Mod_token 133 = .ok (.putfield 107, 3) := by decide +kernel
theorem d_Mod_token_136 : decode b_Mod_token 136 = .ok (.aload_n 0, 1) := by decide +kernel
theorem d_Mod_token_137 : decode b_Mod_token 137 = .ok (.invokevirtual 142, 3) := by decide +kernel
theorem d_Mod_token_140 : decode b_Mod_token 140 = .ok (.pop2, 1) := by decide +kernel
theorem d_Mod_token_141 : decode b_Mod_token 141 = .ok (.aload_n 0, 1) := by decide +kernel
theorem d_Mod_token_142 : decode b_Mod_token 142 = .ok (.getfield 110, 3) := by decide +kernel
theorem d_Mod_token_145 : decode b_Mod_token 145 = .ok (.ifCond .eq 21, 3) := by decide +kernel
theorem d_Mod_token_148 : decode b_Mod_token 148 = .ok (.aload_n 0, 1) := by decide +kernel
theorem d_Mod_token_149 : decode b_Mod_token 149 = .ok (.aload_n 0, 1) := by decide +kernel
theorem d_Mod_token_150 : decode b_Mod_token 150 = .ok (.getfield 110, 3) := by decide +kernel
theorem d_Mod_token_153 : decode b_Mod_token 153 = .ok (.iconst 1, 1) := by decide +kernel
theorem d_Mod_token_154 : decode b_Mod_token 154 = .ok (.if_icmp .ne 7, 3) := by decide +kernel
theorem d_Mod_token_157 : decode b_Mod_token 157 = .ok (.iconst 3, 1) := by decide +kernel
theorem d_Mod_token_158 : decode b_Mod_token 158 = .ok (.goto 4, 3) := by decide +kernel
theorem d_Mod_token_161 : decode b_Mod_token 161 = .ok (.iconst 5, 1) := by decide +kernel
theorem d_Mod_token_162 : decode b_Mod_token 162 = .ok (.invokevirtual 71, 3) := by decide +kernel
theorem d_Mod_token_165 : decode b_Mod_token 165 = .ok (.ireturn, 1) := by decide +kernel
theorem d_Mod_token_166 : decode b_Mod_token 166 = .ok (.aload_n 0, 1) := by decide +kernel
theorem d_Mod_token_167 : decode b_Mod_token 167 = .ok (.getfield 99, 3) := by decide +kernel
theorem d_Mod_token_170 : decode b_Mod_token 170 = .ok (.ifCond .eq 16, 3) := by decide +kernel
theorem d_Mod_token_173 : decode b_Mod_token 173 = .ok (.aload_n 0, 1) := by decide +kernel
theorem d_Mod_token_174 : decode b_Mod_token 174 = .ok (.getfield 15, 3) := by decide +kernel
theorem d_Mod_token_177 : decode b_Mod_token 177 = .ok (.dconst 0, 1) := by decide +kernel
theorem d_Mod_token_178 : decode b_Mod_token 178 = .ok (.dcmp .l, 1) := by decide +kernel
theorem d_Mod_token_179 : decode b_Mod_token 179 = .ok (.ifCond .lt 7, 3) := by decide +kernel
theorem d_Mod_token_182 : decode b_Mod_token 182 = .ok (.aload_n 0, 1) := by decide +kernel
theorem d_Mod_token_183 : decode b_Mod_token 183 = .ok (.invokevirtual 178, 3) := by decide +kernel
theorem d_Mod_token_186 : decode b_Mod_token 186 = .ok (.iload 7, 2) := by decide +kernel
theorem d_Mod_token_188 : decode b_Mod_token 188 = .ok (.ireturn, 1) := by decide +kernel
theorem d_Mod_emergency_0 : decode b_Mod_emergency 0 = .ok (.aload_n 0, 1) := by decide +kernel
theorem d_Mod_emergency_1 : decode b_Mod_emergency 1 = .ok (.iconst 0, 1) := by decide +kernel
theorem d_Mod_emergency_2 : decode b_Mod_emergency 2 = .ok (.putfield 58, 3) := by decide +kernel
theorem d_Mod_emergency_5 : decode b_Mod_emergency 5 = .ok (.aload_n 0, 1) := by decide +kernel
theorem d_Mod_emergency_6 : decode b_Mod_emergency 6 = .ok (.getfield 7, 3) := by decide +kernel
theorem d_Mod_emergency_9 : decode b_Mod_emergency 9 = .ok (.ifCond .ne 9, 3) := by decide +kernel
theorem d_Mod_emergency_12 : decode b_Mod_emergency 12 = .ok (.aload_n 0, 1) := by decide +kernel
theorem d_Mod_emergency_13 : decode b_Mod_emergency 13 = .ok (.iconst 1, 1) := by decide +kernel
theorem d_Mod_emergency_14 : decode b_Mod_emergency 14 = .ok (.invokevirtual 71, 3) := by decide +kernel
theorem d_Mod_emergency_17 : decode b_Mod_emergency 17 = .ok (.ireturn, 1) := by decide +kernel
theorem d_Mod_emergency_18 : decode b_Mod_emergency 18 = .ok (.aload_n 0, 1) := by decide +kernel
theorem d_Mod_emergency_19 : decode b_Mod_emergency 19 = .ok (.getfield 102, 3) := by decide +kernel
theorem d_Mod_emergency_22 : decode b_Mod_emergency 22 = .ok (.ifCond .ne 12, 3) := by decide +kernel
theorem d_Mod_emergency_25 : decode b_Mod_emergency 25 = .ok (.aload_n 0, 1) := by decide +kernel
theorem d_Mod_emergency_26 : decode b_Mod_emergency 26 = .ok (.getfield 15, 3) := by decide +kernel
theorem d_Mod_emergency_29 : decode b_Mod_emergency 29 = .ok (.dconst 0, 1) := by decide +kernel
theorem d_Mod_emergency_30 : decode b_Mod_emergency 30 = .ok (.dcmp .l, 1) := by decide +kernel
theorem d_Mod_emergency_31 : decode b_Mod_emergency 31 = .ok (.ifCond .lt 9, 3) := by decide +kernel
theorem d_Mod_emergency_34 : decode b_Mod_emergency 34 = .ok (.aload_n 0, 1) := by decide +kernel
theorem d_Mod_emergency_35 : decode b_Mod_emergency 35 = .ok (.iconst 2, 1) := by decide +kernel
theorem d_Mod_emergency_36 : decode b_Mod_emergency 36 = .ok (.invokevirtual 71, 3) := by decide +kernel
theorem d_Mod_emergency_39 : decode b_Mod_emergency 39 = .ok (.ireturn, 1) := by decide +kernel
theorem d_Mod_emergency_40 : decode b_Mod_emergency 40 = .ok (.aload_n 0, 1) := by decide +kernel
theorem d_Mod_emergency_41 : decode b_Mod_emergency 41 = .ok (.iconst 1, 1) := by decide +kernel
theorem d_Mod_emergency_42 : decode b_Mod_emergency 42 = .ok (.putfield 102, 3) := by decide +kernel
theorem d_Mod_emergency_45 : decode b_Mod_emergency 45 = .ok (.aload_n 0, 1) := by decide +kernel
theorem d_Mod_emergency_46 : decode b_Mod_emergency 46 = .ok (.getfield 99, 3) := by decide +kernel
theorem d_Mod_emergency_49 : decode b_Mod_emergency 49 = .ok (.ifCond .eq 18, 3) := by decide +kernel
theorem d_Mod_emergency_52 : decode b_Mod_emergency 52 = .ok (.aload_n 0, 1) := by decide +kernel
theorem d_Mod_emergency_53 : decode b_Mod_emergency 53 = .ok (.getfield 15, 3) := by decide +kernel
theorem d_Mod_emergency_56 : decode b_Mod_emergency 56 = .ok (.ldc2_w 136, 3) := by decide +kernel
theorem d_Mod_emergency_59 : decode b_Mod_emergency 59 = .ok (.dcmp .l, 1) := by decide +kernel
theorem d_Mod_emergency_60 : decode b_Mod_emergency 60 = .ok (.ifCond .lt 7, 3) := by decide +kernel
theorem d_Mod_emergency_63 : decode b_Mod_emergency 63 = .ok (.aload_n 0, 1) := by decide +kernel
theorem d_Mod_emergency_64 : decode b_Mod_emergency 64 = .ok (.invokevirtual 178, 3) := by decide +kernel
theorem d_Mod_emergency_67 : decode b_Mod_emergency 67 = .ok (.aload_n 0, 1) := by decide +kernel
theorem d_Mod_emergency_68 : decode b_Mod_emergency 68 = .ok (.getfield 99, 3) := by decide +kernel
theorem d_Mod_emergency_71 : decode b_Mod_emergency 71 = .ok (.ifCond .eq 7, 3) := by decide +kernel
theorem d_Mod_emergency_74 : decode b_Mod_emergency 74 = .ok (.iconst 0, 1) := by decide +kernel
theorem d_Mod_emergency_75 : decode b_Mod_emergency 75 = .ok (.goto 4, 3) := by decide +kernel
theorem d_Mod_emergency_78 : decode b_Mod_emergency 78 = .ok (.iconst 1, 1) := by decide +kernel
theorem d_Mod_emergency_79 : decode b_Mod_emergency 79 = .ok (.ireturn, 1) := by decide +kernel
theorem d_Mod_save_0 : decode b_Mod_save 0 = .ok (.aload_n 0, 1) := by decide +kernel
theorem d_Mod_save_1 : decode b_Mod_save 1 = .ok (.iconst 0, 1) := by decide +kernel
theorem d_Mod_save_2 : decode b_Mod_save 2 = .ok (.putfield 58, 3) := by decide +kernel
theorem d_Mod_save_5 : decode b_Mod_save 5 = .ok (.aload_n 0, 1) := by decide +kernel
theorem d_Mod_save_6 : decode b_Mod_save 6 = .ok (.getfield 7, 3) := by decide +kernel
theorem d_Mod_save_9 : decode b_Mod_save 9 = .ok (.ifCond .ne 9, 3) := by decide +kernel
theorem d_Mod_save_12 : decode b_Mod_save 12 = .ok (.aload_n 0, 1) := by decide +kernel
theorem d_Mod_save_13 : decode b_Mod_save 13 = .ok (.iconst 1, 1) := by decide +kernel
theorem d_Mod_save_14 : decode b_Mod_save 14 = .ok (.invokevirtual 71, 3) := by decide +kernel
theorem d_Mod_save_17 : decode b_Mod_save 17 = .ok (.ireturn, 1) := by decide +kernel
theorem d_Mod_save_18 : decode b_Mod_save 18 = .ok (.aload_n 0, 1) := by decide +kernel
theorem d_Mod_save_19 : decode b_Mod_save 19 = .ok (.invokevirtual 142, 3) := by decide +kernel
theorem d_Mod_save_22 : decode b_Mod_save 22 = .ok (.lstore_n 1, 1) := by decide +kernel
theorem d_Mod_save_23 : decode b_Mod_save 23 = .ok (.aload_n 0, 1) := by decide +kernel
theorem d_Mod_save_24 : decode b_Mod_save 24 = .ok (.getfield 110, 3) := by decide +kernel
theorem d_Mod_save_27 : decode b_Mod_save 27 = .ok (.ifCond .ne 8, 3) := by decide +kernel
theorem d_Mod_save_30 : decode b_Mod_save 30 = .ok (.lload_n 1, 1) := by decide +kernel
theorem d_Mod_save_31 : decode b_Mod_save 31 = .ok (.l2i, 1) := by decide +kernel
theorem d_Mod_save_32 : decode b_Mod_save 32 = .ok (.goto 13, 3) := by decide +kernel
theorem d_Mod_save_35 : decode b_Mod_save 35 = .ok (.aload_n 0, 1) := by decide +kernel
theorem d_Mod_save_36 : decode b_Mod_save 36 = .ok (.iconst 1, 1) := by decide +kernel
theorem d_Mod_save_37 : decode b_Mod_save 37 = .ok (.aload_n 0, 1) := by decide +kernel
theorem d_Mod_save_38 : decode b_Mod_save 38 = .ok (.getfield 110, 3) := by decide +kernel
theorem d_Mod_save_41 : decode b_Mod_save 41 = .ok (.iadd, 1) := by decide +kernel
theorem d_Mod_save_42 : decode b_Mod_save 42 = .ok (.invokevirtual 71, 3) := by decide +kernel
theorem d_Mod_save_45 : decode b_Mod_save 45 = .ok (.ireturn, 1) := by decide +kernel
theorem d_Mod_cut_0 : decode b_Mod_cut 0 = .ok (.aload_n 0, 1) := by decide +kernel
theorem d_Mod_cut_1 : decode b_Mod_cut 1 = .ok (.iconst 0, 1) := by decide +kernel
theorem d_Mod_cut_2 : decode b_Mod_cut 2 = .ok (.putfield 58, 3) := by decide +kernel
theorem d_Mod_cut_5 : decode b_Mod_cut 5 = .ok (.iload_n 1, 1) := by decide +kernel
theorem d_Mod_cut_6 : decode b_Mod_cut 6 = .ok (.iconst 0, 1) := by decide +kernel
theorem d_Mod_cut_7 : decode b_Mod_cut 7 = .ok (.iconst 5, 1) := by decide +kernel
theorem d_Mod_cut_8 : decode b_Mod_cut 8 = .ok (.invokestatic 67, 3) := by decide +kernel
theorem d_Mod_cut_11 : decode b_Mod_cut 11 = .ok (.ifCond .ne 9, 3) := by decide +kernel
theorem d_Mod_cut_14 : decode b_Mod_cut 14 = .ok (.aload_n 0, 1) := by decide +kernel
theorem d_Mod_cut_15 : decode b_Mod_cut 15 = .ok (.iconst 1, 1) := by decide +kernel
theorem d_Mod_cut_16 : decode b_Mod_cut 16 = .ok (.invokevirtual 71, 3) := by decide +kernel
theorem d_Mod_cut_19 : decode b_Mod_cut 19 = .ok (.ireturn, 1) := by decide +kernel
theorem d_Mod_cut_20 : decode b_Mod_cut 20 = .ok (.aload_n 0, 1) := by decide +kernel
theorem d_Mod_cut_21 : decode b_Mod_cut 21 = .ok (.getfield 47, 3) := by decide +kernel
theorem d_Mod_cut_24 : decode b_Mod_cut 24 = .ok (.istore_n 2, 1) := by decide +kernel
theorem d_Mod_cut_25 : decode b_Mod_cut 25 = .ok (.aload_n 0, 1) := by decide +kernel
theorem d_Mod_cut_26 : decode b_Mod_cut 26 = .ok (.iload_n 1, 1) := by decide +kernel
theorem d_Mod_cut_27 : decode b_Mod_cut 27 = .ok (.putfield 47, 3) := by decide +kernel
theorem d_Mod_cut_30 : decode b_Mod_cut 30 = .ok (.iload_n 2, 1) := by decide +kernel
theorem d_Mod_cut_31 : decode b_Mod_cut 31 = .ok (.ireturn, 1) := by decide +kernel
theorem d_Mod_power_0 : decode b_Mod_power 0 = .ok (.aload_n 0, 1) := by decide +kernel
theorem d_Mod_power_1 : decode b_Mod_power 1 = .ok (.iconst 0, 1) := by decide +kernel
theorem d_Mod_power_2 : decode b_Mod_power 2 = .ok (.putfield 58, 3) := by decide +kernel
theorem d_Mod_power_5 : decode b_Mod_power 5 = .ok (.aload_n 0, 1) := by decide +kernel
theorem d_Mod_power_6 : decode b_Mod_power 6 = .ok (.getfield 7, 3) := by decide +kernel
theorem d_Mod_power_9 : decode b_Mod_power 9 = .ok (.iload_n 1, 1) := by decide +kernel
theorem d_Mod_power_10 : decode b_Mod_power 10 = .ok (.if_icmp .ne 9, 3) := by decide +kernel
theorem d_Mod_power_13 : decode b_Mod_power 13 = .ok (.aload_n 0, 1) := by decide +kernel
theorem d_Mod_power_14 : decode b_Mod_power 14 = .ok (.iconst 1, 1) := by decide +kernel
theorem d_Mod_power_15 : decode b_Mod_power 15 = .ok (.invokevirtual 71, 3) := by decide +kernel
theorem d_Mod_power_18 : decode b_Mod_power 18 = .ok (.ireturn, 1) := by decide +kernel
theorem d_Mod_power_19 : decode b_Mod_power 19 = .ok (.aload_n 0, 1) := by decide +kernel
theorem d_Mod_power_20 : decode b_Mod_power 20 = .ok (.iload_n 1, 1) := by decide +kernel
theorem d_Mod_power_21 : decode b_Mod_power 21 = .ok (.putfield 7, 3) := by decide +kernel
theorem d_Mod_power_24 : decode b_Mod_power 24 = .ok (.aload_n 0, 1) := by decide +kernel
theorem d_Mod_power_25 : decode b_Mod_power 25 = .ok (.iconst 0, 1) := by decide +kernel
theorem d_Mod_power_26 : decode b_Mod_power 26 = .ok (.putfield 61, 3) := by decide +kernel
theorem d_Mod_power_29 : decode b_Mod_power 29 = .ok (.aload_n 0, 1) := by decide +kernel
theorem d_Mod_power_30 : decode b_Mod_power 30 = .ok (.iconst 0, 1) := by decide +kernel
theorem d_Mod_power_31 : decode b_Mod_power 31 = .ok (.putfield 181, 3) := by decide +kernel
theorem d_Mod_power_34 : decode b_Mod_power 34 = .ok (.aload_n 0, 1) := by decide +kernel
theorem d_Mod_power_35 : decode b_Mod_power 35 = .ok (.iconst 0, 1) := by decide +kernel
theorem d_Mod_power_36 : decode b_Mod_power 36 = .ok (.putfield 184, 3) := by decide +kernel
theorem d_Mod_power_39 : decode b_Mod_power 39 = .ok (.aload_n 0, 1) := by decide +kernel
theorem d_Mod_power_40 : decode b_Mod_power 40 = .ok (.iconst 0, 1) := by decide +kernel
theorem d_Mod_power_41 : decode b_Mod_power 41 = .ok (.putfield 187, 3) := by decide +kernel
theorem d_Mod_power_44 : decode b_Mod_power 44 = .ok (.iload_n 1, 1) := by decide +kernel
theorem d_Mod_power_45 : decode b_Mod_power 45 = .ok (.ifCond .ne 5, 3) := by decide +kernel
theorem d_Mod_power_48 : decode b_Mod_power 48 = .ok (.iconst (-1), 1) := by decide +kernel
theorem d_Mod_power_49 : decode b_Mod_power 49 = .ok (.ireturn, 1) := by decide +kernel
theorem d_Mod_power_50 : decode b_Mod_power 50 = .ok (.aload_n 0, 1) := by decide +kernel
theorem d_Mod_power_51 : decode b_Mod_power 51 = .ok (.invokevirtual 190, 3) := by decide +kernel
theorem d_Mod_power_54 : decode b_Mod_power 54 = .ok (.iconst 0, 1) := by decide +kernel
theorem d_Mod_power_55 : decode b_Mod_power 55 = .ok (.istore_n 2, 1) := by decide +kernel
theorem d_Mod_power_56 : decode b_Mod_power 56 = .ok (.iconst 0, 1) := by decide +kernel
theorem d_Mod_power_57 : decode b_Mod_power 57 = .ok (.istore_n 3, 1) := by decide +kernel
theorem d_Mod_power_58 : decode b_Mod_power 58 = .ok (.iload_n 3, 1) := by decide +kernel
theorem d_Mod_power_59 : decode b_Mod_power 59 = .ok (.bipush 12, 2) := by decide +kernel
theorem d_Mod_power_61 : decode b_Mod_power 61 = .ok (.if_icmp .ge 20, 3) := by decide +kernel
theorem d_Mod_power_64 : decode b_Mod_power 64 = .ok (.aload_n 0, 1) := by decide +kernel
theorem d_Mod_power_65 : decode b_Mod_power 65 = .ok (.iload_n 3, 1) := by decide +kernel
theorem d_Mod_power_66 : decode b_Mod_power 66 = .ok (.invokevirtual 89, 3) := by decide +kernel
theorem d_Mod_power_69 : decode b_Mod_power 69 = .ok (.ifCond .eq 6, 3) := by decide +kernel
theorem d_Mod_power_72 : decode b_Mod_power 72 = .ok (.iinc 2 1, 3) := by decide +kernel
theorem d_Mod_power_75 : decode b_Mod_power 75 = .ok (.iinc 3 1, 3) := by decide +kernel
theorem d_Mod_power_78 : decode b_Mod_power 78 = .ok (.goto (-20), 3) := by decide +kernel
theorem d_Mod_power_81 : decode b_Mod_power 81 = .ok (.iload_n 2, 1) := by decide +kernel
theorem d_Mod_power_82 : decode b_Mod_power 82 = .ok (.ireturn, 1) := by decide +kernel
theorem d_Mod_stepOf_0 : decode b_Mod_stepOf 0 = .ok (.iload_n 0, 1) := by decide +kernel
theorem d_Mod_stepOf_1 : decode b_Mod_stepOf 1 = .ok (.iload_n 1, 1) := by decide +kernel
theorem d_Mod_stepOf_2 : decode b_Mod_stepOf 2 = .ok (.ixor, 1) := by decide +kernel
theorem d_Mod_stepOf_3 : decode b_Mod_stepOf 3 = .ok (.istore_n 2, 1) := by decide +kernel
theorem d_Mod_stepOf_4 : decode b_Mod_stepOf 4 = .ok (.iconst 0, 1) := by decide +kernel
theorem d_Mod_stepOf_5 : decode b_Mod_stepOf 5 = .ok (.istore_n 3, 1) := by decide +kernel
theorem d_Mod_stepOf_6 : decode b_Mod_stepOf 6 = .ok (.iload_n 3, 1) := by decide +kernel
theorem d_Mod_stepOf_7 : decode b_Mod_stepOf 7 = .ok (.bipush 8, 2) := by decide +kernel
theorem d_Mod_stepOf_9 : decode b_Mod_stepOf 9 = .ok (.if_icmp .ge 28, 3) := by decide +kernel
theorem d_Mod_stepOf_12 : decode b_Mod_stepOf 12 = .ok (.iload_n 2, 1) := by decide +kernel
theorem d_Mod_stepOf_13 : decode b_Mod_stepOf 13 = .ok (.iconst 1, 1) := by decide +kernel
theorem d_Mod_stepOf_14 : decode b_Mod_stepOf 14 = .ok (.iand, 1) := by decide +kernel
theorem d_Mod_stepOf_15 : decode b_Mod_stepOf 15 = .ok (.ifCond .eq 12, 3) := by decide +kernel
theorem d_Mod_stepOf_18 : decode b_Mod_stepOf 18 = .ok (.iload_n 2, 1) := by decide +kernel
theorem d_Mod_stepOf_19 : decode b_Mod_stepOf 19 = .ok (.iconst 2, 1) := by decide +kernel
theorem d_Mod_stepOf_20 : decode b_Mod_stepOf 20 = .ok (.idiv, 1) := by decide +kernel
theorem d_Mod_stepOf_21 : decode b_Mod_stepOf 21 = .ok (.ldc 193, 2) := by decide +kernel
theorem d_Mod_stepOf_23 : decode b_Mod_stepOf 23 = .ok (.ixor, 1) := by decide +kernel
theorem d_Mod_stepOf_24 : decode b_Mod_stepOf 24 = .ok (.goto 6, 3) := by decide +kernel
theorem d_Mod_stepOf_27 : decode b_Mod_stepOf 27 = .ok (.iload_n 2, 1) := by decide +kernel
theorem d_Mod_stepOf_28 : decode b_Mod_stepOf 28 = .ok (.iconst 2, 1) := by decide +kernel
theorem d_Mod_stepOf_29 : decode b_Mod_stepOf 29 = .ok (.idiv, 1) := by decide +kernel
theorem d_Mod_stepOf_30 : decode b_Mod_stepOf 30 = .ok (.istore_n 2, 1) := by decide +kernel
theorem d_Mod_stepOf_31 : decode b_Mod_stepOf 31 = .ok (.iinc 3 1, 3) := by decide +kernel
theorem d_Mod_stepOf_34 : decode b_Mod_stepOf 34 = .ok (.goto (-28), 3) := by decide +kernel
theorem d_Mod_stepOf_37 : decode b_Mod_stepOf 37 = .ok (.iload_n 2, 1) := by decide +kernel
theorem d_Mod_stepOf_38 : decode b_Mod_stepOf 38 = .ok (.ireturn, 1) := by decide +kernel
theorem d_Mod_fcs_0 : decode b_Mod_fcs 0 = .ok (.ldc 194, 2) := by decide +kernel
theorem d_Mod_fcs_2 : decode b_Mod_fcs 2 = .ok (.istore_n 2, 1) := by decide +kernel
theorem d_Mod_fcs_3 : decode b_Mod_fcs 3 = .ok (.iconst 0, 1) := by decide +kernel
theorem d_Mod_fcs_4 : decode b_Mod_fcs 4 = .ok (.istore_n 3, 1) := by decide +kernel
theorem d_Mod_fcs_5 : decode b_Mod_fcs 5 = .ok (.iload_n 3, 1) := by decide +kernel
theorem d_Mod_fcs_6 : decode b_Mod_fcs 6 = .ok (.iload_n 1, 1) := by decide +kernel
theorem d_Mod_fcs_7 : decode b_Mod_fcs 7 = .ok (.if_icmp .ge 20, 3) := by decide +kernel
theorem d_Mod_fcs_10 : decode b_Mod_fcs 10 = .ok (.iload_n 2, 1) := by decide +kernel
theorem d_Mod_fcs_11 : decode b_Mod_fcs 11 = .ok (.aload_n 0, 1) := by decide +kernel
theorem d_Mod_fcs_12 : decode b_Mod_fcs 12 = .ok (.getfield 50, 3) := by decide +kernel
theorem d_Mod_fcs_15 : decode b_Mod_fcs 15 = .ok (.iload_n 3, 1) := by decide +kernel
theorem d_Mod_fcs_16 : decode b_Mod_fcs 16 = .ok (.iaload, 1) := by decide +kernel
theorem d_Mod_fcs_17 : decode b_Mod_fcs 17 = .ok (.invokestatic 195, 3) := by decide +kernel
theorem d_Mod_fcs_20 : decode b_Mod_fcs 20 = .ok (.istore_n 2, 1) := by decide +kernel
theorem d_Mod_fcs_21 : decode b_Mod_fcs 21 = .ok (.iinc 3 1, 3) := by decide +kernel
theorem d_Mod_fcs_24 : decode b_Mod_fcs 24 = .ok (.goto (-19), 3) := by decide +kernel
theorem d_Mod_fcs_27 : decode b_Mod_fcs 27 = .ok (.ldc 194, 2) := by decide +kernel
theorem d_Mod_fcs_29 : decode b_Mod_fcs 29 = .ok (.iload_n 2, 1) := by decide +kernel
theorem d_Mod_fcs_30 : decode b_Mod_fcs 30 = .ok (.isub, 1) := by decide +kernel
theorem d_Mod_fcs_31 : decode b_Mod_fcs 31 = .ok (.ireturn, 1) := by decide +kernel
theorem d_Mod_scaled_0 : decode b_Mod_scaled 0 = .ok (.dload_n 1, 1) := by decide +kernel
theorem d_Mod_scaled_1 : decode b_Mod_scaled 1 = .ok (.ldc2_w 93, 3) := by decide +kernel
theorem d_Mod_scaled_4 : decode b_Mod_scaled 4 = .ok (.dmul, 1) := by decide +kernel
theorem d_Mod_scaled_5 : decode b_Mod_scaled 5 = .ok (.d2l, 1) := by decide +kernel
theorem d_Mod_scaled_6 : decode b_Mod_scaled 6 = .ok (.lreturn, 1) := by decide +kernel
theorem d_Mod_known_0 : decode b_Mod_known 0 = .ok (.iload_n 1, 1) := by decide +kernel
theorem d_Mod_known_1 : decode b_Mod_known 1 = .ok (.ifCond .ne 9, 3) := by decide +kernel
theorem d_Mod_known_4 : decode b_Mod_known 4 = .ok (.iload_n 2, 1) := by decide +kernel
theorem d_Mod_known_5 : decode b_Mod_known 5 = .ok (.bipush 6, 2) := by decide +kernel
theorem d_Mod_known_7 : decode b_Mod_known 7 = .ok (.if_icmp .lt 26, 3) := by decide +kernel
theorem d_Mod_known_10 : decode b_Mod_known 10 = .ok (.iload_n 1, 1) := by decide +kernel
theorem d_Mod_known_11 : decode b_Mod_known 11 = .ok (.iconst 1, 1) := by decide +kernel
theorem d_Mod_known_12 : decode b_Mod_known 12 = .ok (.if_icmp .ne 8, 3) := by decide +kernel
theorem d_Mod_known_15 : decode b_Mod_known 15 = .ok (.iload_n 2, 1) := by decide +kernel
theorem d_Mod_known_16 : decode b_Mod_known 16 = .ok (.iconst 4, 1) := by decide +kernel
theorem d_Mod_known_17 : decode b_Mod_known 17 = .ok (.if_icmp .lt 16, 3) := by decide +kernel
theorem d_Mod_known_20 : decode b_Mod_known 20 = .ok (.iload_n 1, 1) := by decide +kernel
theorem d_Mod_known_21 : decode b_Mod_known 21 = .ok (.iconst 2, 1) := by decide +kernel
theorem d_Mod_known_22 : decode b_Mod_known 22 = .ok (.if_icmp .ne 15, 3) := by decide +kernel
theorem d_Mod_known_25 : decode b_Mod_known 25 = .ok (.iload_n 2, 1) := by decide +kernel
theorem d_Mod_known_26 : decode b_Mod_known 26 = .ok (.aload_n 0, 1) := by decide +kernel
theorem d_Mod_known_27 : decode b_Mod_known 27 = .ok (.getfield 61, 3) := by decide +kernel
theorem d_Mod_known_30 : decode b_Mod_known 30 = .ok (.if_icmp .ge 7, 3) := by decide +kernel
theorem d_Mod_known_33 : decode b_Mod_known 33 = .ok (.iconst 1, 1) := by decide +kernel
theorem d_Mod_known_34 : decode b_Mod_known 34 = .ok (.goto 4, 3) := by decide +kernel
theorem d_Mod_known_37 : decode b_Mod_known 37 = .ok (.iconst 0, 1) := by decide +kernel
theorem d_Mod_known_38 : decode b_Mod_known 38 = .ok (.ireturn, 1) := by decide +kernel
theorem d_Mod_answer_0 : decode b_Mod_answer 0 = .ok (.iload_n 1, 1) := by decide +kernel
theorem d_Mod_answer_1 : decode b_Mod_answer 1 = .ok (.iconst 1, 1) := by decide +kernel
theorem d_Mod_answer_2 : decode b_Mod_answer 2 = .ok (.if_icmp .ne 11, 3) := by decide +kernel
theorem d_Mod_answer_5 : decode b_Mod_answer 5 = .ok (.aload_n 0, 1) := by decide +kernel
theorem d_Mod_answer_6 : decode b_Mod_answer 6 = .ok (.getfield 40, 3) := by decide +kernel
theorem d_Mod_answer_9 : decode b_Mod_answer 9 = .ok (.iload_n 2, 1) := by decide +kernel
theorem d_Mod_answer_10 : decode b_Mod_answer 10 = .ok (.iaload, 1) := by decide +kernel
theorem d_Mod_answer_11 : decode b_Mod_answer 11 = .ok (.i2l, 1) := by decide +kernel
theorem d_Mod_answer_12 : decode b_Mod_answer 12 = .ok (.lreturn, 1) := by decide +kernel
theorem d_Mod_answer_13 : decode b_Mod_answer 13 = .ok (.iload_n 1, 1) := by decide +kernel
theorem d_Mod_answer_14 : decode b_Mod_answer 14 = .ok (.iconst 2, 1) := by decide +kernel
theorem d_Mod_answer_15 : decode b_Mod_answer 15 = .ok (.if_icmp .ne 11, 3) := by decide +kernel
theorem d_Mod_answer_18 : decode b_Mod_answer 18 = .ok (.aload_n 0, 1) := by decide +kernel
theorem d_Mod_answer_19 : decode b_Mod_answer 19 = .ok (.getfield 33, 3) := by decide +kernel
theorem d_Mod_answer_22 : decode b_Mod_answer 22 = .ok (.iload_n 2, 1) := by decide +kernel
theorem d_Mod_answer_23 : decode b_Mod_answer 23 = .ok (.iaload, 1) := by decide +kernel
theorem d_Mod_answer_24 : decode b_Mod_answer 24 = .ok (.i2l, 1) := by decide +kernel
theorem d_Mod_answer_25 : decode b_Mod_answer 25 = .ok (.lreturn, 1) := by decide +kernel
theorem d_Mod_answer_26 : decode b_Mod_answer 26 = .ok (.iload_n 2, 1) := by decide +kernel
theorem d_Mod_answer_27 : decode b_Mod_answer 27 = .ok (.iconst 3, 1) := by decide +kernel
theorem d_Mod_answer_28 : decode b_Mod_answer 28 = .ok (.if_icmp .ge 14, 3) := by decide +kernel
theorem d_Mod_answer_31 : decode b_Mod_answer 31 = .ok (.aload_n 0, 1) := by decide +kernel
theorem d_Mod_answer_32 : decode b_Mod_answer 32 = .ok (.aload_n 0, 1) := by decide +kernel
theorem d_Mod_answer_33 : decode b_Mod_answer 33 = .ok (.getfield 19, 3) := by decide +kernel
theorem d_Mod_answer_36 : decode b_Mod_answer 36 = .ok (.iload_n 2, 1) := by decide +kernel
theorem d_Mod_answer_37 : decode b_Mod_answer 37 = .ok (.daload, 1) := by decide +kernel
theorem d_Mod_answer_38 : decode b_Mod_answer 38 = .ok (.invokevirtual 199, 3) := by decide +kernel
theorem d_Mod_answer_41 : decode b_Mod_answer 41 = .ok (.lreturn, 1) := by decide +kernel
theorem d_Mod_answer_42 : decode b_Mod_answer 42 = .ok (.iload_n 2, 1) := by decide +kernel
theorem d_Mod_answer_43 : decode b_Mod_answer 43 = .ok (.iconst 3, 1) := by decide +kernel
theorem d_Mod_answer_44 : decode b_Mod_answer 44 = .ok (.if_icmp .ne 14, 3) := by decide +kernel
theorem d_Mod_answer_47 : decode b_Mod_answer 47 = .ok (.aload_n 0, 1) := by decide +kernel
theorem d_Mod_answer_48 : decode b_Mod_answer 48 = .ok (.aload_n 0, 1) := by decide +kernel
theorem d_Mod_answer_49 : decode b_Mod_answer 49 = .ok (.getfield 15, 3) := by decide +kernel
theorem d_Mod_answer_52 : decode b_Mod_answer 52 = .ok (.invokevirtual 199, 3) := by decide +kernel
theorem d_Mod_answer_55 : decode b_Mod_answer 55 = .ok (.goto 24, 3) := by decide +kernel
theorem d_Mod_answer_58 : decode b_Mod_answer 58 = .ok (.iload_n 2, 1) := by decide +kernel
theorem d_Mod_answer_59 : decode b_Mod_answer 59 = .ok (.iconst 4, 1) := by decide +kernel
theorem d_Mod_answer_60 : decode b_Mod_answer 60 = .ok (.if_icmp .ne 14, 3) := by decide +kernel
theorem d_Mod_answer_63 : decode b_Mod_answer 63 = .ok (.aload_n 0, 1) := by decide +kernel
theorem d_Mod_answer_64 : decode b_Mod_answer 64 = .ok (.aload_n 0, 1) := by decide +kernel
theorem d_Mod_answer_65 : decode b_Mod_answer 65 = .ok (.getfield 124, 3) := by decide +kernel
theorem d_Mod_answer_68 : decode b_Mod_answer 68 = .ok (.invokevirtual 199, 3) := by decide +kernel
theorem d_Mod_answer_71 : decode b_Mod_answer 71 = .ok (.goto 8, 3) := by decide +kernel
theorem d_Mod_answer_74 : decode b_Mod_answer 74 = .ok (.aload_n 0, 1) := by decide +kernel
theorem d_Mod_answer_75 : decode b_Mod_answer 75 = .ok (.getfield 64, 3) := by decide +kernel
theorem d_Mod_answer_78 : decode b_Mod_answer 78 = .ok (.i2l, 1) := by decide +kernel
theorem d_Mod_answer_79 : decode b_Mod_answer 79 = .ok (.lreturn, 1) := by decide +kernel
theorem d_Mod_send_0 : decode b_Mod_send 0 = .ok (.iload_n 1, 1) := by decide +kernel
theorem d_Mod_send_1 : decode b_Mod_send 1 = .ok (.bipush 126, 2) := by decide +kernel
theorem d_Mod_send_3 : decode b_Mod_send 3 = .ok (.if_icmp .eq 9, 3) := by decide +kernel
theorem d_Mod_send_6 : decode b_Mod_send 6 = .ok (.iload_n 1, 1) := by decide +kernel
theorem d_Mod_send_7 : decode b_Mod_send 7 = .ok (.bipush 125, 2) := by decide +kernel
theorem d_Mod_send_9 : decode b_Mod_send 9 = .ok (.if_icmp .ne 24, 3) := by decide +kernel
theorem d_Mod_send_12 : decode b_Mod_send 12 = .ok (.aload_n 0, 1) := by decide +kernel
theorem d_Mod_send_13 : decode b_Mod_send 13 = .ok (.getfield 53, 3) := by decide +kernel
theorem d_Mod_send_16 : decode b_Mod_send 16 = .ok (.aload_n 0, 1) := by decide +kernel
theorem d_Mod_send_17 : decode b_Mod_send 17 = .ok (.getfield 203, 3) := by decide +kernel
theorem d_Mod_send_20 : decode b_Mod_send 20 = .ok (.bipush 125, 2) := by decide +kernel
theorem d_Mod_send_22 : decode b_Mod_send 22 = .ok (.iastore, 1) := by decide +kernel
theorem d_Mod_send_23 : decode b_Mod_send 23 = .ok (.aload_n 0, 1) := by decide +kernel
theorem d_Mod_send_24 : decode b_Mod_send 24 = .ok (.dup, 1) := by decide +kernel
theorem d_Mod_send_25 : decode b_Mod_send 25 = .ok (.getfield 203, 3) := by decide +kernel
theorem d_Mod_send_28 : decode b_Mod_send 28 = .ok (.iconst 1, 1) := by decide +kernel
theorem d_Mod_send_29 : decode b_Mod_send 29 = .ok (.iadd, 1) := by decide +kernel
theorem d_Mod_send_30 : decode b_Mod_send 30 = .ok (.putfield 203, 3) := by decide +kernel
theorem d_Mod_send_33 : decode b_Mod_send 33 = .ok (.aload_n 0, 1) := by decide +kernel
theorem d_Mod_send_34 : decode b_Mod_send 34 = .ok (.getfield 53, 3) := by decide +kernel
theorem d_Mod_send_37 : decode b_Mod_send 37 = .ok (.aload_n 0, 1) := by decide +kernel
theorem d_Mod_send_38 : decode b_Mod_send 38 = .ok (.getfield 203, 3) := by decide +kernel
theorem d_Mod_send_41 : decode b_Mod_send 41 = .ok (.iload_n 1, 1) := by decide +kernel
theorem d_Mod_send_42 : decode b_Mod_send 42 = .ok (.bipush 126, 2) := by decide +kernel
theorem d_Mod_send_44 : decode b_Mod_send 44 = .ok (.if_icmp .eq 9, 3) := by decide +kernel
theorem d_Mod_send_47 : decode b_Mod_send 47 = .ok (.iload_n 1, 1) := by decide +kernel
theorem d_Mod_send_48 : decode b_Mod_send 48 = .ok (.bipush 125, 2) := by decide +kernel
theorem d_Mod_send_50 : decode b_Mod_send 50 = .ok (.if_icmp .ne 10, 3) := by decide +kernel
theorem d_Mod_send_53 : decode b_Mod_send 53 = .ok (.iload_n 1, 1) := by decide +kernel
theorem d_Mod_send_54 : decode b_Mod_send 54 = .ok (.bipush 32, 2) := by decide +kernel
theorem d_Mod_send_56 : decode b_Mod_send 56 = .ok (.ixor, 1) := by decide +kernel
theorem d_Mod_send_57 : decode b_Mod_send 57 = .ok (.goto 4, 3) := by decide +kernel
theorem d_Mod_send_60 : decode b_Mod_send 60 = .ok (.iload_n 1, 1) := by decide +kernel
theorem d_Mod_send_61 : decode b_Mod_send 61 = .ok (.iastore, 1) := by decide +kernel
theorem d_Mod_send_62 : decode b_Mod_send 62 = .ok (.aload_n 0, 1) := by decide +kernel
theorem d_Mod_send_63 : decode b_Mod_send 63 = .ok (.dup, 1) := by decide +kernel
theorem d_Mod_send_64 : decode b_Mod_send 64 = .ok (.getfield 203, 3) := by decide +kernel
theorem d_Mod_send_67 : decode b_Mod_send 67 = .ok (.iconst 1, 1) := by decide +kernel
theorem d_Mod_send_68 : decode b_Mod_send 68 = .ok (.iadd, 1) := by decide +kernel
theorem d_Mod_send_69 : decode b_Mod_send 69 = .ok (.putfield 203, 3) := by decide +kernel
theorem d_Mod_send_72 : decode b_Mod_send 72 = .ok (.return_, 1) := by decide +kernel
theorem d_Mod_makeReply_0 : decode b_Mod_makeReply 0 = .ok (.aload_n 0, 1) := by decide +kernel
theorem d_Mod_makeReply_1 : decode b_Mod_makeReply 1 = .ok (.iconst 1, 1) := by decide +kernel
theorem d_Mod_makeReply_2 : decode b_Mod_makeReply 2 = .ok (.putfield 203, 3) := by decide +kernel
theorem d_Mod_makeReply_5 : decode b_Mod_makeReply 5 = .ok (.aload_n 0, 1) := by decide +kernel
theorem d_Mod_makeReply_6 : decode b_Mod_makeReply 6 = .ok (.getfield 53, 3) := by decide +kernel
theorem d_Mod_makeReply_9 : decode b_Mod_makeReply 9 = .ok (.iconst 0, 1) := by decide +kernel
theorem d_Mod_makeReply_10 : decode b_Mod_makeReply 10 = .ok (.bipush 126, 2) := by decide +kernel
theorem d_Mod_makeReply_12 : decode b_Mod_makeReply 12 = .ok (.iastore, 1) := by decide +kernel
theorem d_Mod_makeReply_13 : decode b_Mod_makeReply 13 = .ok (.aload_n 0, 1) := by decide +kernel
theorem d_Mod_makeReply_14 : decode b_Mod_makeReply 14 = .ok (.getfield 50, 3) := by decide +kernel
theorem d_Mod_makeReply_17 : decode b_Mod_makeReply 17 = .ok (.iconst 0, 1) := by decide +kernel
theorem d_Mod_makeReply_18 : decode b_Mod_makeReply 18 = .ok (.iload_n 1, 1) := by decide +kernel
theorem d_Mod_makeReply_19 : decode b_Mod_makeReply 19 = .ok (.sipush 128, 3) := by decide +kernel
theorem d_Mod_makeReply_22 : decode b_Mod_makeReply 22 = .ok (.iadd, 1) := by decide +kernel
theorem d_Mod_makeReply_23 : decode b_Mod_makeReply 23 = .ok (.iastore, 1) := by decide +kernel
theorem d_Mod_makeReply_24 : decode b_Mod_makeReply 24 = .ok (.iconst 0, 1) := by decide +kernel
theorem d_Mod_makeReply_25 : decode b_Mod_makeReply 25 = .ok (.istore 4, 2) := by decide +kernel
theorem d_Mod_makeReply_27 : decode b_Mod_makeReply 27 = .ok (.iload 4, 2) := by decide +kernel
theorem d_Mod_makeReply_29 : decode b_Mod_makeReply 29 = .ok (.bipush 8, 2) := by decide +kernel
theorem d_Mod_makeReply_31 : decode b_Mod_makeReply 31 = .ok (.if_icmp .ge 33, 3) := by decide +kernel
theorem d_Mod_makeReply_34 : decode b_Mod_makeReply 34 = .ok (.aload_n 0, 1) := by decide +kernel
theorem d_Mod_makeReply_35 : decode b_Mod_makeReply 35 = .ok (.getfield 50, 3) := by decide +kernel
theorem d_Mod_makeReply_38 : decode b_Mod_makeReply 38 = .ok (.iconst 1, 1) := by decide +kernel
theorem d_Mod_makeReply_39 : decode b_Mod_makeReply 39 = .ok (.iload 4, 2) := by decide +kernel
theorem d_Mod_makeReply_41 : decode b_Mod_makeReply 41 = .ok (.iadd, 1) := by decide +kernel
theorem d_Mod_makeReply_42 : decode b_Mod_makeReply 42 = .ok (.lload_n 2, 1) := by decide +kernel
theorem d_Mod_makeReply_43 : decode b_Mod_makeReply 43 = .ok (.bipush 56, 2) := by decide +kernel
theorem d_Mod_makeReply_45 : decode b_Mod_makeReply 45 = .ok (.bipush 8, 2) := by decide +kernel
theorem d_Mod_makeReply_47 : decode b_Mod_makeReply 47 = .ok (.iload 4, 2) := by decide +kernel
theorem d_Mod_makeReply_49 : decode b_Mod_makeReply 49 = .ok (.imul, 1) := by decide +kernel
theorem d_Mod_makeReply_50 : decode b_Mod_makeReply 50 = .ok (.isub, 1) := by decide +kernel
theorem d_Mod_makeReply_51 : decode b_Mod_makeReply 51 = .ok (.lshr, 1) := by decide +kernel
theorem d_Mod_makeReply_52 : decode b_Mod_makeReply 52 = .ok (.l2i, 1) := by decide +kernel
theorem d_Mod_makeReply_53 : decode b_Mod_makeReply 53 = .ok (.sipush 255, 3) := by decide +kernel
theorem d_Mod_makeReply_56 : decode b_Mod_makeReply 56 = .ok (.iand, 1) := by decide +kernel
theorem d_Mod_makeReply_57 : decode b_Mod_makeReply 57 = .ok (.iastore, 1) := by decide +kernel
theorem d_Mod_makeReply_58 : decode b_Mod_makeReply 58 = .ok (.iinc 4 1, 3) := by decide +kernel
theorem d_Mod_makeReply_61 : decode b_Mod_makeReply 61 = .ok (.goto (-34), 3) := by decide +kernel
theorem d_Mod_makeReply_64 : decode b_Mod_makeReply 64 = .ok (.aload_n 0, 1) := by decide +kernel
theorem d_Mod_makeReply_65 : decode b_Mod_makeReply 65 = .ok (.bipush 9, 2) := by decide +kernel
theorem d_Mod_makeReply_67 : decode b_Mod_makeReply 67 = .ok (.invokevirtual 206, 3) := by decide +kernel
theorem d_Mod_makeReply_70 : decode b_Mod_makeReply 70 = .ok (.istore 4, 2) := by decide +kernel
theorem d_Mod_makeReply_72 : decode b_Mod_makeReply 72 = .ok (.iconst 0, 1) := by decide +kernel
theorem d_Mod_makeReply_73 : decode b_Mod_makeReply 73 = .ok (.istore 5, 2) := by decide +kernel
theorem d_Mod_makeReply_75 : decode b_Mod_makeReply 75 = .ok (.iload 5, 2) := by decide +kernel
theorem d_Mod_makeReply_77 : decode b_Mod_makeReply 77 = .ok (.bipush 9, 2) := by decide +kernel
theorem d_Mod_makeReply_79 : decode b_Mod_makeReply 79 = .ok (.if_icmp .ge 20, 3) := by decide +kernel
theorem d_Mod_makeReply_82 : decode b_Mod_makeReply 82 = .ok (.aload_n 0, 1) := by decide +kernel
theorem d_Mod_makeReply_83 : decode b_Mod_makeReply 83 = .ok (.aload_n 0, 1) := by decide +kernel
theorem d_Mod_makeReply_84 : decode b_Mod_makeReply 84 = .ok (.getfield 50, 3) := by decide +kernel
theorem d_Mod_makeReply_87 : decode b_Mod_makeReply 87 = .ok (.iload 5, 2) := by decide +kernel
theorem d_Mod_makeReply_89 : decode b_Mod_makeReply 89 = .ok (.iaload, 1) := by decide +kernel
theorem d_Mod_makeReply_90 : decode b_Mod_makeReply 90 = .ok (.invokevirtual 209, 3) := by decide +kernel
theorem d_Mod_makeReply_93 : decode b_Mod_makeReply 93 = .ok (.iinc 5 1, 3) := by decide +kernel
theorem d_Mod_makeReply_96 : decode b_Mod_makeReply 96 = .ok (.goto (-21), 3) := by decide +kernel
theorem d_Mod_makeReply_99 : decode b_Mod_makeReply 99 = .ok (.aload_n 0, 1) := by decide +kernel
theorem d_Mod_makeReply_100 : decode b_Mod_makeReply 100 = .ok (.iload 4, 2) := by decide +kernel
theorem d_Mod_makeReply_102 : decode b_Mod_makeReply 102 = .ok (.sipush 255, 3) := by decide +kernel
theorem d_Mod_makeReply_105 : decode b_Mod_makeReply 105 = .ok (.iand, 1) := by decide +kernel
theorem d_Mod_makeReply_106 : decode b_Mod_makeReply 106 = .ok (.invokevirtual 209, 3) := by decide +kernel
theorem d_Mod_makeReply_109 : decode b_Mod_makeReply 109 = .ok (.aload_n 0, 1) := by decide +kernel
theorem d_Mod_makeReply_110 : decode b_Mod_makeReply 110 = .ok (.iload 4, 2) := by decide +kernel
theorem d_Mod_makeReply_112 : decode b_Mod_makeReply 112 = .ok (.bipush 8, 2) := by decide +kernel
theorem d_Mod_makeReply_114 : decode b_Mod_makeReply 114 = .ok (.ishr, 1) := by decide +kernel
theorem d_Mod_makeReply_115 : decode b_Mod_makeReply 115 = .ok (.invokevirtual 209, 3) := by decide +kernel
theorem d_Mod_makeReply_118 : decode b_Mod_makeReply 118 = .ok (.aload_n 0, 1) := by decide +kernel
theorem d_Mod_makeReply_119 : decode b_Mod_makeReply 119 = .ok (.getfield 53, 3) := by decide +kernel
theorem d_Mod_makeReply_122 : decode b_Mod_makeReply 122 = .ok (.aload_n 0, 1) := by decide +kernel
theorem d_Mod_makeReply_123 : decode b_Mod_makeReply 123 = .ok (.getfield 203, 3) := by decide +kernel
theorem d_Mod_makeReply_126 : decode b_Mod_makeReply 126 = .ok (.bipush 126, 2) := by decide +kernel
theorem d_Mod_makeReply_128 : decode b_Mod_makeReply 128 = .ok (.iastore, 1) := by decide +kernel
theorem d_Mod_makeReply_129 : decode b_Mod_makeReply 129 = .ok (.aload_n 0, 1) := by decide +kernel
theorem d_Mod_makeReply_130 : decode b_Mod_makeReply 130 = .ok (.dup, 1) := by decide +kernel
theorem d_Mod_makeReply_131 : decode b_Mod_makeReply 131 = .ok (.getfield 203, 3) := by decide +kernel
theorem d_Mod_makeReply_134 : decode b_Mod_makeReply 134 = .ok (.iconst 1, 1) := by decide +kernel
theorem d_Mod_makeReply_135 : decode b_Mod_makeReply 135 = .ok (.iadd, 1) := by decide +kernel
theorem d_Mod_makeReply_136 : decode b_Mod_makeReply 136 = .ok (.putfield 203, 3) := by decide +kernel
theorem d_Mod_makeReply_139 : decode b_Mod_makeReply 139 = .ok (.return_, 1) := by decide +kernel
theorem d_Mod_end_0 : decode b_Mod_end 0 = .ok (.aload_n 0, 1) := by decide +kernel
theorem d_Mod_end_1 : decode b_Mod_end 1 = .ok (.getfield 187, 3) := by decide +kernel
theorem d_Mod_end_4 : decode b_Mod_end 4 = .ok (.istore_n 1, 1) := by decide +kernel
theorem d_Mod_end_5 : decode b_Mod_end 5 = .ok (.aload_n 0, 1) := by decide +kernel
theorem d_Mod_end_6 : decode b_Mod_end 6 = .ok (.iconst 0, 1) := by decide +kernel
theorem d_Mod_end_7 : decode b_Mod_end 7 = .ok (.putfield 181, 3) := by decide +kernel
theorem d_Mod_end_10 : decode b_Mod_end 10 = .ok (.aload_n 0, 1) := by decide +kernel
theorem d_Mod_end_11 : decode b_Mod_end 11 = .ok (.iconst 0, 1) := by decide +kernel
theorem d_Mod_end_12 : decode b_Mod_end 12 = .ok (.putfield 187, 3) := by decide +kernel
theorem d_Mod_end_15 : decode b_Mod_end 15 = .ok (.iload_n 1, 1) := by decide +kernel
theorem d_Mod_end_16 : decode b_Mod_end 16 = .ok (.iconst 4, 1) := by decide +kernel
theorem d_Mod_end_17 : decode b_Mod_end 17 = .ok (.if_icmp .lt 9, 3) := by decide +kernel
theorem d_Mod_end_20 : decode b_Mod_end 20 = .ok (.iload_n 1, 1) := by decide +kernel
theorem d_Mod_end_21 : decode b_Mod_end 21 = .ok (.bipush 12, 2) := by decide +kernel
theorem d_Mod_end_23 : decode b_Mod_end 23 = .ok (.if_icmp .le 9, 3) := by decide +kernel
theorem d_Mod_end_26 : decode b_Mod_end 26 = .ok (.aload_n 0, 1) := by decide +kernel
theorem d_Mod_end_27 : decode b_Mod_end 27 = .ok (.iconst 2, 1) := by decide +kernel
theorem d_Mod_end_28 : decode b_Mod_end 28 = .ok (.invokevirtual 71, 3) := by decide +kernel
theorem d_Mod_end_31 : decode b_Mod_end 31 = .ok (.ireturn, 1) := by decide +kernel
theorem d_Mod_end_32 : decode b_Mod_end 32 = .ok (.aload_n 0, 1) := by decide +kernel
theorem d_Mod_end_33 : decode b_Mod_end 33 = .ok (.iload_n 1, 1) := by decide +kernel
theorem d_Mod_end_34 : decode b_Mod_end 34 = .ok (.iconst 2, 1) := by decide +kernel
theorem d_Mod_end_35 : decode b_Mod_end 35 = .ok (.isub, 1) := by decide +kernel
theorem d_Mod_end_36 : decode b_Mod_end 36 = .ok (.invokevirtual 206, 3) := by decide +kernel
theorem d_Mod_end_39 : decode b_Mod_end 39 = .ok (.istore_n 2, 1) := by decide +kernel
theorem d_Mod_end_40 : decode b_Mod_end 40 = .ok (.aload_n 0, 1) := by decide +kernel
theorem d_Mod_end_41 : decode b_Mod_end 41 = .ok (.getfield 50, 3) := by decide +kernel
theorem d_Mod_end_44 : decode b_Mod_end 44 = .ok (.iload_n 1, 1) := by decide +kernel
theorem d_Mod_end_45 : decode b_Mod_end 45 = .ok (.iconst 2, 1) := by decide +kernel
theorem d_Mod_end_46 : decode b_Mod_end 46 = .ok (.isub, 1) := by decide +kernel
theorem d_Mod_end_47 : decode b_Mod_end 47 = .ok (.iaload, 1) := by decide +kernel
theorem d_Mod_end_48 : decode b_Mod_end 48 = .ok (.iload_n 2, 1) := by decide +kernel
theorem d_Mod_end_49 : decode b_Mod_end 49 = .ok (.sipush 255, 3) := by decide +kernel
theorem d_Mod_end_52 : decode b_Mod_end 52 = .ok (.iand, 1) := by decide +kernel
theorem d_Mod_end_53 : decode b_Mod_end 53 = .ok (.if_icmp .ne 18, 3) := by decide +kernel
theorem d_Mod_end_56 : decode b_Mod_end 56 = .ok (.aload_n 0, 1) := by decide +kernel
theorem d_Mod_end_57 : decode b_Mod_end 57 = .ok (.getfield 50, 3) := by decide +kernel
theorem d_Mod_end_60 : decode b_Mod_end 60 = .ok (.iload_n 1, 1) := by decide +kernel
theorem d_Mod_end_61 : decode b_Mod_end 61 = .ok (.iconst 1, 1) := by decide +kernel
theorem d_Mod_end_62 : decode b_Mod_end 62 = .ok (.isub, 1) := by decide +kernel
theorem d_Mod_end_63 : decode b_Mod_end 63 = .ok (.iaload, 1) := by decide +kernel
theorem d_Mod_end_64 : decode b_Mod_end 64 = .ok (.iload_n 2, 1) := by decide +kernel
theorem d_Mod_end_65 : decode b_Mod_end 65 = .ok (.bipush 8, 2) := by decide +kernel
theorem d_Mod_end_67 : decode b_Mod_end 67 = .ok (.ishr, 1) := by decide +kernel
theorem d_Mod_end_68 : decode b_Mod_end 68 = .ok (.if_icmp .eq 9, 3) := by decide +kernel
theorem d_Mod_end_71 : decode b_Mod_end 71 = .ok (.aload_n 0, 1) := by decide +kernel
theorem d_Mod_end_72 : decode b_Mod_end 72 = .ok (.iconst 3, 1) := by decide +kernel
theorem d_Mod_end_73 : decode b_Mod_end 73 = .ok (.invokevirtual 71, 3) := by decide +kernel
theorem d_Mod_end_76 : decode b_Mod_end 76 = .ok (.ireturn, 1) := by decide +kernel
theorem d_Mod_end_77 : decode b_Mod_end 77 = .ok (.aload_n 0, 1) := by decide +kernel
theorem d_Mod_end_78 : decode b_Mod_end 78 = .ok (.getfield 50, 3) := by decide +kernel
theorem d_Mod_end_81 : decode b_Mod_end 81 = .ok (.iconst 0, 1) := by decide +kernel
theorem d_Mod_end_82 : decode b_Mod_end 82 = .ok (.iaload, 1) := by decide +kernel
theorem d_Mod_end_83 : decode b_Mod_end 83 = .ok (.istore_n 3, 1) := by decide +kernel
theorem d_Mod_end_84 : decode b_Mod_end 84 = .ok (.aload_n 0, 1) := by decide +kernel
theorem d_Mod_end_85 : decode b_Mod_end 85 = .ok (.getfield 50, 3) := by decide +kernel
theorem d_Mod_end_88 : decode b_Mod_end 88 = .ok (.iconst 1, 1) := by decide +kernel
theorem d_Mod_end_89 : decode b_Mod_end 89 = .ok (.iaload, 1) := by decide +kernel
theorem d_Mod_end_90 : decode b_Mod_end 90 = .ok (.istore 4, 2) := by decide +kernel
theorem d_Mod_end_92 : decode b_Mod_end 92 = .ok (.aload_n 0, 1) := by decide +kernel
theorem d_Mod_end_93 : decode b_Mod_end 93 = .ok (.iload_n 3, 1) := by decide +kernel
theorem d_Mod_end_94 : decode b_Mod_end 94 = .ok (.iload 4, 2) := by decide +kernel
theorem d_Mod_end_96 : decode b_Mod_end 96 = .ok (.invokevirtual 212, 3) := by decide +kernel
theorem d_Mod_end_99 : decode b_Mod_end 99 = .ok (.ifCond .ne 9, 3) := by decide +kernel
theorem d_Mod_end_102 : decode b_Mod_end 102 = .ok (.aload_n 0, 1) := by decide +kernel
theorem d_Mod_end_103 : decode b_Mod_end 103 = .ok (.iconst 4, 1) := by decide +kernel
theorem d_Mod_end_104 : decode b_Mod_end 104 = .ok (.invokevirtual 71, 3) := by decide +kernel
theorem d_Mod_end_107 : decode b_Mod_end 107 = .ok (.ireturn, 1) := by decide +kernel
theorem d_Mod_end_108 : decode b_Mod_end 108 = .ok (.aload_n 0, 1) := by decide +kernel
theorem d_Mod_end_109 : decode b_Mod_end 109 = .ok (.iload_n 3, 1) := by decide +kernel
theorem d_Mod_end_110 : decode b_Mod_end 110 = .ok (.aload_n 0, 1) := by decide +kernel
theorem d_Mod_end_111 : decode b_Mod_end 111 = .ok (.iload_n 3, 1) := by decide +kernel
theorem d_Mod_end_112 : decode b_Mod_end 112 = .ok (.iload 4, 2) := by decide +kernel
theorem d_Mod_end_114 : decode b_Mod_end 114 = .ok (.invokevirtual 216, 3) := by decide +kernel
theorem d_Mod_end_117 : decode b_Mod_end 117 = .ok (.invokevirtual 220, 3) := by decide +kernel
theorem d_Mod_end_120 : decode b_Mod_end 120 = .ok (.aload_n 0, 1) := by decide +kernel
theorem d_Mod_end_121 : decode b_Mod_end 121 = .ok (.getfield 203, 3) := by decide +kernel
theorem d_Mod_end_124 : decode b_Mod_end 124 = .ok (.ireturn, 1) := by decide +kernel
theorem d_Mod_request_0 : decode b_Mod_request 0 = .ok (.aload_n 0, 1) := by decide +kernel
theorem d_Mod_request_1 : decode b_Mod_request 1 = .ok (.iconst 0, 1) := by decide +kernel
theorem d_Mod_request_2 : decode b_Mod_request 2 = .ok (.putfield 58, 3) := by decide +kernel
theorem d_Mod_request_5 : decode b_Mod_request 5 = .ok (.iload_n 1, 1) := by decide +kernel
theorem d_Mod_request_6 : decode b_Mod_request 6 = .ok (.iconst 0, 1) := by decide +kernel
theorem d_Mod_request_7 : decode b_Mod_request 7 = .ok (.sipush 255, 3) := by decide +kernel
theorem d_Mod_request_10 : decode b_Mod_request 10 = .ok (.invokestatic 67, 3) := by decide +kernel
theorem d_Mod_request_13 : decode b_Mod_request 13 = .ok (.ifCond .ne 9, 3) := by decide +kernel
theorem d_Mod_request_16 : decode b_Mod_request 16 = .ok (.aload_n 0, 1) := by decide +kernel
theorem d_Mod_request_17 : decode b_Mod_request 17 = .ok (.iconst 1, 1) := by decide +kernel
theorem d_Mod_request_18 : decode b_Mod_request 18 = .ok (.invokevirtual 71, 3) := by decide +kernel
theorem d_Mod_request_21 : decode b_Mod_request 21 = .ok (.ireturn, 1) := by decide +kernel
theorem d_Mod_request_22 : decode b_Mod_request 22 = .ok (.aload_n 0, 1) := by decide +kernel
theorem d_Mod_request_23 : decode b_Mod_request 23 = .ok (.getfield 7, 3) := by decide +kernel
theorem d_Mod_request_26 : decode b_Mod_request 26 = .ok (.ifCond .ne 9, 3) := by decide +kernel
theorem d_Mod_request_29 : decode b_Mod_request 29 = .ok (.aload_n 0, 1) := by decide +kernel
theorem d_Mod_request_30 : decode b_Mod_request 30 = .ok (.iconst 2, 1) := by decide +kernel
theorem d_Mod_request_31 : decode b_Mod_request 31 = .ok (.invokevirtual 71, 3) := by decide +kernel
theorem d_Mod_request_34 : decode b_Mod_request 34 = .ok (.ireturn, 1) := by decide +kernel
theorem d_Mod_request_35 : decode b_Mod_request 35 = .ok (.aload_n 0, 1) := by decide +kernel
theorem d_Mod_request_36 : decode b_Mod_request 36 = .ok (.getfield 181, 3) := by decide +kernel
theorem d_Mod_request_39 : decode b_Mod_request 39 = .ok (.ifCond .ne 20, 3) := by decide +kernel
theorem d_Mod_request_42 : decode b_Mod_request 42 = .ok (.aload_n 0, 1) := by decide +kernel
theorem d_Mod_request_43 : decode b_Mod_request 43 = .ok (.iload_n 1, 1) := by decide +kernel
theorem d_Mod_request_44 : decode b_Mod_request 44 = .ok (.bipush 126, 2) := by decide +kernel
theorem d_Mod_request_46 : decode b_Mod_request 46 = .ok (.if_icmp .ne 7, 3) := by decide +kernel
theorem d_Mod_request_49 : decode b_Mod_request 49 = .ok (.iconst 1, 1) := by decide +kernel
theorem d_Mod_request_50 : decode b_Mod_request 50 = .ok (.goto 4, 3) := by decide +kernel
theorem d_Mod_request_53 : decode b_Mod_request 53 = .ok (.iconst 0, 1) := by decide +kernel
theorem d_Mod_request_54 : decode b_Mod_request 54 = .ok (.putfield 181, 3) := by decide +kernel
theorem d_Mod_request_57 : decode b_Mod_request 57 = .ok (.iconst 0, 1) := by decide +kernel
theorem d_Mod_request_58 : decode b_Mod_request 58 = .ok (.ireturn, 1) := by decide +kernel
theorem d_Mod_request_59 : decode b_Mod_request 59 = .ok (.aload_n 0, 1) := by decide +kernel
theorem d_Mod_request_60 : decode b_Mod_request 60 = .ok (.getfield 184, 3) := by decide +kernel
theorem d_Mod_request_63 : decode b_Mod_request 63 = .ok (.ifCond .ne 25, 3) := by decide +kernel
theorem d_Mod_request_66 : decode b_Mod_request 66 = .ok (.iload_n 1, 1) := by decide +kernel
theorem d_Mod_request_67 : decode b_Mod_request 67 = .ok (.bipush 126, 2) := by decide +kernel
theorem d_Mod_request_69 : decode b_Mod_request 69 = .ok (.if_icmp .ne 19, 3) := by decide +kernel
theorem d_Mod_request_72 : decode b_Mod_request 72 = .ok (.aload_n 0, 1) := by decide +kernel
theorem d_Mod_request_73 : decode b_Mod_request 73 = .ok (.getfield 187, 3) := by decide +kernel
theorem d_Mod_request_76 : decode b_Mod_request 76 = .ok (.ifCond .ne 7, 3) := by decide +kernel
theorem d_Mod_request_79 : decode b_Mod_request 79 = .ok (.iconst 0, 1) := by decide +kernel
theorem d_Mod_request_80 : decode b_Mod_request 80 = .ok (.goto 7, 3) := by decide +kernel
theorem d_Mod_request_83 : decode b_Mod_request 83 = .ok (.aload_n 0, 1) := by decide +kernel
theorem d_Mod_request_84 : decode b_Mod_request 84 = .ok (.invokevirtual 224, 3) := by decide +kernel
theorem d_Mod_request_87 : decode b_Mod_request 87 = .ok (.ireturn, 1) := by decide +kernel
theorem d_Mod_request_88 : decode b_Mod_request 88 = .ok (.aload_n 0, 1) := by decide +kernel
theorem d_Mod_request_89 : decode b_Mod_request 89 = .ok (.getfield 184, 3) := by decide +kernel
theorem d_Mod_request_92 : decode b_Mod_request 92 = .ok (.ifCond .ne 16, 3) := by decide +kernel
theorem d_Mod_request_95 : decode b_Mod_request 95 = .ok (.iload_n 1, 1) := by decide +kernel
theorem d_Mod_request_96 : decode b_Mod_request 96 = .ok (.bipush 125, 2) := by decide +kernel
theorem d_Mod_request_98 : decode b_Mod_request 98 = .ok (.if_icmp .ne 10, 3) := by decide +kernel
theorem d_Mod_request_101 : decode b_Mod_request 101 = .ok (.aload_n 0, 1) := by decide +kernel
theorem d_Mod_request_102 : decode b_Mod_request 102 = .ok (.iconst 1, 1) := by decide +kernel
theorem d_Mod_request_103 : decode b_Mod_request 103 = .ok (.putfield 184, 3) := by decide +kernel
theorem d_Mod_request_106 : decode b_Mod_request 106 = .ok (.iconst 0, 1) := by decide +kernel
theorem d_Mod_request_107 : decode b_Mod_request 107 = .ok (.ireturn, 1) := by decide +kernel
theorem d_Mod_request_108 : decode b_Mod_request 108 = .ok (.aload_n 0, 1) := by decide +kernel
theorem d_Mod_request_109 : decode b_Mod_request 109 = .ok (.getfield 187, 3) := by decide +kernel
theorem d_Mod_request_112 : decode b_Mod_request 112 = .ok (.bipush 13, 2) := by decide +kernel
theorem d_Mod_request_114 : decode b_Mod_request 114 = .ok (.if_icmp .ge 37, 3) := by decide +kernel
theorem d_Mod_request_117 : decode b_Mod_request 117 = .ok (.aload_n 0, 1) := by decide +kernel
theorem d_Mod_request_118 : decode b_Mod_request 118 = .ok (.getfield 50, 3) := by decide +kernel
theorem d_Mod_request_121 : decode b_Mod_request 121 = .ok (.aload_n 0, 1) := by decide +kernel
theorem d_Mod_request_122 : decode b_Mod_request 122 = .ok (.getfield 187, 3) := by decide +kernel
theorem d_Mod_request_125 : decode b_Mod_request 125 = .ok (.aload_n 0, 1) := by decide +kernel
theorem d_Mod_request_126 : decode b_Mod_request 126 = .ok (.getfield 184, 3) := by decide +kernel
theorem d_Mod_request_129 : decode b_Mod_request 129 = .ok (.ifCond .eq 10, 3) := by decide +kernel
theorem d_Mod_request_132 : decode b_Mod_request 132 = .ok (.iload_n 1, 1) := by decide +kernel
theorem d_Mod_request_133 : decode b_Mod_request 133 = .ok (.bipush 32, 2) := by decide +kernel
theorem d_Mod_request_135 : decode b_Mod_request 135 = .ok (.ixor, 1) := by decide +kernel
theorem d_Mod_request_136 : decode b_Mod_request 136 = .ok (.goto 4, 3) := by decide +kernel
theorem d_Mod_request_139 : decode b_Mod_request 139 = .ok (.iload_n 1, 1) := by decide +kernel
theorem d_Mod_request_140 : decode b_Mod_request 140 = .ok (.iastore, 1) := by decide +kernel
theorem d_Mod_request_141 : decode b_Mod_request 141 = .ok (.aload_n 0, 1) := by decide +kernel
theorem d_Mod_request_142 : decode b_Mod_request 142 = .ok (.dup, 1) := by decide +kernel
theorem d_Mod_request_143 : decode b_Mod_request 143 = .ok (.getfield 187, 3) := by decide +kernel
theorem d_Mod_request_146 : decode b_Mod_request 146 = .ok (.iconst 1, 1) := by decide +kernel
theorem d_Mod_request_147 : decode b_Mod_request 147 = .ok (.iadd, 1) := by decide +kernel
theorem d_Mod_request_148 : decode b_Mod_request 148 = .ok (.putfield 187, 3) := by decide +kernel
theorem d_Mod_request_151 : decode b_Mod_request 151 = .ok (.aload_n 0, 1) := by decide +kernel
theorem d_Mod_request_152 : decode b_Mod_request 152 = .ok (.iconst 0, 1) := by decide +kernel
theorem d_Mod_request_153 : decode b_Mod_request 153 = .ok (.putfield 184, 3) := by decide +kernel
theorem d_Mod_request_156 : decode b_Mod_request 156 = .ok (.iconst 0, 1) := by decide +kernel
theorem d_Mod_request_157 : decode b_Mod_request 157 = .ok (.ireturn, 1) := by decide +kernel
theorem d_Mod_reply_0 : decode b_Mod_reply 0 = .ok (.aload_n 0, 1) := by decide +kernel
theorem d_Mod_reply_1 : decode b_Mod_reply 1 = .ok (.iconst 0, 1) := by decide +kernel
theorem d_Mod_reply_2 : decode b_Mod_reply 2 = .ok (.putfield 58, 3) := by decide +kernel
theorem d_Mod_reply_5 : decode b_Mod_reply 5 = .ok (.iload_n 1, 1) := by decide +kernel
theorem d_Mod_reply_6 : decode b_Mod_reply 6 = .ok (.iconst 0, 1) := by decide +kernel
theorem d_Mod_reply_7 : decode b_Mod_reply 7 = .ok (.aload_n 0, 1) := by decide +kernel
theorem d_Mod_reply_8 : decode b_Mod_reply 8 = .ok (.getfield 203, 3) := by decide +kernel
theorem d_Mod_reply_11 : decode b_Mod_reply 11 = .ok (.iconst 1, 1) := by decide +kernel
theorem d_Mod_reply_12 : decode b_Mod_reply 12 = .ok (.isub, 1) := by decide +kernel
theorem d_Mod_reply_13 : decode b_Mod_reply 13 = .ok (.invokestatic 67, 3) := by decide +kernel
theorem d_Mod_reply_16 : decode b_Mod_reply 16 = .ok (.ifCond .eq 12, 3) := by decide +kernel
theorem d_Mod_reply_19 : decode b_Mod_reply 19 = .ok (.aload_n 0, 1) := by decide +kernel
theorem d_Mod_reply_20 : decode b_Mod_reply 20 = .ok (.getfield 53, 3) := by decide +kernel
theorem d_Mod_reply_23 : decode b_Mod_reply 23 = .ok (.iload_n 1, 1) := by decide +kernel
theorem d_Mod_reply_24 : decode b_Mod_reply 24 = .ok (.iaload, 1) := by decide +kernel
theorem d_Mod_reply_25 : decode b_Mod_reply 25 = .ok (.goto 8, 3) := by decide +kernel
theorem d_Mod_reply_28 : decode b_Mod_reply 28 = .ok (.aload_n 0, 1) := by decide +kernel
theorem d_Mod_reply_29 : decode b_Mod_reply 29 = .ok (.iconst 1, 1) := by decide +kernel
theorem d_Mod_reply_30 : decode b_Mod_reply 30 = .ok (.invokevirtual 71, 3) := by decide +kernel
theorem d_Mod_reply_33 : decode b_Mod_reply 33 = .ok (.ireturn, 1) := by decide +kernel
theorem d_Mod_flash_0 : decode b_Mod_flash 0 = .ok (.aload_n 0, 1) := by decide +kernel
theorem d_Mod_flash_1 : decode b_Mod_flash 1 = .ok (.iconst 0, 1) := by decide +kernel
theorem d_Mod_flash_2 : decode b_Mod_flash 2 = .ok (.putfield 58, 3) := by decide +kernel
theorem d_Mod_flash_5 : decode b_Mod_flash 5 = .ok (.iload_n 1, 1) := by decide +kernel
theorem d_Mod_flash_6 : decode b_Mod_flash 6 = .ok (.iconst 0, 1) := by decide +kernel
theorem d_Mod_flash_7 : decode b_Mod_flash 7 = .ok (.bipush 11, 2) := by decide +kernel
theorem d_Mod_flash_9 : decode b_Mod_flash 9 = .ok (.invokestatic 67, 3) := by decide +kernel
theorem d_Mod_flash_12 : decode b_Mod_flash 12 = .ok (.ifCond .eq 26, 3) := by decide +kernel
theorem d_Mod_flash_15 : decode b_Mod_flash 15 = .ok (.iload_n 2, 1) := by decide +kernel
theorem d_Mod_flash_16 : decode b_Mod_flash 16 = .ok (.iconst 0, 1) := by decide +kernel
theorem d_Mod_flash_17 : decode b_Mod_flash 17 = .ok (.iconst 5, 1) := by decide +kernel
theorem d_Mod_flash_18 : decode b_Mod_flash 18 = .ok (.invokestatic 67, 3) := by decide +kernel
theorem d_Mod_flash_21 : decode b_Mod_flash 21 = .ok (.ifCond .eq 17, 3) := by decide +kernel
theorem d_Mod_flash_24 : decode b_Mod_flash 24 = .ok (.aload_n 0, 1) := by decide +kernel
theorem d_Mod_flash_25 : decode b_Mod_flash 25 = .ok (.getfield 36, 3) := by decide +kernel
theorem d_Mod_flash_28 : decode b_Mod_flash 28 = .ok (.bipush 6, 2) := by decide +kernel
theorem d_Mod_flash_30 : decode b_Mod_flash 30 = .ok (.iload_n 1, 1) := by decide +kernel
theorem d_Mod_flash_31 : decode b_Mod_flash 31 = .ok (.imul, 1) := by decide +kernel
theorem d_Mod_flash_32 : decode b_Mod_flash 32 = .ok (.iload_n 2, 1) := by decide +kernel
theorem d_Mod_flash_33 : decode b_Mod_flash 33 = .ok (.iadd, 1) := by decide +kernel
theorem d_Mod_flash_34 : decode b_Mod_flash 34 = .ok (.laload, 1) := by decide +kernel
theorem d_Mod_flash_35 : decode b_Mod_flash 35 = .ok (.goto 9, 3) := by decide +kernel
theorem d_Mod_flash_38 : decode b_Mod_flash 38 = .ok (.aload_n 0, 1) := by decide +kernel
theorem d_Mod_flash_39 : decode b_Mod_flash 39 = .ok (.iconst 1, 1) := by decide +kernel
theorem d_Mod_flash_40 : decode b_Mod_flash 40 = .ok (.invokevirtual 71, 3) := by decide +kernel
theorem d_Mod_flash_43 : decode b_Mod_flash 43 = .ok (.i2l, 1) := by decide +kernel
theorem d_Mod_flash_44 : decode b_Mod_flash 44 = .ok (.lreturn, 1) := by decide +kernel
theorem d_Mod_read_0 : decode b_Mod_read 0 = .ok (.aload_n 0, 1) := by decide +kernel
theorem d_Mod_read_1 : decode b_Mod_read 1 = .ok (.iconst 0, 1) := by decide +kernel
theorem d_Mod_read_2 : decode b_Mod_read 2 = .ok (.putfield 58, 3) := by decide +kernel
theorem d_Mod_read_5 : decode b_Mod_read 5 = .ok (.iload_n 1, 1) := by decide +kernel
theorem d_Mod_read_6 : decode b_Mod_read 6 = .ok (.iconst 0, 1) := by decide +kernel
theorem d_Mod_read_7 : decode b_Mod_read 7 = .ok (.iconst 4, 1) := by decide +kernel
theorem d_Mod_read_8 : decode b_Mod_read 8 = .ok (.invokestatic 67, 3) := by decide +kernel
theorem d_Mod_read_11 : decode b_Mod_read 11 = .ok (.ifCond .ne 10, 3) := by decide +kernel
theorem d_Mod_read_14 : decode b_Mod_read 14 = .ok (.aload_n 0, 1) := by decide +kernel
theorem d_Mod_read_15 : decode b_Mod_read 15 = .ok (.iconst 1, 1) := by decide +kernel
theorem d_Mod_read_16 : decode b_Mod_read 16 = .ok (.invokevirtual 71, 3) := by decide +kernel
theorem d_Mod_read_19 : decode b_Mod_read 19 = .ok (.i2d, 1) := by decide +kernel
theorem d_Mod_read_20 : decode b_Mod_read 20 = .ok (.dreturn, 1) := by decide +kernel
theorem d_Mod_read_21 : decode b_Mod_read 21 = .ok (.aload_n 0, 1) := by decide +kernel
theorem d_Mod_read_22 : decode b_Mod_read 22 = .ok (.getfield 7, 3) := by decide +kernel
theorem d_Mod_read_25 : decode b_Mod_read 25 = .ok (.ifCond .ne 10, 3) := by decide +kernel
theorem d_Mod_read_28 : decode b_Mod_read 28 = .ok (.aload_n 0, 1) := by decide +kernel
theorem d_Mod_read_29 : decode b_Mod_read 29 = .ok (.iconst 2, 1) := by decide +kernel
theorem d_Mod_read_30 : decode b_Mod_read 30 = .ok (.invokevirtual 71, 3) := by decide +kernel
theorem d_Mod_read_33 : decode b_Mod_read 33 = .ok (.i2d, 1) := by decide +kernel
theorem d_Mod_read_34 : decode b_Mod_read 34 = .ok (.dreturn, 1) := by decide +kernel
theorem d_Mod_read_35 : decode b_Mod_read 35 = .ok (.iload_n 1, 1) := by decide +kernel
theorem d_Mod_read_36 : decode b_Mod_read 36 = .ok (.iconst 3, 1) := by decide +kernel
theorem d_Mod_read_37 : decode b_Mod_read 37 = .ok (.if_icmp .ge 12, 3) := by decide +kernel
theorem d_Mod_read_40 : decode b_Mod_read 40 = .ok (.aload_n 0, 1) := by decide +kernel
theorem d_Mod_read_41 : decode b_Mod_read 41 = .ok (.getfield 19, 3) := by decide +kernel
theorem d_Mod_read_44 : decode b_Mod_read 44 = .ok (.iload_n 1, 1) := by decide +kernel
theorem d_Mod_read_45 : decode b_Mod_read 45 = .ok (.daload, 1) := by decide +kernel
theorem d_Mod_read_46 : decode b_Mod_read 46 = .ok (.goto 19, 3) := by decide +kernel
theorem d_Mod_read_49 : decode b_Mod_read 49 = .ok (.iload_n 1, 1) := by decide +kernel
theorem d_Mod_read_50 : decode b_Mod_read 50 = .ok (.iconst 3, 1) := by decide +kernel
theorem d_Mod_read_51 : decode b_Mod_read 51 = .ok (.if_icmp .ne 10, 3) := by decide +kernel
theorem d_Mod_read_54 : decode b_Mod_read 54 = .ok (.aload_n 0, 1) := by decide +kernel
theorem d_Mod_read_55 : decode b_Mod_read 55 = .ok (.getfield 15, 3) := by decide +kernel
theorem d_Mod_read_58 : decode b_Mod_read 58 = .ok (.goto 7, 3) := by decide +kernel
theorem d_Mod_read_61 : decode b_Mod_read 61 = .ok (.aload_n 0, 1) := by decide +kernel
theorem d_Mod_read_62 : decode b_Mod_read 62 = .ok (.getfield 124, 3) := by decide +kernel
theorem d_Mod_read_65 : decode b_Mod_read 65 = .ok (.dreturn, 1) := by decide +kernel
theorem d_Mod_price_0 : decode b_Mod_price 0 = .ok (.aload_n 0, 1) := by decide +kernel
theorem d_Mod_price_1 : decode b_Mod_price 1 = .ok (.iconst 0, 1) := by decide +kernel
theorem d_Mod_price_2 : decode b_Mod_price 2 = .ok (.putfield 58, 3) := by decide +kernel
theorem d_Mod_price_5 : decode b_Mod_price 5 = .ok (.iload_n 1, 1) := by decide +kernel
theorem d_Mod_price_6 : decode b_Mod_price 6 = .ok (.iconst 0, 1) := by decide +kernel
theorem d_Mod_price_7 : decode b_Mod_price 7 = .ok (.iconst 2, 1) := by decide +kernel
theorem d_Mod_price_8 : decode b_Mod_price 8 = .ok (.invokestatic 67, 3) := by decide +kernel
theorem d_Mod_price_11 : decode b_Mod_price 11 = .ok (.ifCond .eq 12, 3) := by decide +kernel
theorem d_Mod_price_14 : decode b_Mod_price 14 = .ok (.aload_n 0, 1) := by decide +kernel
theorem d_Mod_price_15 : decode b_Mod_price 15 = .ok (.getfield 23, 3) := by decide +kernel
theorem d_Mod_price_18 : decode b_Mod_price 18 = .ok (.iload_n 1, 1) := by decide +kernel
theorem d_Mod_price_19 : decode b_Mod_price 19 = .ok (.daload, 1) := by decide +kernel
theorem d_Mod_price_20 : decode b_Mod_price 20 = .ok (.goto 9, 3) := by decide +kernel
theorem d_Mod_price_23 : decode b_Mod_price 23 = .ok (.aload_n 0, 1) := by decide +kernel
theorem d_Mod_price_24 : decode b_Mod_price 24 = .ok (.iconst 1, 1) := by decide +kernel
theorem d_Mod_price_25 : decode b_Mod_price 25 = .ok (.invokevirtual 71, 3) := by decide +kernel
theorem d_Mod_price_28 : decode b_Mod_price 28 = .ok (.i2d, 1) := by decide +kernel
theorem d_Mod_price_29 : decode b_Mod_price 29 = .ok (.dreturn, 1) := by decide +kernel
theorem d_Mod_count_0 : decode b_Mod_count 0 = .ok (.aload_n 0, 1) := by decide +kernel
theorem d_Mod_count_1 : decode b_Mod_count 1 = .ok (.iconst 0, 1) := by decide +kernel
theorem d_Mod_count_2 : decode b_Mod_count 2 = .ok (.putfield 58, 3) := by decide +kernel
theorem d_Mod_count_5 : decode b_Mod_count 5 = .ok (.iload_n 1, 1) := by decide +kernel
theorem d_Mod_count_6 : decode b_Mod_count 6 = .ok (.iconst 0, 1) := by decide +kernel
theorem d_Mod_count_7 : decode b_Mod_count 7 = .ok (.bipush 10, 2) := by decide +kernel
theorem d_Mod_count_9 : decode b_Mod_count 9 = .ok (.invokestatic 67, 3) := by decide +kernel
theorem d_Mod_count_12 : decode b_Mod_count 12 = .ok (.ifCond .ne 9, 3) := by decide +kernel
theorem d_Mod_count_15 : decode b_Mod_count 15 = .ok (.aload_n 0, 1) := by decide +kernel
theorem d_Mod_count_16 : decode b_Mod_count 16 = .ok (.iconst 1, 1) := by decide +kernel
theorem d_Mod_count_17 : decode b_Mod_count 17 = .ok (.invokevirtual 71, 3) := by decide +kernel
theorem d_Mod_count_20 : decode b_Mod_count 20 = .ok (.ireturn, 1) := by decide +kernel
theorem d_Mod_count_21 : decode b_Mod_count 21 = .ok (.iload_n 1, 1) := by decide +kernel
theorem d_Mod_count_22 : decode b_Mod_count 22 = .ok (.ifCond .ne 16, 3) := by decide +kernel
theorem d_Mod_count_25 : decode b_Mod_count 25 = .ok (.aload_n 0, 1) := by decide +kernel
theorem d_Mod_count_26 : decode b_Mod_count 26 = .ok (.getfield 7, 3) := by decide +kernel
theorem d_Mod_count_29 : decode b_Mod_count 29 = .ok (.ifCond .eq 7, 3) := by decide +kernel
theorem d_Mod_count_32 : decode b_Mod_count 32 = .ok (.iconst 1, 1) := by decide +kernel
theorem d_Mod_count_33 : decode b_Mod_count 33 = .ok (.goto 4, 3) := by decide +kernel
theorem d_Mod_count_36 : decode b_Mod_count 36 = .ok (.iconst 0, 1) := by decide +kernel
theorem d_Mod_count_37 : decode b_Mod_count 37 = .ok (.ireturn, 1) := by decide +kernel
theorem d_Mod_count_38 : decode b_Mod_count 38 = .ok (.iload_n 1, 1) := by decide +kernel
theorem d_Mod_count_39 : decode b_Mod_count 39 = .ok (.iconst 1, 1) := by decide +kernel
theorem d_Mod_count_40 : decode b_Mod_count 40 = .ok (.if_icmp .ne 8, 3) := by decide +kernel
theorem d_Mod_count_43 : decode b_Mod_count 43 = .ok (.aload_n 0, 1) := by decide +kernel
theorem d_Mod_count_44 : decode b_Mod_count 44 = .ok (.getfield 61, 3) := by decide +kernel
theorem d_Mod_count_47 : decode b_Mod_count 47 = .ok (.ireturn, 1) := by decide +kernel
theorem d_Mod_count_48 : decode b_Mod_count 48 = .ok (.iload_n 1, 1) := by decide +kernel
theorem d_Mod_count_49 : decode b_Mod_count 49 = .ok (.bipush 6, 2) := by decide +kernel
theorem d_Mod_count_51 : decode b_Mod_count 51 = .ok (.if_icmp .ge 12, 3) := by decide +kernel
theorem d_Mod_count_54 : decode b_Mod_count 54 = .ok (.aload_n 0, 1) := by decide +kernel
theorem d_Mod_count_55 : decode b_Mod_count 55 = .ok (.getfield 40, 3) := by decide +kernel
theorem d_Mod_count_58 : decode b_Mod_count 58 = .ok (.iload_n 1, 1) := by decide +kernel
theorem d_Mod_count_59 : decode b_Mod_count 59 = .ok (.iconst 2, 1) := by decide +kernel
theorem d_Mod_count_60 : decode b_Mod_count 60 = .ok (.isub, 1) := by decide +kernel
theorem d_Mod_count_61 : decode b_Mod_count 61 = .ok (.iaload, 1) := by decide +kernel
theorem d_Mod_count_62 : decode b_Mod_count 62 = .ok (.ireturn, 1) := by decide +kernel
theorem d_Mod_count_63 : decode b_Mod_count 63 = .ok (.aload_n 0, 1) := by decide +kernel
theorem d_Mod_count_64 : decode b_Mod_count 64 = .ok (.getfield 7, 3) := by decide +kernel
theorem d_Mod_count_67 : decode b_Mod_count 67 = .ok (.ifCond .ne 9, 3) := by decide +kernel
theorem d_Mod_count_70 : decode b_Mod_count 70 = .ok (.aload_n 0, 1) := by decide +kernel
theorem d_Mod_count_71 : decode b_Mod_count 71 = .ok (.iconst 2, 1) := by decide +kernel
theorem d_Mod_count_72 : decode b_Mod_count 72 = .ok (.invokevirtual 71, 3) := by decide +kernel
theorem d_Mod_count_75 : decode b_Mod_count 75 = .ok (.ireturn, 1) := by decide +kernel
theorem d_Mod_count_76 : decode b_Mod_count 76 = .ok (.iload_n 1, 1) := by decide +kernel
theorem d_Mod_count_77 : decode b_Mod_count 77 = .ok (.tableswitch 67 6 9 #[31, 36, 49, 62], 31) := by decide +kernel
theorem d_Mod_count_108 : decode b_Mod_count 108 = .ok (.aload_n 0, 1) := by decide +kernel
theorem d_Mod_count_109 : decode b_Mod_count 109 = .ok (.getfield 64, 3) := by decide +kernel
theorem d_Mod_count_112 : decode b_Mod_count 112 = .ok (.ireturn, 1) := by decide +kernel
theorem d_Mod_count_113 : decode b_Mod_count 113 = .ok (.aload_n 0, 1) := by decide +kernel
theorem d_Mod_count_114 : decode b_Mod_count 114 = .ok (.getfield 99, 3) := by decide +kernel
theorem d_Mod_count_117 : decode b_Mod_count 117 = .ok (.ifCond .eq 7, 3) := by decide +kernel
theorem d_Mod_count_120 : decode b_Mod_count 120 = .ok (.iconst 0, 1) := by decide +kernel
theorem d_Mod_count_121 : decode b_Mod_count 121 = .ok (.goto 4, 3) := by decide +kernel
theorem d_Mod_count_124 : decode b_Mod_count 124 = .ok (.iconst 1, 1) := by decide +kernel
theorem d_Mod_count_125 : decode b_Mod_count 125 = .ok (.ireturn, 1) := by decide +kernel
theorem d_Mod_count_126 : decode b_Mod_count 126 = .ok (.aload_n 0, 1) := by decide +kernel
theorem d_Mod_count_127 : decode b_Mod_count 127 = .ok (.getfield 102, 3) := by decide +kernel
theorem d_Mod_count_130 : decode b_Mod_count 130 = .ok (.ifCond .eq 7, 3) := by decide +kernel
theorem d_Mod_count_133 : decode b_Mod_count 133 = .ok (.iconst 1, 1) := by decide +kernel
theorem d_Mod_count_134 : decode b_Mod_count 134 = .ok (.goto 4, 3) := by decide +kernel
theorem d_Mod_count_137 : decode b_Mod_count 137 = .ok (.iconst 0, 1) := by decide +kernel
theorem d_Mod_count_138 : decode b_Mod_count 138 = .ok (.ireturn, 1) := by decide +kernel
theorem d_Mod_count_139 : decode b_Mod_count 139 = .ok (.aload_n 0, 1) := by decide +kernel
theorem d_Mod_count_140 : decode b_Mod_count 140 = .ok (.getfield 107, 3) := by decide +kernel
theorem d_Mod_count_143 : decode b_Mod_count 143 = .ok (.ireturn, 1) := by decide +kernel
theorem d_Mod_count_144 : decode b_Mod_count 144 = .ok (.aload_n 0, 1) := by decide +kernel
theorem d_Mod_count_145 : decode b_Mod_count 145 = .ok (.invokevirtual 133, 3) := by decide +kernel
theorem d_Mod_count_148 : decode b_Mod_count 148 = .ok (.ireturn, 1) := by decide +kernel
