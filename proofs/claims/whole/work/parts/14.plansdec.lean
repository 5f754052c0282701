theorem d_Plans_put_0 : decode b_Plans_put 0 = .ok (.aload_n 0, 1) := by decide +kernel
theorem d_Plans_put_1 : decode b_Plans_put 1 = .ok (.getfield 11, 3) := by decide +kernel
theorem d_Plans_put_4 : decode b_Plans_put 4 = .ok (.iload_n 1, 1) := by decide +kernel
theorem d_Plans_put_5 : decode b_Plans_put 5 = .ok (.iconst 4, 1) := by decide +kernel
theorem d_Plans_put_6 : decode b_Plans_put 6 = .ok (.imul, 1) := by decide +kernel
theorem d_Plans_put_7 : decode b_Plans_put 7 = .ok (.iload_n 2, 1) := by decide +kernel
theorem d_Plans_put_8 : decode b_Plans_put 8 = .ok (.iadd, 1) := by decide +kernel
theorem d_Plans_put_9 : decode b_Plans_put 9 = .ok (.iload_n 3, 1) := by decide +kernel
theorem d_Plans_put_10 : decode b_Plans_put 10 = .ok (.iastore, 1) := by decide +kernel
theorem d_Plans_put_11 : decode b_Plans_put 11 = .ok (.aload_n 0, 1) := by decide +kernel
theorem d_Plans_put_12 : decode b_Plans_put 12 = .ok (.getfield 15, 3) := by decide +kernel
theorem d_Plans_put_15 : decode b_Plans_put 15 = .ok (.iload_n 1, 1) := by decide +kernel
theorem d_Plans_put_16 : decode b_Plans_put 16 = .ok (.iconst 4, 1) := by decide +kernel
theorem d_Plans_put_17 : decode b_Plans_put 17 = .ok (.imul, 1) := by decide +kernel
theorem d_Plans_put_18 : decode b_Plans_put 18 = .ok (.iload_n 2, 1) := by decide +kernel
theorem d_Plans_put_19 : decode b_Plans_put 19 = .ok (.iadd, 1) := by decide +kernel
theorem d_Plans_put_20 : decode b_Plans_put 20 = .ok (.iload 4, 2) := by decide +kernel
theorem d_Plans_put_22 : decode b_Plans_put 22 = .ok (.iastore, 1) := by decide +kernel
theorem d_Plans_put_23 : decode b_Plans_put 23 = .ok (.return_, 1) := by decide +kernel
theorem d_Plans_size_0 : decode b_Plans_size 0 = .ok (.iconst 0, 1) := by decide +kernel
theorem d_Plans_size_1 : decode b_Plans_size 1 = .ok (.istore_n 2, 1) := by decide +kernel
theorem d_Plans_size_2 : decode b_Plans_size 2 = .ok (.iload_n 1, 1) := by decide +kernel
theorem d_Plans_size_3 : decode b_Plans_size 3 = .ok (.iconst 4, 1) := by decide +kernel
theorem d_Plans_size_4 : decode b_Plans_size 4 = .ok (.imul, 1) := by decide +kernel
theorem d_Plans_size_5 : decode b_Plans_size 5 = .ok (.istore_n 3, 1) := by decide +kernel
theorem d_Plans_size_6 : decode b_Plans_size 6 = .ok (.iload_n 3, 1) := by decide +kernel
theorem d_Plans_size_7 : decode b_Plans_size 7 = .ok (.iload_n 1, 1) := by decide +kernel
theorem d_Plans_size_8 : decode b_Plans_size 8 = .ok (.iconst 1, 1) := by decide +kernel
theorem d_Plans_size_9 : decode b_Plans_size 9 = .ok (.iadd, 1) := by decide +kernel
theorem d_Plans_size_10 : decode b_Plans_size 10 = .ok (.iconst 4, 1) := by decide +kernel
theorem d_Plans_size_11 : decode b_Plans_size 11 = .ok (.imul, 1) := by decide +kernel
theorem d_Plans_size_12 : decode b_Plans_size 12 = .ok (.if_icmp .ge 22, 3) := by decide +kernel
theorem d_Plans_size_15 : decode b_Plans_size 15 = .ok (.aload_n 0, 1) := by decide +kernel
theorem d_Plans_size_16 : decode b_Plans_size 16 = .ok (.getfield 15, 3) := by decide +kernel
theorem d_Plans_size_19 : decode b_Plans_size 19 = .ok (.iload_n 3, 1) := by decide +kernel
theorem d_Plans_size_20 : decode b_Plans_size 20 = .ok (.iaload, 1) := by decide +kernel
theorem d_Plans_size_21 : decode b_Plans_size 21 = .ok (.iconst (-1), 1) := by decide +kernel
theorem d_Plans_size_22 : decode b_Plans_size 22 = .ok (.if_icmp .eq 6, 3) := by decide +kernel
theorem d_Plans_size_25 : decode b_Plans_size 25 = .ok (.iinc 2 1, 3) := by decide +kernel
theorem d_Plans_size_28 : decode b_Plans_size 28 = .ok (.iinc 3 1, 3) := by decide +kernel
theorem d_Plans_size_31 : decode b_Plans_size 31 = .ok (.goto (-25), 3) := by decide +kernel
theorem d_Plans_size_34 : decode b_Plans_size 34 = .ok (.iload_n 2, 1) := by decide +kernel
theorem d_Plans_size_35 : decode b_Plans_size 35 = .ok (.ireturn, 1) := by decide +kernel
theorem d_Plans_tariffAt_0 : decode b_Plans_tariffAt 0 = .ok (.iload_n 1, 1) := by decide +kernel
theorem d_Plans_tariffAt_1 : decode b_Plans_tariffAt 1 = .ok (.sipush 1440, 3) := by decide +kernel
theorem d_Plans_tariffAt_4 : decode b_Plans_tariffAt 4 = .ok (.idiv, 1) := by decide +kernel
theorem d_Plans_tariffAt_5 : decode b_Plans_tariffAt 5 = .ok (.bipush 7, 2) := by decide +kernel
theorem d_Plans_tariffAt_7 : decode b_Plans_tariffAt 7 = .ok (.irem, 1) := by decide +kernel
theorem d_Plans_tariffAt_8 : decode b_Plans_tariffAt 8 = .ok (.iconst 5, 1) := by decide +kernel
theorem d_Plans_tariffAt_9 : decode b_Plans_tariffAt 9 = .ok (.if_icmp .lt 7, 3) := by decide +kernel
theorem d_Plans_tariffAt_12 : decode b_Plans_tariffAt 12 = .ok (.iconst 4, 1) := by decide +kernel
theorem d_Plans_tariffAt_13 : decode b_Plans_tariffAt 13 = .ok (.goto 4, 3) := by decide +kernel
theorem d_Plans_tariffAt_16 : decode b_Plans_tariffAt 16 = .ok (.iconst 0, 1) := by decide +kernel
theorem d_Plans_tariffAt_17 : decode b_Plans_tariffAt 17 = .ok (.istore_n 2, 1) := by decide +kernel
theorem d_Plans_tariffAt_18 : decode b_Plans_tariffAt 18 = .ok (.iload_n 1, 1) := by decide +kernel
theorem d_Plans_tariffAt_19 : decode b_Plans_tariffAt 19 = .ok (.sipush 1440, 3) := by decide +kernel
theorem d_Plans_tariffAt_22 : decode b_Plans_tariffAt 22 = .ok (.irem, 1) := by decide +kernel
theorem d_Plans_tariffAt_23 : decode b_Plans_tariffAt 23 = .ok (.istore_n 3, 1) := by decide +kernel
theorem d_Plans_tariffAt_24 : decode b_Plans_tariffAt 24 = .ok (.iconst (-1), 1) := by decide +kernel
theorem d_Plans_tariffAt_25 : decode b_Plans_tariffAt 25 = .ok (.istore 4, 2) := by decide +kernel
theorem d_Plans_tariffAt_27 : decode b_Plans_tariffAt 27 = .ok (.iload_n 2, 1) := by decide +kernel
theorem d_Plans_tariffAt_28 : decode b_Plans_tariffAt 28 = .ok (.istore 5, 2) := by decide +kernel
theorem d_Plans_tariffAt_30 : decode b_Plans_tariffAt 30 = .ok (.iload 5, 2) := by decide +kernel
theorem d_Plans_tariffAt_32 : decode b_Plans_tariffAt 32 = .ok (.iload_n 2, 1) := by decide +kernel
theorem d_Plans_tariffAt_33 : decode b_Plans_tariffAt 33 = .ok (.iconst 4, 1) := by decide +kernel
theorem d_Plans_tariffAt_34 : decode b_Plans_tariffAt 34 = .ok (.iadd, 1) := by decide +kernel
theorem d_Plans_tariffAt_35 : decode b_Plans_tariffAt 35 = .ok (.if_icmp .ge 58, 3) := by decide +kernel
theorem d_Plans_tariffAt_38 : decode b_Plans_tariffAt 38 = .ok (.aload_n 0, 1) := by decide +kernel
theorem d_Plans_tariffAt_39 : decode b_Plans_tariffAt 39 = .ok (.getfield 15, 3) := by decide +kernel
theorem d_Plans_tariffAt_42 : decode b_Plans_tariffAt 42 = .ok (.iload 5, 2) := by decide +kernel
theorem d_Plans_tariffAt_44 : decode b_Plans_tariffAt 44 = .ok (.iaload, 1) := by decide +kernel
theorem d_Plans_tariffAt_45 : decode b_Plans_tariffAt 45 = .ok (.iconst (-1), 1) := by decide +kernel
theorem d_Plans_tariffAt_46 : decode b_Plans_tariffAt 46 = .ok (.if_icmp .eq 41, 3) := by decide +kernel
theorem d_Plans_tariffAt_49 : decode b_Plans_tariffAt 49 = .ok (.aload_n 0, 1) := by decide +kernel
theorem d_Plans_tariffAt_50 : decode b_Plans_tariffAt 50 = .ok (.getfield 11, 3) := by decide +kernel
theorem d_Plans_tariffAt_53 : decode b_Plans_tariffAt 53 = .ok (.iload 5, 2) := by decide +kernel
theorem d_Plans_tariffAt_55 : decode b_Plans_tariffAt 55 = .ok (.iaload, 1) := by decide +kernel
theorem d_Plans_tariffAt_56 : decode b_Plans_tariffAt 56 = .ok (.iload_n 3, 1) := by decide +kernel
theorem d_Plans_tariffAt_57 : decode b_Plans_tariffAt 57 = .ok (.if_icmp .gt 30, 3) := by decide +kernel
theorem d_Plans_tariffAt_60 : decode b_Plans_tariffAt 60 = .ok (.iload 4, 2) := by decide +kernel
theorem d_Plans_tariffAt_62 : decode b_Plans_tariffAt 62 = .ok (.iconst (-1), 1) := by decide +kernel
theorem d_Plans_tariffAt_63 : decode b_Plans_tariffAt 63 = .ok (.if_icmp .eq 20, 3) := by decide +kernel
theorem d_Plans_tariffAt_66 : decode b_Plans_tariffAt 66 = .ok (.aload_n 0, 1) := by decide +kernel
theorem d_Plans_tariffAt_67 : decode b_Plans_tariffAt 67 = .ok (.getfield 11, 3) := by decide +kernel
theorem d_Plans_tariffAt_70 : decode b_Plans_tariffAt 70 = .ok (.iload 5, 2) := by decide +kernel
theorem d_Plans_tariffAt_72 : decode b_Plans_tariffAt 72 = .ok (.iaload, 1) := by decide +kernel
theorem d_Plans_tariffAt_73 : decode b_Plans_tariffAt 73 = .ok (.aload_n 0, 1) := by decide +kernel
theorem d_Plans_tariffAt_74 : decode b_Plans_tariffAt 74 = .ok (.getfield 11, 3) := by decide +kernel
theorem d_Plans_tariffAt_77 : decode b_Plans_tariffAt 77 = .ok (.iload 4, 2) := by decide +kernel
theorem d_Plans_tariffAt_79 : decode b_Plans_tariffAt 79 = .ok (.iaload, 1) := by decide +kernel
theorem d_Plans_tariffAt_80 : decode b_Plans_tariffAt 80 = .ok (.if_icmp .le 7, 3) := by decide +kernel
theorem d_Plans_tariffAt_83 : decode b_Plans_tariffAt 83 = .ok (.iload 5, 2) := by decide +kernel
theorem d_Plans_tariffAt_85 : decode b_Plans_tariffAt 85 = .ok (.istore 4, 2) := by decide +kernel
theorem d_Plans_tariffAt_87 : decode b_Plans_tariffAt 87 = .ok (.iinc 5 1, 3) := by decide +kernel
theorem d_Plans_tariffAt_90 : decode b_Plans_tariffAt 90 = .ok (.goto (-60), 3) := by decide +kernel
theorem d_Plans_tariffAt_93 : decode b_Plans_tariffAt 93 = .ok (.iload 4, 2) := by decide +kernel
theorem d_Plans_tariffAt_95 : decode b_Plans_tariffAt 95 = .ok (.iconst (-1), 1) := by decide +kernel
theorem d_Plans_tariffAt_96 : decode b_Plans_tariffAt 96 = .ok (.if_icmp .ne 7, 3) := by decide +kernel
theorem d_Plans_tariffAt_99 : decode b_Plans_tariffAt 99 = .ok (.iconst 0, 1) := by decide +kernel
theorem d_Plans_tariffAt_100 : decode b_Plans_tariffAt 100 = .ok (.goto 10, 3) := by decide +kernel
theorem d_Plans_tariffAt_103 : decode b_Plans_tariffAt 103 = .ok (.aload_n 0, 1) := by decide +kernel
theorem d_Plans_tariffAt_104 : decode b_Plans_tariffAt 104 = .ok (.getfield 15, 3) := by decide +kernel
theorem d_Plans_tariffAt_107 : decode b_Plans_tariffAt 107 = .ok (.iload 4, 2) := by decide +kernel
theorem d_Plans_tariffAt_109 : decode b_Plans_tariffAt 109 = .ok (.iaload, 1) := by decide +kernel
theorem d_Plans_tariffAt_110 : decode b_Plans_tariffAt 110 = .ok (.ireturn, 1) := by decide +kernel
