theorem d_Flash_setCut_0 : decode b_Flash_setCut 0 = .ok (.aload_n 0, 1) := by decide +kernel
theorem d_Flash_setCut_1 : decode b_Flash_setCut 1 = .ok (.getfield 26, 3) := by decide +kernel
theorem d_Flash_setCut_4 : decode b_Flash_setCut 4 = .ok (.istore_n 2, 1) := by decide +kernel
theorem d_Flash_setCut_5 : decode b_Flash_setCut 5 = .ok (.aload_n 0, 1) := by decide +kernel
theorem d_Flash_setCut_6 : decode b_Flash_setCut 6 = .ok (.iload_n 1, 1) := by decide +kernel
theorem d_Flash_setCut_7 : decode b_Flash_setCut 7 = .ok (.putfield 26, 3) := by decide +kernel
theorem d_Flash_setCut_10 : decode b_Flash_setCut 10 = .ok (.iload_n 2, 1) := by decide +kernel
theorem d_Flash_setCut_11 : decode b_Flash_setCut 11 = .ok (.ireturn, 1) := by decide +kernel
theorem d_Flash_wordAt_0 : decode b_Flash_wordAt 0 = .ok (.aload_n 0, 1) := by decide +kernel
theorem d_Flash_wordAt_1 : decode b_Flash_wordAt 1 = .ok (.getfield 11, 3) := by decide +kernel
theorem d_Flash_wordAt_4 : decode b_Flash_wordAt 4 = .ok (.iload_n 1, 1) := by decide +kernel
theorem d_Flash_wordAt_5 : decode b_Flash_wordAt 5 = .ok (.bipush 6, 2) := by decide +kernel
theorem d_Flash_wordAt_7 : decode b_Flash_wordAt 7 = .ok (.imul, 1) := by decide +kernel
theorem d_Flash_wordAt_8 : decode b_Flash_wordAt 8 = .ok (.iload_n 2, 1) := by decide +kernel
theorem d_Flash_wordAt_9 : decode b_Flash_wordAt 9 = .ok (.iadd, 1) := by decide +kernel
theorem d_Flash_wordAt_10 : decode b_Flash_wordAt 10 = .ok (.laload, 1) := by decide +kernel
theorem d_Flash_wordAt_11 : decode b_Flash_wordAt 11 = .ok (.lreturn, 1) := by decide +kernel
theorem d_Flash_copyToDraft_0 : decode b_Flash_copyToDraft 0 = .ok (.aload_n 0, 1) := by decide +kernel
theorem d_Flash_copyToDraft_1 : decode b_Flash_copyToDraft 1 = .ok (.getfield 11, 3) := by decide +kernel
theorem d_Flash_copyToDraft_4 : decode b_Flash_copyToDraft 4 = .ok (.iload_n 1, 1) := by decide +kernel
theorem d_Flash_copyToDraft_5 : decode b_Flash_copyToDraft 5 = .ok (.bipush 6, 2) := by decide +kernel
theorem d_Flash_copyToDraft_7 : decode b_Flash_copyToDraft 7 = .ok (.imul, 1) := by decide +kernel
theorem d_Flash_copyToDraft_8 : decode b_Flash_copyToDraft 8 = .ok (.aload_n 0, 1) := by decide +kernel
theorem d_Flash_copyToDraft_9 : decode b_Flash_copyToDraft 9 = .ok (.getfield 19, 3) := by decide +kernel
theorem d_Flash_copyToDraft_12 : decode b_Flash_copyToDraft 12 = .ok (.iconst 0, 1) := by decide +kernel
theorem d_Flash_copyToDraft_13 : decode b_Flash_copyToDraft 13 = .ok (.bipush 6, 2) := by decide +kernel
theorem d_Flash_copyToDraft_15 : decode b_Flash_copyToDraft 15 = .ok (.invokestatic 37, 3) := by decide +kernel
theorem d_Flash_copyToDraft_18 : decode b_Flash_copyToDraft 18 = .ok (.return_, 1) := by decide +kernel
theorem d_Flash_sumOf_0 : decode b_Flash_sumOf 0 = .ok (.ldc2_w 43, 3) := by decide +kernel
theorem d_Flash_sumOf_3 : decode b_Flash_sumOf 3 = .ok (.aload_n 0, 1) := by decide +kernel
theorem d_Flash_sumOf_4 : decode b_Flash_sumOf 4 = .ok (.iload_n 1, 1) := by decide +kernel
theorem d_Flash_sumOf_5 : decode b_Flash_sumOf 5 = .ok (.laload, 1) := by decide +kernel
theorem d_Flash_sumOf_6 : decode b_Flash_sumOf 6 = .ok (.lmul, 1) := by decide +kernel
theorem d_Flash_sumOf_7 : decode b_Flash_sumOf 7 = .ok (.ldc2_w 45, 3) := by decide +kernel
theorem d_Flash_sumOf_10 : decode b_Flash_sumOf 10 = .ok (.aload_n 0, 1) := by decide +kernel
theorem d_Flash_sumOf_11 : decode b_Flash_sumOf 11 = .ok (.iload_n 1, 1) := by decide +kernel
theorem d_Flash_sumOf_12 : decode b_Flash_sumOf 12 = .ok (.iconst 1, 1) := by decide +kernel
theorem d_Flash_sumOf_13 : decode b_Flash_sumOf 13 = .ok (.iadd, 1) := by decide +kernel
theorem d_Flash_sumOf_14 : decode b_Flash_sumOf 14 = .ok (.laload, 1) := by decide +kernel
theorem d_Flash_sumOf_15 : decode b_Flash_sumOf 15 = .ok (.lmul, 1) := by decide +kernel
theorem d_Flash_sumOf_16 : decode b_Flash_sumOf 16 = .ok (.ladd, 1) := by decide +kernel
theorem d_Flash_sumOf_17 : decode b_Flash_sumOf 17 = .ok (.ldc2_w 47, 3) := by decide +kernel
theorem d_Flash_sumOf_20 : decode b_Flash_sumOf 20 = .ok (.aload_n 0, 1) := by decide +kernel
theorem d_Flash_sumOf_21 : decode b_Flash_sumOf 21 = .ok (.iload_n 1, 1) := by decide +kernel
theorem d_Flash_sumOf_22 : decode b_Flash_sumOf 22 = .ok (.iconst 2, 1) := by decide +kernel
theorem d_Flash_sumOf_23 : decode b_Flash_sumOf 23 = .ok (.iadd, 1) := by decide +kernel
theorem d_Flash_sumOf_24 : decode b_Flash_sumOf 24 = .ok (.laload, 1) := by decide +kernel
theorem d_Flash_sumOf_25 : decode b_Flash_sumOf 25 = .ok (.lmul, 1) := by decide +kernel
theorem d_Flash_sumOf_26 : decode b_Flash_sumOf 26 = .ok (.ladd, 1) := by decide +kernel
theorem d_Flash_sumOf_27 : decode b_Flash_sumOf 27 = .ok (.ldc2_w 49, 3) := by decide +kernel
theorem d_Flash_sumOf_30 : decode b_Flash_sumOf 30 = .ok (.aload_n 0, 1) := by decide +kernel
theorem d_Flash_sumOf_31 : decode b_Flash_sumOf 31 = .ok (.iload_n 1, 1) := by decide +kernel
theorem d_Flash_sumOf_32 : decode b_Flash_sumOf 32 = .ok (.iconst 3, 1) := by decide +kernel
theorem d_Flash_sumOf_33 : decode b_Flash_sumOf 33 = .ok (.iadd, 1) := by decide +kernel
theorem d_Flash_sumOf_34 : decode b_Flash_sumOf 34 = .ok (.laload, 1) := by decide +kernel
theorem d_Flash_sumOf_35 : decode b_Flash_sumOf 35 = .ok (.lmul, 1) := by decide +kernel
theorem d_Flash_sumOf_36 : decode b_Flash_sumOf 36 = .ok (.ladd, 1) := by decide +kernel
theorem d_Flash_sumOf_37 : decode b_Flash_sumOf 37 = .ok (.ldc2_w 51, 3) := by decide +kernel
theorem d_Flash_sumOf_40 : decode b_Flash_sumOf 40 = .ok (.aload_n 0, 1) := by decide +kernel
theorem d_Flash_sumOf_41 : decode b_Flash_sumOf 41 = .ok (.iload_n 1, 1) := by decide +kernel
theorem d_Flash_sumOf_42 : decode b_Flash_sumOf 42 = .ok (.iconst 4, 1) := by decide +kernel
theorem d_Flash_sumOf_43 : decode b_Flash_sumOf 43 = .ok (.iadd, 1) := by decide +kernel
theorem d_Flash_sumOf_44 : decode b_Flash_sumOf 44 = .ok (.laload, 1) := by decide +kernel
theorem d_Flash_sumOf_45 : decode b_Flash_sumOf 45 = .ok (.lmul, 1) := by decide +kernel
theorem d_Flash_sumOf_46 : decode b_Flash_sumOf 46 = .ok (.ladd, 1) := by decide +kernel
theorem d_Flash_sumOf_47 : decode b_Flash_sumOf 47 = .ok (.lconst 1, 1) := by decide +kernel
theorem d_Flash_sumOf_48 : decode b_Flash_sumOf 48 = .ok (.ladd, 1) := by decide +kernel
theorem d_Flash_sumOf_49 : decode b_Flash_sumOf 49 = .ok (.lreturn, 1) := by decide +kernel
theorem d_Flash_isGood_0 : decode b_Flash_isGood 0 = .ok (.iload_n 1, 1) := by decide +kernel
theorem d_Flash_isGood_1 : decode b_Flash_isGood 1 = .ok (.bipush 6, 2) := by decide +kernel
theorem d_Flash_isGood_3 : decode b_Flash_isGood 3 = .ok (.imul, 1) := by decide +kernel
theorem d_Flash_isGood_4 : decode b_Flash_isGood 4 = .ok (.istore_n 2, 1) := by decide +kernel
theorem d_Flash_isGood_5 : decode b_Flash_isGood 5 = .ok (.aload_n 0, 1) := by decide +kernel
theorem d_Flash_isGood_6 : decode b_Flash_isGood 6 = .ok (.getfield 11, 3) := by decide +kernel
theorem d_Flash_isGood_9 : decode b_Flash_isGood 9 = .ok (.iload_n 2, 1) := by decide +kernel
theorem d_Flash_isGood_10 : decode b_Flash_isGood 10 = .ok (.laload, 1) := by decide +kernel
theorem d_Flash_isGood_11 : decode b_Flash_isGood 11 = .ok (.lconst 0, 1) := by decide +kernel
theorem d_Flash_isGood_12 : decode b_Flash_isGood 12 = .ok (.lcmp, 1) := by decide +kernel
theorem d_Flash_isGood_13 : decode b_Flash_isGood 13 = .ok (.ifCond .le 30, 3) := by decide +kernel
theorem d_Flash_isGood_16 : decode b_Flash_isGood 16 = .ok (.aload_n 0, 1) := by decide +kernel
theorem d_Flash_isGood_17 : decode b_Flash_isGood 17 = .ok (.getfield 11, 3) := by decide +kernel
theorem d_Flash_isGood_20 : decode b_Flash_isGood 20 = .ok (.iload_n 2, 1) := by decide +kernel
theorem d_Flash_isGood_21 : decode b_Flash_isGood 21 = .ok (.bipush 6, 2) := by decide +kernel
theorem d_Flash_isGood_23 : decode b_Flash_isGood 23 = .ok (.iadd, 1) := by decide +kernel
theorem d_Flash_isGood_24 : decode b_Flash_isGood 24 = .ok (.iconst 1, 1) := by decide +kernel
theorem d_Flash_isGood_25 : decode b_Flash_isGood 25 = .ok (.isub, 1) := by decide +kernel
theorem d_Flash_isGood_26 : decode b_Flash_isGood 26 = .ok (.laload, 1) := by decide +kernel
theorem d_Flash_isGood_27 : decode b_Flash_isGood 27 = .ok (.aload_n 0, 1) := by decide +kernel
theorem d_Flash_isGood_28 : decode b_Flash_isGood 28 = .ok (.getfield 11, 3) := by decide +kernel
theorem d_Flash_isGood_31 : decode b_Flash_isGood 31 = .ok (.iload_n 2, 1) := by decide +kernel
theorem d_Flash_isGood_32 : decode b_Flash_isGood 32 = .ok (.invokestatic 53, 3) := by decide +kernel
theorem d_Flash_isGood_35 : decode b_Flash_isGood 35 = .ok (.lcmp, 1) := by decide +kernel
theorem d_Flash_isGood_36 : decode b_Flash_isGood 36 = .ok (.ifCond .ne 7, 3) := by decide +kernel
theorem d_Flash_isGood_39 : decode b_Flash_isGood 39 = .ok (.iconst 1, 1) := by decide +kernel
theorem d_Flash_isGood_40 : decode b_Flash_isGood 40 = .ok (.goto 4, 3) := by decide +kernel
theorem d_Flash_isGood_43 : decode b_Flash_isGood 43 = .ok (.iconst 0, 1) := by decide +kernel
theorem d_Flash_isGood_44 : decode b_Flash_isGood 44 = .ok (.ireturn, 1) := by decide +kernel
theorem d_Flash_goodSlots_0 : decode b_Flash_goodSlots 0 = .ok (.iconst 0, 1) := by decide +kernel
theorem d_Flash_goodSlots_1 : decode b_Flash_goodSlots 1 = .ok (.istore_n 1, 1) := by decide +kernel
theorem d_Flash_goodSlots_2 : decode b_Flash_goodSlots 2 = .ok (.iconst 0, 1) := by decide +kernel
theorem d_Flash_goodSlots_3 : decode b_Flash_goodSlots 3 = .ok (.istore_n 2, 1) := by decide +kernel
theorem d_Flash_goodSlots_4 : decode b_Flash_goodSlots 4 = .ok (.iload_n 2, 1) := by decide +kernel
theorem d_Flash_goodSlots_5 : decode b_Flash_goodSlots 5 = .ok (.bipush 12, 2) := by decide +kernel
theorem d_Flash_goodSlots_7 : decode b_Flash_goodSlots 7 = .ok (.if_icmp .ge 20, 3) := by decide +kernel
theorem d_Flash_goodSlots_10 : decode b_Flash_goodSlots 10 = .ok (.aload_n 0, 1) := by decide +kernel
theorem d_Flash_goodSlots_11 : decode b_Flash_goodSlots 11 = .ok (.iload_n 2, 1) := by decide +kernel
theorem d_Flash_goodSlots_12 : decode b_Flash_goodSlots 12 = .ok (.invokevirtual 57, 3) := by decide +kernel
theorem d_Flash_goodSlots_15 : decode b_Flash_goodSlots 15 = .ok (.ifCond .eq 6, 3) := by decide +kernel
theorem d_Flash_goodSlots_18 : decode b_Flash_goodSlots 18 = .ok (.iinc 1 1, 3) := by decide +kernel
theorem d_Flash_goodSlots_21 : decode b_Flash_goodSlots 21 = .ok (.iinc 2 1, 3) := by decide +kernel
theorem d_Flash_goodSlots_24 : decode b_Flash_goodSlots 24 = .ok (.goto (-20), 3) := by decide +kernel
theorem d_Flash_goodSlots_27 : decode b_Flash_goodSlots 27 = .ok (.iload_n 1, 1) := by decide +kernel
theorem d_Flash_goodSlots_28 : decode b_Flash_goodSlots 28 = .ok (.ireturn, 1) := by decide +kernel
theorem d_Flash_newestSlot_0 : decode b_Flash_newestSlot 0 = .ok (.iconst (-1), 1) := by decide +kernel
theorem d_Flash_newestSlot_1 : decode b_Flash_newestSlot 1 = .ok (.istore_n 1, 1) := by decide +kernel
theorem d_Flash_newestSlot_2 : decode b_Flash_newestSlot 2 = .ok (.iconst 0, 1) := by decide +kernel
theorem d_Flash_newestSlot_3 : decode b_Flash_newestSlot 3 = .ok (.istore_n 2, 1) := by decide +kernel
theorem d_Flash_newestSlot_4 : decode b_Flash_newestSlot 4 = .ok (.iload_n 2, 1) := by decide +kernel
theorem d_Flash_newestSlot_5 : decode b_Flash_newestSlot 5 = .ok (.bipush 12, 2) := by decide +kernel
theorem d_Flash_newestSlot_7 : decode b_Flash_newestSlot 7 = .ok (.if_icmp .ge 40, 3) := by decide +kernel
theorem d_Flash_newestSlot_10 : decode b_Flash_newestSlot 10 = .ok (.aload_n 0, 1) := by decide +kernel
theorem d_Flash_newestSlot_11 : decode b_Flash_newestSlot 11 = .ok (.iload_n 2, 1) := by decide +kernel
theorem d_Flash_newestSlot_12 : decode b_Flash_newestSlot 12 = .ok (.invokevirtual 57, 3) := by decide +kernel
theorem d_Flash_newestSlot_15 : decode b_Flash_newestSlot 15 = .ok (.ifCond .eq 26, 3) := by decide +kernel
theorem d_Flash_newestSlot_18 : decode b_Flash_newestSlot 18 = .ok (.iload_n 1, 1) := by decide +kernel
theorem d_Flash_newestSlot_19 : decode b_Flash_newestSlot 19 = .ok (.iconst (-1), 1) := by decide +kernel
theorem d_Flash_newestSlot_20 : decode b_Flash_newestSlot 20 = .ok (.if_icmp .eq 19, 3) := by decide +kernel
theorem d_Flash_newestSlot_23 : decode b_Flash_newestSlot 23 = .ok (.aload_n 0, 1) := by decide +kernel
theorem d_Flash_newestSlot_24 : decode b_Flash_newestSlot 24 = .ok (.iload_n 2, 1) := by decide +kernel
theorem d_Flash_newestSlot_25 : decode b_Flash_newestSlot 25 = .ok (.iconst 0, 1) := by decide +kernel
theorem d_Flash_newestSlot_26 : decode b_Flash_newestSlot 26 = .ok (.invokevirtual 61, 3) := by decide +kernel
theorem d_Flash_newestSlot_29 : decode b_Flash_newestSlot 29 = .ok (.aload_n 0, 1) := by decide +kernel
theorem d_Flash_newestSlot_30 : decode b_Flash_newestSlot 30 = .ok (.iload_n 1, 1) := by decide +kernel
theorem d_Flash_newestSlot_31 : decode b_Flash_newestSlot 31 = .ok (.iconst 0, 1) := by decide +kernel
theorem d_Flash_newestSlot_32 : decode b_Flash_newestSlot 32 = .ok (.invokevirtual 61, 3) := by decide +kernel
theorem d_Flash_newestSlot_35 : decode b_Flash_newestSlot 35 = .ok (.lcmp, 1) := by decide +kernel
theorem d_Flash_newestSlot_36 : decode b_Flash_newestSlot 36 = .ok (.ifCond .le 5, 3) := by decide +kernel
theorem d_Flash_newestSlot_39 : decode b_Flash_newestSlot 39 = .ok (.iload_n 2, 1) := by decide +kernel
theorem d_Flash_newestSlot_40 : decode b_Flash_newestSlot 40 = .ok (.istore_n 1, 1) := by decide +kernel
theorem d_Flash_newestSlot_41 : decode b_Flash_newestSlot 41 = .ok (.iinc 2 1, 3) := by decide +kernel
theorem d_Flash_newestSlot_44 : decode b_Flash_newestSlot 44 = .ok (.goto (-40), 3) := by decide +kernel
theorem d_Flash_newestSlot_47 : decode b_Flash_newestSlot 47 = .ok (.iload_n 1, 1) := by decide +kernel
theorem d_Flash_newestSlot_48 : decode b_Flash_newestSlot 48 = .ok (.ireturn, 1) := by decide +kernel
theorem d_Flash_nextNumber_0 : decode b_Flash_nextNumber 0 = .ok (.aload_n 0, 1) := by decide +kernel
theorem d_Flash_nextNumber_1 : decode b_Flash_nextNumber 1 = .ok (.invokevirtual 65, 3) := by decide +kernel
theorem d_Flash_nextNumber_4 : decode b_Flash_nextNumber 4 = .ok (.istore_n 1, 1) := by decide +kernel
theorem d_Flash_nextNumber_5 : decode b_Flash_nextNumber 5 = .ok (.iload_n 1, 1) := by decide +kernel
theorem d_Flash_nextNumber_6 : decode b_Flash_nextNumber 6 = .ok (.iconst (-1), 1) := by decide +kernel
theorem d_Flash_nextNumber_7 : decode b_Flash_nextNumber 7 = .ok (.if_icmp .ne 7, 3) := by decide +kernel
theorem d_Flash_nextNumber_10 : decode b_Flash_nextNumber 10 = .ok (.lconst 1, 1) := by decide +kernel
theorem d_Flash_nextNumber_11 : decode b_Flash_nextNumber 11 = .ok (.goto 11, 3) := by decide +kernel
theorem d_Flash_nextNumber_14 : decode b_Flash_nextNumber 14 = .ok (.aload_n 0, 1) := by decide +kernel
theorem d_Flash_nextNumber_15 : decode b_Flash_nextNumber 15 = .ok (.iload_n 1, 1) := by decide +kernel
theorem d_Flash_nextNumber_16 : decode b_Flash_nextNumber 16 = .ok (.iconst 0, 1) := by decide +kernel
theorem d_Flash_nextNumber_17 : decode b_Flash_nextNumber 17 = .ok (.invokevirtual 61, 3) := by decide +kernel
theorem d_Flash_nextNumber_20 : decode b_Flash_nextNumber 20 = .ok (.lconst 1, 1) := by decide +kernel
theorem d_Flash_nextNumber_21 : decode b_Flash_nextNumber 21 = .ok (.ladd, 1) := by decide +kernel
theorem d_Flash_nextNumber_22 : decode b_Flash_nextNumber 22 = .ok (.lreturn, 1) := by decide +kernel
theorem d_Flash_sectorBehind_0 : decode b_Flash_sectorBehind 0 = .ok (.iconst 1, 1) := by decide +kernel
theorem d_Flash_sectorBehind_1 : decode b_Flash_sectorBehind 1 = .ok (.istore_n 2, 1) := by decide +kernel
theorem d_Flash_sectorBehind_2 : decode b_Flash_sectorBehind 2 = .ok (.iload_n 2, 1) := by decide +kernel
theorem d_Flash_sectorBehind_3 : decode b_Flash_sectorBehind 3 = .ok (.iconst 4, 1) := by decide +kernel
theorem d_Flash_sectorBehind_4 : decode b_Flash_sectorBehind 4 = .ok (.if_icmp .gt 27, 3) := by decide +kernel
theorem d_Flash_sectorBehind_7 : decode b_Flash_sectorBehind 7 = .ok (.iload_n 1, 1) := by decide +kernel
theorem d_Flash_sectorBehind_8 : decode b_Flash_sectorBehind 8 = .ok (.iload_n 2, 1) := by decide +kernel
theorem d_Flash_sectorBehind_9 : decode b_Flash_sectorBehind 9 = .ok (.iadd, 1) := by decide +kernel
theorem d_Flash_sectorBehind_10 : decode b_Flash_sectorBehind 10 = .ok (.iconst 4, 1) := by decide +kernel
theorem d_Flash_sectorBehind_11 : decode b_Flash_sectorBehind 11 = .ok (.irem, 1) := by decide +kernel
theorem d_Flash_sectorBehind_12 : decode b_Flash_sectorBehind 12 = .ok (.istore_n 3, 1) := by decide +kernel
theorem d_Flash_sectorBehind_13 : decode b_Flash_sectorBehind 13 = .ok (.aload_n 0, 1) := by decide +kernel
theorem d_Flash_sectorBehind_14 : decode b_Flash_sectorBehind 14 = .ok (.getfield 15, 3) := by decide +kernel
theorem d_Flash_sectorBehind_17 : decode b_Flash_sectorBehind 17 = .ok (.iload_n 3, 1) := by decide +kernel
theorem d_Flash_sectorBehind_18 : decode b_Flash_sectorBehind 18 = .ok (.iaload, 1) := by decide +kernel
theorem d_Flash_sectorBehind_19 : decode b_Flash_sectorBehind 19 = .ok (.iconst 4, 1) := by decide +kernel
theorem d_Flash_sectorBehind_20 : decode b_Flash_sectorBehind 20 = .ok (.if_icmp .ge 5, 3) := by decide +kernel
theorem d_Flash_sectorBehind_23 : decode b_Flash_sectorBehind 23 = .ok (.iload_n 3, 1) := by decide +kernel
theorem d_Flash_sectorBehind_24 : decode b_Flash_sectorBehind 24 = .ok (.ireturn, 1) := by decide +kernel
theorem d_Flash_sectorBehind_25 : decode b_Flash_sectorBehind 25 = .ok (.iinc 2 1, 3) := by decide +kernel
theorem d_Flash_sectorBehind_28 : decode b_Flash_sectorBehind 28 = .ok (.goto (-26), 3) := by decide +kernel
theorem d_Flash_sectorBehind_31 : decode b_Flash_sectorBehind 31 = .ok (.iconst (-1), 1) := by decide +kernel
theorem d_Flash_sectorBehind_32 : decode b_Flash_sectorBehind 32 = .ok (.ireturn, 1) := by decide +kernel
theorem d_Flash_erase_0 : decode b_Flash_erase 0 = .ok (.iload_n 1, 1) := by decide +kernel
theorem d_Flash_erase_1 : decode b_Flash_erase 1 = .ok (.iconst 3, 1) := by decide +kernel
theorem d_Flash_erase_2 : decode b_Flash_erase 2 = .ok (.imul, 1) := by decide +kernel
theorem d_Flash_erase_3 : decode b_Flash_erase 3 = .ok (.bipush 6, 2) := by decide +kernel
theorem d_Flash_erase_5 : decode b_Flash_erase 5 = .ok (.imul, 1) := by decide +kernel
theorem d_Flash_erase_6 : decode b_Flash_erase 6 = .ok (.istore_n 2, 1) := by decide +kernel
theorem d_Flash_erase_7 : decode b_Flash_erase 7 = .ok (.iload_n 2, 1) := by decide +kernel
theorem d_Flash_erase_8 : decode b_Flash_erase 8 = .ok (.istore_n 3, 1) := by decide +kernel
theorem d_Flash_erase_9 : decode b_Flash_erase 9 = .ok (.iload_n 3, 1) := by decide +kernel
theorem d_Flash_erase_10 : decode b_Flash_erase 10 = .ok (.iload_n 2, 1) := by decide +kernel
theorem d_Flash_erase_11 : decode b_Flash_erase 11 = .ok (.bipush 18, 2) := by decide +kernel
theorem d_Flash_erase_13 : decode b_Flash_erase 13 = .ok (.iadd, 1) := by decide +kernel
theorem d_Flash_erase_14 : decode b_Flash_erase 14 = .ok (.if_icmp .ge 18, 3) := by decide +kernel
theorem d_Flash_erase_17 : decode b_Flash_erase 17 = .ok (.aload_n 0, 1) := by decide +kernel
theorem d_Flash_erase_18 : decode b_Flash_erase 18 = .ok (.getfield 11, 3) := by decide +kernel
theorem d_Flash_erase_21 : decode b_Flash_erase 21 = .ok (.iload_n 3, 1) := by decide +kernel
theorem d_Flash_erase_22 : decode b_Flash_erase 22 = .ok (.ldc2_w 29, 3) := by decide +kernel
theorem d_Flash_erase_25 : decode b_Flash_erase 25 = .ok (.lastore, 1) := by decide +kernel
theorem d_Flash_erase_26 : decode b_Flash_erase 26 = .ok (.iinc 3 1, 3) := by decide +kernel
theorem d_Flash_erase_29 : decode b_Flash_erase 29 = .ok (.goto (-20), 3) := by decide +kernel
theorem d_Flash_erase_32 : decode b_Flash_erase 32 = .ok (.aload_n 0, 1) := by decide +kernel
theorem d_Flash_erase_33 : decode b_Flash_erase 33 = .ok (.getfield 15, 3) := by decide +kernel
theorem d_Flash_erase_36 : decode b_Flash_erase 36 = .ok (.iload_n 1, 1) := by decide +kernel
theorem d_Flash_erase_37 : decode b_Flash_erase 37 = .ok (.dup2, 1) := by decide +kernel
theorem d_Flash_erase_38 : decode b_Flash_erase 38 = .ok (.iaload, 1) := by decide +kernel
theorem d_Flash_erase_39 : decode b_Flash_erase 39 = .ok (.iconst 1, 1) := by decide +kernel
theorem d_Flash_erase_40 : decode b_Flash_erase 40 = .ok (.iadd, 1) := by decide +kernel
theorem d_Flash_erase_41 : decode b_Flash_erase 41 = .ok (.iastore, 1) := by decide +kernel
theorem d_Flash_erase_42 : decode b_Flash_erase 42 = .ok (.return_, 1) := by decide +kernel
theorem d_Flash_makePlace_0 : decode b_Flash_makePlace 0 = .ok (.aload_n 0, 1) := by decide +kernel
theorem d_Flash_makePlace_1 : decode b_Flash_makePlace 1 = .ok (.getfield 22, 3) := by decide +kernel
theorem d_Flash_makePlace_4 : decode b_Flash_makePlace 4 = .ok (.iconst (-1), 1) := by decide +kernel
theorem d_Flash_makePlace_5 : decode b_Flash_makePlace 5 = .ok (.if_icmp .eq 21, 3) := by decide +kernel
theorem d_Flash_makePlace_8 : decode b_Flash_makePlace 8 = .ok (.aload_n 0, 1) := by decide +kernel
theorem d_Flash_makePlace_9 : decode b_Flash_makePlace 9 = .ok (.getfield 22, 3) := by decide +kernel
theorem d_Flash_makePlace_12 : decode b_Flash_makePlace 12 = .ok (.iconst 1, 1) := by decide +kernel
theorem d_Flash_makePlace_13 : decode b_Flash_makePlace 13 = .ok (.iadd, 1) := by decide +kernel
theorem d_Flash_makePlace_14 : decode b_Flash_makePlace 14 = .ok (.iconst 3, 1) := by decide +kernel
theorem d_Flash_makePlace_15 : decode b_Flash_makePlace 15 = .ok (.irem, 1) := by decide +kernel
theorem d_Flash_makePlace_16 : decode b_Flash_makePlace 16 = .ok (.ifCond .eq 10, 3) := by decide +kernel
theorem d_Flash_makePlace_19 : decode b_Flash_makePlace 19 = .ok (.aload_n 0, 1) := by decide +kernel
theorem d_Flash_makePlace_20 : decode b_Flash_makePlace 20 = .ok (.getfield 22, 3) := by decide +kernel
theorem d_Flash_makePlace_23 : decode b_Flash_makePlace 23 = .ok (.iconst 1, 1) := by decide +kernel
theorem d_Flash_makePlace_24 : decode b_Flash_makePlace 24 = .ok (.iadd, 1) := by decide +kernel
theorem d_Flash_makePlace_25 : decode b_Flash_makePlace 25 = .ok (.ireturn, 1) := by decide +kernel
theorem d_Flash_makePlace_26 : decode b_Flash_makePlace 26 = .ok (.aload_n 0, 1) := by decide +kernel
theorem d_Flash_makePlace_27 : decode b_Flash_makePlace 27 = .ok (.aload_n 0, 1) := by decide +kernel
theorem d_Flash_makePlace_28 : decode b_Flash_makePlace 28 = .ok (.getfield 22, 3) := by decide +kernel
theorem d_Flash_makePlace_31 : decode b_Flash_makePlace 31 = .ok (.iconst (-1), 1) := by decide +kernel
theorem d_Flash_makePlace_32 : decode b_Flash_makePlace 32 = .ok (.if_icmp .ne 7, 3) := by decide +kernel
theorem d_Flash_makePlace_35 : decode b_Flash_makePlace 35 = .ok (.iconst 3, 1) := by decide +kernel
theorem d_Flash_makePlace_36 : decode b_Flash_makePlace 36 = .ok (.goto 9, 3) := by decide +kernel
theorem d_Flash_makePlace_39 : decode b_Flash_makePlace 39 = .ok (.aload_n 0, 1) := by decide +kernel
theorem d_Flash_makePlace_40 : decode b_Flash_makePlace 40 = .ok (.getfield 22, 3) := by decide +kernel
theorem d_Flash_makePlace_43 : decode b_Flash_makePlace 43 = .ok (.iconst 3, 1) := by decide +kernel
theorem d_Flash_makePlace_44 : decode b_Flash_makePlace 44 = .ok (.idiv, 1) := by decide +kernel
theorem d_Flash_makePlace_45 : decode b_Flash_makePlace 45 = .ok (.invokevirtual 69, 3) := by decide +kernel
theorem d_Flash_makePlace_48 : decode b_Flash_makePlace 48 = .ok (.istore_n 1, 1) := by decide +kernel
theorem d_Flash_makePlace_49 : decode b_Flash_makePlace 49 = .ok (.iload_n 1, 1) := by decide +kernel
theorem d_Flash_makePlace_50 : decode b_Flash_makePlace 50 = .ok (.iconst (-1), 1) := by decide +kernel
theorem d_Flash_makePlace_51 : decode b_Flash_makePlace 51 = .ok (.if_icmp .ne 5, 3) := by decide +kernel
theorem d_Flash_makePlace_54 : decode b_Flash_makePlace 54 = .ok (.iconst (-1), 1) := by decide +kernel
theorem d_Flash_makePlace_55 : decode b_Flash_makePlace 55 = .ok (.ireturn, 1) := by decide +kernel
theorem d_Flash_makePlace_56 : decode b_Flash_makePlace 56 = .ok (.aload_n 0, 1) := by decide +kernel
theorem d_Flash_makePlace_57 : decode b_Flash_makePlace 57 = .ok (.iload_n 1, 1) := by decide +kernel
theorem d_Flash_makePlace_58 : decode b_Flash_makePlace 58 = .ok (.invokevirtual 73, 3) := by decide +kernel
theorem d_Flash_makePlace_61 : decode b_Flash_makePlace 61 = .ok (.iload_n 1, 1) := by decide +kernel
theorem d_Flash_makePlace_62 : decode b_Flash_makePlace 62 = .ok (.iconst 3, 1) := by decide +kernel
theorem d_Flash_makePlace_63 : decode b_Flash_makePlace 63 = .ok (.imul, 1) := by decide +kernel
theorem d_Flash_makePlace_64 : decode b_Flash_makePlace 64 = .ok (.ireturn, 1) := by decide +kernel
theorem d_Flash_write_0 : decode b_Flash_write 0 = .ok (.aload_n 0, 1) := by decide +kernel
theorem d_Flash_write_1 : decode b_Flash_write 1 = .ok (.getfield 19, 3) := by decide +kernel
theorem d_Flash_write_4 : decode b_Flash_write 4 = .ok (.iconst 0, 1) := by decide +kernel
theorem d_Flash_write_5 : decode b_Flash_write 5 = .ok (.lload_n 2, 1) := by decide +kernel
theorem d_Flash_write_6 : decode b_Flash_write 6 = .ok (.lastore, 1) := by decide +kernel
theorem d_Flash_write_7 : decode b_Flash_write 7 = .ok (.aload_n 0, 1) := by decide +kernel
theorem d_Flash_write_8 : decode b_Flash_write 8 = .ok (.getfield 19, 3) := by decide +kernel
theorem d_Flash_write_11 : decode b_Flash_write 11 = .ok (.iconst 5, 1) := by decide +kernel
theorem d_Flash_write_12 : decode b_Flash_write 12 = .ok (.aload_n 0, 1) := by decide +kernel
theorem d_Flash_write_13 : decode b_Flash_write 13 = .ok (.getfield 19, 3) := by decide +kernel
theorem d_Flash_write_16 : decode b_Flash_write 16 = .ok (.iconst 0, 1) := by decide +kernel
theorem d_Flash_write_17 : decode b_Flash_write 17 = .ok (.invokestatic 53, 3) := by decide +kernel
theorem d_Flash_write_20 : decode b_Flash_write 20 = .ok (.lastore, 1) := by decide +kernel
theorem d_Flash_write_21 : decode b_Flash_write 21 = .ok (.aload_n 0, 1) := by decide +kernel
theorem d_Flash_write_22 : decode b_Flash_write 22 = .ok (.getfield 26, 3) := by decide +kernel
theorem d_Flash_write_25 : decode b_Flash_write 25 = .ok (.iconst (-1), 1) := by decide +kernel
theorem d_Flash_write_26 : decode b_Flash_write 26 = .ok (.if_icmp .ne 7, 3) := by decide +kernel
theorem d_Flash_write_29 : decode b_Flash_write 29 = .ok (.iconst 1, 1) := by decide +kernel
theorem d_Flash_write_30 : decode b_Flash_write 30 = .ok (.goto 4, 3) := by decide +kernel
theorem d_Flash_write_33 : decode b_Flash_write 33 = .ok (.iconst 0, 1) := by decide +kernel
theorem d_Flash_write_34 : decode b_Flash_write 34 = .ok (.istore 4, 2) := by decide +kernel
theorem d_Flash_write_36 : decode b_Flash_write 36 = .ok (.aload_n 0, 1) := by decide +kernel
theorem d_Flash_write_37 : decode b_Flash_write 37 = .ok (.getfield 19, 3) := by decide +kernel
theorem d_Flash_write_40 : decode b_Flash_write 40 = .ok (.iconst 0, 1) := by decide +kernel
theorem d_Flash_write_41 : decode b_Flash_write 41 = .ok (.aload_n 0, 1) := by decide +kernel
theorem d_Flash_write_42 : decode b_Flash_write 42 = .ok (.getfield 11, 3) := by decide +kernel
theorem d_Flash_write_45 : decode b_Flash_write 45 = .ok (.iload_n 1, 1) := by decide +kernel
theorem d_Flash_write_46 : decode b_Flash_write 46 = .ok (.bipush 6, 2) := by decide +kernel
theorem d_Flash_write_48 : decode b_Flash_write 48 = .ok (.imul, 1) := by decide +kernel
theorem d_Flash_write_49 : decode b_Flash_write 49 = .ok (.iload 4, 2) := by decide +kernel
theorem d_Flash_write_51 : decode b_Flash_write 51 = .ok (.ifCond .eq 8, 3) := by decide +kernel
theorem d_Flash_write_54 : decode b_Flash_write 54 = .ok (.bipush 6, 2) := by decide +kernel
theorem d_Flash_write_56 : decode b_Flash_write 56 = .ok (.goto 7, 3) := by decide +kernel
theorem d_Flash_write_59 : decode b_Flash_write 59 = .ok (.aload_n 0, 1) := by decide +kernel
theorem d_Flash_write_60 : decode b_Flash_write 60 = .ok (.getfield 26, 3) := by decide +kernel
theorem d_Flash_write_63 : decode b_Flash_write 63 = .ok (.invokestatic 37, 3) := by decide +kernel
theorem d_Flash_write_66 : decode b_Flash_write 66 = .ok (.aload_n 0, 1) := by decide +kernel
theorem d_Flash_write_67 : decode b_Flash_write 67 = .ok (.iload_n 1, 1) := by decide +kernel
theorem d_Flash_write_68 : decode b_Flash_write 68 = .ok (.putfield 22, 3) := by decide +kernel
theorem d_Flash_write_71 : decode b_Flash_write 71 = .ok (.aload_n 0, 1) := by decide +kernel
theorem d_Flash_write_72 : decode b_Flash_write 72 = .ok (.iconst (-1), 1) := by decide +kernel
theorem d_Flash_write_73 : decode b_Flash_write 73 = .ok (.putfield 26, 3) := by decide +kernel
theorem d_Flash_write_76 : decode b_Flash_write 76 = .ok (.iload 4, 2) := by decide +kernel
theorem d_Flash_write_78 : decode b_Flash_write 78 = .ok (.ireturn, 1) := by decide +kernel
