theorem d_Events_add_0 : decode b_Events_add 0 = .ok (.aload_n 0, 1) := by decide +kernel
theorem d_Events_add_1 : decode b_Events_add 1 = .ok (.getfield 13, 3) := by decide +kernel
theorem d_Events_add_4 : decode b_Events_add 4 = .ok (.bipush 12, 2) := by decide +kernel
theorem d_Events_add_6 : decode b_Events_add 6 = .ok (.if_icmp .ne 28, 3) := by decide +kernel
theorem d_Events_add_9 : decode b_Events_add 9 = .ok (.aload_n 0, 1) := by decide +kernel
theorem d_Events_add_10 : decode b_Events_add 10 = .ok (.getfield 9, 3) := by decide +kernel
theorem d_Events_add_13 : decode b_Events_add 13 = .ok (.iconst 1, 1) := by decide +kernel
theorem d_Events_add_14 : decode b_Events_add 14 = .ok (.aload_n 0, 1) := by decide +kernel
theorem d_Events_add_15 : decode b_Events_add 15 = .ok (.getfield 9, 3) := by decide +kernel
theorem d_Events_add_18 : decode b_Events_add 18 = .ok (.iconst 0, 1) := by decide +kernel
theorem d_Events_add_19 : decode b_Events_add 19 = .ok (.bipush 11, 2) := by decide +kernel
theorem d_Events_add_21 : decode b_Events_add 21 = .ok (.invokestatic 17, 3) := by decide +kernel
theorem d_Events_add_24 : decode b_Events_add 24 = .ok (.aload_n 0, 1) := by decide +kernel
theorem d_Events_add_25 : decode b_Events_add 25 = .ok (.dup, 1) := by decide +kernel
theorem d_Events_add_26 : decode b_Events_add 26 = .ok (.getfield 13, 3) := by decide +kernel
theorem d_Events_add_29 : decode b_Events_add 29 = .ok (.iconst 1, 1) := by decide +kernel
theorem d_Events_add_30 : decode b_Events_add 30 = .ok (.isub, 1) := by decide +kernel
theorem d_Events_add_31 : decode b_Events_add 31 = .ok (.putfield 13, 3) := by decide +kernel
theorem d_Events_add_34 : decode b_Events_add 34 = .ok (.aload_n 0, 1) := by decide +kernel
theorem d_Events_add_35 : decode b_Events_add 35 = .ok (.getfield 9, 3) := by decide +kernel
theorem d_Events_add_38 : decode b_Events_add 38 = .ok (.aload_n 0, 1) := by decide +kernel
theorem d_Events_add_39 : decode b_Events_add 39 = .ok (.getfield 13, 3) := by decide +kernel
theorem d_Events_add_42 : decode b_Events_add 42 = .ok (.sipush 10000, 3) := by decide +kernel
theorem d_Events_add_45 : decode b_Events_add 45 = .ok (.iload_n 1, 1) := by decide +kernel
theorem d_Events_add_46 : decode b_Events_add 46 = .ok (.imul, 1) := by decide +kernel
theorem d_Events_add_47 : decode b_Events_add 47 = .ok (.iload_n 2, 1) := by decide +kernel
theorem d_Events_add_48 : decode b_Events_add 48 = .ok (.sipush 10000, 3) := by decide +kernel
theorem d_Events_add_51 : decode b_Events_add 51 = .ok (.irem, 1) := by decide +kernel
theorem d_Events_add_52 : decode b_Events_add 52 = .ok (.iadd, 1) := by decide +kernel
theorem d_Events_add_53 : decode b_Events_add 53 = .ok (.iastore, 1) := by decide +kernel
theorem d_Events_add_54 : decode b_Events_add 54 = .ok (.aload_n 0, 1) := by decide +kernel
theorem d_Events_add_55 : decode b_Events_add 55 = .ok (.dup, 1) := by decide +kernel
theorem d_Events_add_56 : decode b_Events_add 56 = .ok (.getfield 13, 3) := by decide +kernel
theorem d_Events_add_59 : decode b_Events_add 59 = .ok (.iconst 1, 1) := by decide +kernel
theorem d_Events_add_60 : decode b_Events_add 60 = .ok (.iadd, 1) := by decide +kernel
theorem d_Events_add_61 : decode b_Events_add 61 = .ok (.putfield 13, 3) := by decide +kernel
theorem d_Events_add_64 : decode b_Events_add 64 = .ok (.return_, 1) := by decide +kernel
theorem d_Events_clear_0 : decode b_Events_clear 0 = .ok (.aload_n 0, 1) := by decide +kernel
theorem d_Events_clear_1 : decode b_Events_clear 1 = .ok (.iconst 0, 1) := by decide +kernel
theorem d_Events_clear_2 : decode b_Events_clear 2 = .ok (.putfield 13, 3) := by decide +kernel
theorem d_Events_clear_5 : decode b_Events_clear 5 = .ok (.return_, 1) := by decide +kernel
