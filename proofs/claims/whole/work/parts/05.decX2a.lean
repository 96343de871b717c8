theorem dX2_init_0 : decode cX2_init 0 = .ok (.aload_n 0, 1) := by decide +kernel
theorem dX2_init_1 : decode cX2_init 1 = .ok (.invokespecial 3, 3) := by decide +kernel
theorem dX2_init_4 : decode cX2_init 4 = .ok (.aload_n 0, 1) := by decide +kernel
theorem dX2_init_5 : decode cX2_init 5 = .ok (.bipush 20, 2) := by decide +kernel
theorem dX2_init_7 : decode cX2_init 7 = .ok (.newarray .int, 2) := by decide +kernel
theorem dX2_init_9 : decode cX2_init 9 = .ok (.putfield 9, 3) := by decide +kernel
theorem dX2_init_12 : decode cX2_init 12 = .ok (.aload_n 0, 1) := by decide +kernel
theorem dX2_init_13 : decode cX2_init 13 = .ok (.bipush 20, 2) := by decide +kernel
theorem dX2_init_15 : decode cX2_init 15 = .ok (.newarray .int, 2) := by decide +kernel
theorem dX2_init_17 : decode cX2_init 17 = .ok (.putfield 15, 3) := by decide +kernel
theorem dX2_init_20 : decode cX2_init 20 = .ok (.aload_n 0, 1) := by decide +kernel
theorem dX2_init_21 : decode cX2_init 21 = .ok (.bipush 20, 2) := by decide +kernel
theorem dX2_init_23 : decode cX2_init 23 = .ok (.newarray .int, 2) := by decide +kernel
theorem dX2_init_25 : decode cX2_init 25 = .ok (.putfield 18, 3) := by decide +kernel
theorem dX2_init_28 : decode cX2_init 28 = .ok (.return_, 1) := by decide +kernel
theorem dX2_add_0 : decode cX2_add 0 = .ok (.aload_n 0, 1) := by decide +kernel
theorem dX2_add_1 : decode cX2_add 1 = .ok (.getfield 21, 3) := by decide +kernel
theorem dX2_add_4 : decode cX2_add 4 = .ok (.ifCond .lt 12, 3) := by decide +kernel
theorem dX2_add_7 : decode cX2_add 7 = .ok (.aload_n 0, 1) := by decide +kernel
theorem dX2_add_8 : decode cX2_add 8 = .ok (.getfield 21, 3) := by decide +kernel
theorem dX2_add_11 : decode cX2_add 11 = .ok (.bipush 20, 2) := by decide +kernel
theorem dX2_add_13 : decode cX2_add 13 = .ok (.if_icmp .lt 5, 3) := by decide +kernel
theorem dX2_add_16 : decode cX2_add 16 = .ok (.iconst (-1), 1) := by decide +kernel
theorem dX2_add_17 : decode cX2_add 17 = .ok (.ireturn, 1) := by decide +kernel
theorem dX2_add_18 : decode cX2_add 18 = .ok (.aload_n 0, 1) := by decide +kernel
theorem dX2_add_19 : decode cX2_add 19 = .ok (.getfield 9, 3) := by decide +kernel
theorem dX2_add_22 : decode cX2_add 22 = .ok (.aload_n 0, 1) := by decide +kernel
theorem dX2_add_23 : decode cX2_add 23 = .ok (.getfield 21, 3) := by decide +kernel
theorem dX2_add_26 : decode cX2_add 26 = .ok (.iload_n 1, 1) := by decide +kernel
theorem dX2_add_27 : decode cX2_add 27 = .ok (.iastore, 1) := by decide +kernel
theorem dX2_add_28 : decode cX2_add 28 = .ok (.aload_n 0, 1) := by decide +kernel
theorem dX2_add_29 : decode cX2_add 29 = .ok (.getfield 15, 3) := by decide +kernel
theorem dX2_add_32 : decode cX2_add 32 = .ok (.aload_n 0, 1) := by decide +kernel
theorem dX2_add_33 : decode cX2_add 33 = .ok (.getfield 21, 3) := by decide +kernel
theorem dX2_add_36 : decode cX2_add 36 = .ok (.iload_n 2, 1) := by decide +kernel
theorem dX2_add_37 : decode cX2_add 37 = .ok (.iastore, 1) := by decide +kernel
theorem dX2_add_38 : decode cX2_add 38 = .ok (.aload_n 0, 1) := by decide +kernel
theorem dX2_add_39 : decode cX2_add 39 = .ok (.getfield 18, 3) := by decide +kernel
theorem dX2_add_42 : decode cX2_add 42 = .ok (.aload_n 0, 1) := by decide +kernel
theorem dX2_add_43 : decode cX2_add 43 = .ok (.getfield 21, 3) := by decide +kernel
theorem dX2_add_46 : decode cX2_add 46 = .ok (.iload_n 3, 1) := by decide +kernel
theorem dX2_add_47 : decode cX2_add 47 = .ok (.iastore, 1) := by decide +kernel
theorem dX2_add_48 : decode cX2_add 48 = .ok (.aload_n 0, 1) := by decide +kernel
theorem dX2_add_49 : decode cX2_add 49 = .ok (.dup, 1) := by decide +kernel
theorem dX2_add_50 : decode cX2_add 50 = .ok (.getfield 21, 3) := by decide +kernel
theorem dX2_add_53 : decode cX2_add 53 = .ok (.iconst 1, 1) := by decide +kernel
theorem dX2_add_54 : decode cX2_add 54 = .ok (.iadd, 1) := by decide +kernel
theorem dX2_add_55 : decode cX2_add 55 = .ok (.putfield 21, 3) := by decide +kernel
theorem dX2_add_58 : decode cX2_add 58 = .ok (.aload_n 0, 1) := by decide +kernel
theorem dX2_add_59 : decode cX2_add 59 = .ok (.getfield 21, 3) := by decide +kernel
theorem dX2_add_62 : decode cX2_add 62 = .ok (.ireturn, 1) := by decide +kernel
theorem dX2_agreeWith_0 : decode cX2_agreeWith 0 = .ok (.iconst 0, 1) := by decide +kernel
theorem dX2_agreeWith_1 : decode cX2_agreeWith 1 = .ok (.istore_n 2, 1) := by decide +kernel
theorem dX2_agreeWith_2 : decode cX2_agreeWith 2 = .ok (.iload_n 2, 1) := by decide +kernel
theorem dX2_agreeWith_3 : decode cX2_agreeWith 3 = .ok (.aload_n 0, 1) := by decide +kernel
theorem dX2_agreeWith_4 : decode cX2_agreeWith 4 = .ok (.getfield 21, 3) := by decide +kernel
theorem dX2_agreeWith_7 : decode cX2_agreeWith 7 = .ok (.if_icmp .ge 47, 3) := by decide +kernel
theorem dX2_agreeWith_10 : decode cX2_agreeWith 10 = .ok (.iload_n 2, 1) := by decide +kernel
theorem dX2_agreeWith_11 : decode cX2_agreeWith 11 = .ok (.bipush 20, 2) := by decide +kernel
theorem dX2_agreeWith_13 : decode cX2_agreeWith 13 = .ok (.if_icmp .ge 41, 3) := by decide +kernel
theorem dX2_agreeWith_16 : decode cX2_agreeWith 16 = .ok (.aload_n 1, 1) := by decide +kernel
theorem dX2_agreeWith_17 : decode cX2_agreeWith 17 = .ok (.aload_n 0, 1) := by decide +kernel
theorem dX2_agreeWith_18 : decode cX2_agreeWith 18 = .ok (.getfield 9, 3) := by decide +kernel
theorem dX2_agreeWith_21 : decode cX2_agreeWith 21 = .ok (.iload_n 2, 1) := by decide +kernel
theorem dX2_agreeWith_22 : decode cX2_agreeWith 22 = .ok (.iaload, 1) := by decide +kernel
theorem dX2_agreeWith_23 : decode cX2_agreeWith 23 = .ok (.iconst 0, 1) := by decide +kernel
theorem dX2_agreeWith_24 : decode cX2_agreeWith 24 = .ok (.invokevirtual 25, 3) := by decide +kernel
theorem dX2_agreeWith_27 : decode cX2_agreeWith 27 = .ok (.aload_n 0, 1) := by decide +kernel
theorem dX2_agreeWith_28 : decode cX2_agreeWith 28 = .ok (.getfield 15, 3) := by decide +kernel
theorem dX2_agreeWith_31 : decode cX2_agreeWith 31 = .ok (.iload_n 2, 1) := by decide +kernel
theorem dX2_agreeWith_32 : decode cX2_agreeWith 32 = .ok (.iaload, 1) := by decide +kernel
theorem dX2_agreeWith_33 : decode cX2_agreeWith 33 = .ok (.isub, 1) := by decide +kernel
theorem dX2_agreeWith_34 : decode cX2_agreeWith 34 = .ok (.invokestatic 31, 3) := by decide +kernel
theorem dX2_agreeWith_37 : decode cX2_agreeWith 37 = .ok (.aload_n 0, 1) := by decide +kernel
theorem dX2_agreeWith_38 : decode cX2_agreeWith 38 = .ok (.getfield 18, 3) := by decide +kernel
theorem dX2_agreeWith_41 : decode cX2_agreeWith 41 = .ok (.iload_n 2, 1) := by decide +kernel
theorem dX2_agreeWith_42 : decode cX2_agreeWith 42 = .ok (.iaload, 1) := by decide +kernel
theorem dX2_agreeWith_43 : decode cX2_agreeWith 43 = .ok (.if_icmp .le 5, 3) := by decide +kernel
theorem dX2_agreeWith_46 : decode cX2_agreeWith 46 = .ok (.iconst 0, 1) := by decide +kernel
theorem dX2_agreeWith_47 : decode cX2_agreeWith 47 = .ok (.ireturn, 1) := by decide +kernel
theorem dX2_agreeWith_48 : decode cX2_agreeWith 48 = .ok (.iinc 2 1, 3) := by decide +kernel
theorem dX2_agreeWith_51 : decode cX2_agreeWith 51 = .ok (.goto (-49), 3) := by decide +kernel
theorem dX2_agreeWith_54 : decode cX2_agreeWith 54 = .ok (.iconst 1, 1) := by decide +kernel
theorem dX2_agreeWith_55 : decode cX2_agreeWith 55 = .ok (.ireturn, 1) := by decide +kernel
