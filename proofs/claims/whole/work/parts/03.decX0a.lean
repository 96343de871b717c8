theorem dX0_init_0 : decode cX0_init 0 = .ok (.aload_n 0, 1) := by decide +kernel
theorem dX0_init_1 : decode cX0_init 1 = .ok (.invokespecial 3, 3) := by decide +kernel
theorem dX0_init_4 : decode cX0_init 4 = .ok (.aload_n 0, 1) := by decide +kernel
theorem dX0_init_5 : decode cX0_init 5 = .ok (.iconst 3, 1) := by decide +kernel
theorem dX0_init_6 : decode cX0_init 6 = .ok (.newarray .long, 2) := by decide +kernel
theorem dX0_init_8 : decode cX0_init 8 = .ok (.putfield 9, 3) := by decide +kernel
theorem dX0_init_11 : decode cX0_init 11 = .ok (.return_, 1) := by decide +kernel
theorem dX0_add_0 : decode cX0_add 0 = .ok (.iload_n 1, 1) := by decide +kernel
theorem dX0_add_1 : decode cX0_add 1 = .ok (.bipush 6, 2) := by decide +kernel
theorem dX0_add_3 : decode cX0_add 3 = .ok (.ishr, 1) := by decide +kernel
theorem dX0_add_4 : decode cX0_add 4 = .ok (.istore_n 2, 1) := by decide +kernel
theorem dX0_add_5 : decode cX0_add 5 = .ok (.iload_n 2, 1) := by decide +kernel
theorem dX0_add_6 : decode cX0_add 6 = .ok (.ifCond .lt 27, 3) := by decide +kernel
theorem dX0_add_9 : decode cX0_add 9 = .ok (.iload_n 2, 1) := by decide +kernel
theorem dX0_add_10 : decode cX0_add 10 = .ok (.aload_n 0, 1) := by decide +kernel
theorem dX0_add_11 : decode cX0_add 11 = .ok (.getfield 9, 3) := by decide +kernel
theorem dX0_add_14 : decode cX0_add 14 = .ok (.arraylength, 1) := by decide +kernel
theorem dX0_add_15 : decode cX0_add 15 = .ok (.if_icmp .ge 18, 3) := by decide +kernel
theorem dX0_add_18 : decode cX0_add 18 = .ok (.aload_n 0, 1) := by decide +kernel
theorem dX0_add_19 : decode cX0_add 19 = .ok (.getfield 9, 3) := by decide +kernel
theorem dX0_add_22 : decode cX0_add 22 = .ok (.iload_n 2, 1) := by decide +kernel
theorem dX0_add_23 : decode cX0_add 23 = .ok (.dup2, 1) := by decide +kernel
theorem dX0_add_24 : decode cX0_add 24 = .ok (.laload, 1) := by decide +kernel
theorem dX0_add_25 : decode cX0_add 25 = .ok (.lconst 1, 1) := by decide +kernel
theorem dX0_add_26 : decode cX0_add 26 = .ok (.iload_n 1, 1) := by decide +kernel
theorem dX0_add_27 : decode cX0_add 27 = .ok (.bipush 63, 2) := by decide +kernel
theorem dX0_add_29 : decode cX0_add 29 = .ok (.iand, 1) := by decide +kernel
theorem dX0_add_30 : decode cX0_add 30 = .ok (.lshl, 1) := by decide +kernel
theorem dX0_add_31 : decode cX0_add 31 = .ok (.lor, 1) := by decide +kernel
theorem dX0_add_32 : decode cX0_add 32 = .ok (.lastore, 1) := by decide +kernel
theorem dX0_add_33 : decode cX0_add 33 = .ok (.return_, 1) := by decide +kernel
theorem dX0_remove_0 : decode cX0_remove 0 = .ok (.iload_n 1, 1) := by decide +kernel
theorem dX0_remove_1 : decode cX0_remove 1 = .ok (.bipush 6, 2) := by decide +kernel
theorem dX0_remove_3 : decode cX0_remove 3 = .ok (.ishr, 1) := by decide +kernel
theorem dX0_remove_4 : decode cX0_remove 4 = .ok (.istore_n 2, 1) := by decide +kernel
theorem dX0_remove_5 : decode cX0_remove 5 = .ok (.iload_n 2, 1) := by decide +kernel
theorem dX0_remove_6 : decode cX0_remove 6 = .ok (.ifCond .lt 31, 3) := by decide +kernel
theorem dX0_remove_9 : decode cX0_remove 9 = .ok (.iload_n 2, 1) := by decide +kernel
theorem dX0_remove_10 : decode cX0_remove 10 = .ok (.aload_n 0, 1) := by decide +kernel
theorem dX0_remove_11 : decode cX0_remove 11 = .ok (.getfield 9, 3) := by decide +kernel
theorem dX0_remove_14 : decode cX0_remove 14 = .ok (.arraylength, 1) := by decide +kernel
theorem dX0_remove_15 : decode cX0_remove 15 = .ok (.if_icmp .ge 22, 3) := by decide +kernel
theorem dX0_remove_18 : decode cX0_remove 18 = .ok (.aload_n 0, 1) := by decide +kernel
theorem dX0_remove_19 : decode cX0_remove 19 = .ok (.getfield 9, 3) := by decide +kernel
theorem dX0_remove_22 : decode cX0_remove 22 = .ok (.iload_n 2, 1) := by decide +kernel
theorem dX0_remove_23 : decode cX0_remove 23 = .ok (.dup2, 1) := by decide +kernel
theorem dX0_remove_24 : decode cX0_remove 24 = .ok (.laload, 1) := by decide +kernel
theorem dX0_remove_25 : decode cX0_remove 25 = .ok (.lconst 1, 1) := by decide +kernel
theorem dX0_remove_26 : decode cX0_remove 26 = .ok (.iload_n 1, 1) := by decide +kernel
theorem dX0_remove_27 : decode cX0_remove 27 = .ok (.bipush 63, 2) := by decide +kernel
theorem dX0_remove_29 : decode cX0_remove 29 = .ok (.iand, 1) := by decide +kernel
theorem dX0_remove_30 : decode cX0_remove 30 = .ok (.lshl, 1) := by decide +kernel
theorem dX0_remove_31 : decode cX0_remove 31 = .ok (.ldc2_w 15, 3) := by decide +kernel
theorem dX0_remove_34 : decode cX0_remove 34 = .ok (.lxor, 1) := by decide +kernel
theorem dX0_remove_35 : decode cX0_remove 35 = .ok (.land, 1) := by decide +kernel
theorem dX0_remove_36 : decode cX0_remove 36 = .ok (.lastore, 1) := by decide +kernel
theorem dX0_remove_37 : decode cX0_remove 37 = .ok (.return_, 1) := by decide +kernel
theorem dX0_lowest_0 : decode cX0_lowest 0 = .ok (.iconst 0, 1) := by decide +kernel
theorem dX0_lowest_1 : decode cX0_lowest 1 = .ok (.istore_n 1, 1) := by decide +kernel
theorem dX0_lowest_2 : decode cX0_lowest 2 = .ok (.iload_n 1, 1) := by decide +kernel
theorem dX0_lowest_3 : decode cX0_lowest 3 = .ok (.aload_n 0, 1) := by decide +kernel
theorem dX0_lowest_4 : decode cX0_lowest 4 = .ok (.getfield 9, 3) := by decide +kernel
theorem dX0_lowest_7 : decode cX0_lowest 7 = .ok (.arraylength, 1) := by decide +kernel
theorem dX0_lowest_8 : decode cX0_lowest 8 = .ok (.if_icmp .ge 37, 3) := by decide +kernel
theorem dX0_lowest_11 : decode cX0_lowest 11 = .ok (.aload_n 0, 1) := by decide +kernel
theorem dX0_lowest_12 : decode cX0_lowest 12 = .ok (.getfield 9, 3) := by decide +kernel
theorem dX0_lowest_15 : decode cX0_lowest 15 = .ok (.iload_n 1, 1) := by decide +kernel
theorem dX0_lowest_16 : decode cX0_lowest 16 = .ok (.laload, 1) := by decide +kernel
theorem dX0_lowest_17 : decode cX0_lowest 17 = .ok (.lstore_n 2, 1) := by decide +kernel
theorem dX0_lowest_18 : decode cX0_lowest 18 = .ok (.lload_n 2, 1) := by decide +kernel
theorem dX0_lowest_19 : decode cX0_lowest 19 = .ok (.lconst 0, 1) := by decide +kernel
theorem dX0_lowest_20 : decode cX0_lowest 20 = .ok (.lcmp, 1) := by decide +kernel
theorem dX0_lowest_21 : decode cX0_lowest 21 = .ok (.ifCond .eq 18, 3) := by decide +kernel
theorem dX0_lowest_24 : decode cX0_lowest 24 = .ok (.iload_n 1, 1) := by decide +kernel
theorem dX0_lowest_25 : decode cX0_lowest 25 = .ok (.bipush 64, 2) := by decide +kernel
theorem dX0_lowest_27 : decode cX0_lowest 27 = .ok (.imul, 1) := by decide +kernel
theorem dX0_lowest_28 : decode cX0_lowest 28 = .ok (.lload_n 2, 1) := by decide +kernel
theorem dX0_lowest_29 : decode cX0_lowest 29 = .ok (.lload_n 2, 1) := by decide +kernel
theorem dX0_lowest_30 : decode cX0_lowest 30 = .ok (.lneg, 1) := by decide +kernel
theorem dX0_lowest_31 : decode cX0_lowest 31 = .ok (.land, 1) := by decide +kernel
theorem dX0_lowest_32 : decode cX0_lowest 32 = .ok (.lconst 1, 1) := by decide +kernel
theorem dX0_lowest_33 : decode cX0_lowest 33 = .ok (.lsub, 1) := by decide +kernel
theorem dX0_lowest_34 : decode cX0_lowest 34 = .ok (.invokestatic 17, 3) := by decide +kernel
theorem dX0_lowest_37 : decode cX0_lowest 37 = .ok (.iadd, 1) := by decide +kernel
theorem dX0_lowest_38 : decode cX0_lowest 38 = .ok (.ireturn, 1) := by decide +kernel
theorem dX0_lowest_39 : decode cX0_lowest 39 = .ok (.iinc 1 1, 3) := by decide +kernel
theorem dX0_lowest_42 : decode cX0_lowest 42 = .ok (.goto (-40), 3) := by decide +kernel
theorem dX0_lowest_45 : decode cX0_lowest 45 = .ok (.iconst (-1), 1) := by decide +kernel
theorem dX0_lowest_46 : decode cX0_lowest 46 = .ok (.ireturn, 1) := by decide +kernel
