theorem dX7_init_0 : decode cX7_init 0 = .ok (.aload_n 0, 1) := by decide +kernel
theorem dX7_init_1 : decode cX7_init 1 = .ok (.invokespecial 1, 3) := by decide +kernel
theorem dX7_init_4 : decode cX7_init 4 = .ok (.aload_n 0, 1) := by decide +kernel
theorem dX7_init_5 : decode cX7_init 5 = .ok (.new 7, 3) := by decide +kernel
theorem dX7_init_8 : decode cX7_init 8 = .ok (.dup, 1) := by decide +kernel
theorem dX7_init_9 : decode cX7_init 9 = .ok (.iload_n 1, 1) := by decide +kernel
theorem dX7_init_10 : decode cX7_init 10 = .ok (.iconst 4, 1) := by decide +kernel
theorem dX7_init_11 : decode cX7_init 11 = .ok (.bipush 16, 2) := by decide +kernel
theorem dX7_init_13 : decode cX7_init 13 = .ok (.invokestatic 9, 3) := by decide +kernel
theorem dX7_init_16 : decode cX7_init 16 = .ok (.iload_n 2, 1) := by decide +kernel
theorem dX7_init_17 : decode cX7_init 17 = .ok (.iconst 2, 1) := by decide +kernel
theorem dX7_init_18 : decode cX7_init 18 = .ok (.bipush 10, 2) := by decide +kernel
theorem dX7_init_20 : decode cX7_init 20 = .ok (.invokestatic 9, 3) := by decide +kernel
theorem dX7_init_23 : decode cX7_init 23 = .ok (.invokespecial 15, 3) := by decide +kernel
theorem dX7_init_26 : decode cX7_init 26 = .ok (.putfield 18, 3) := by decide +kernel
theorem dX7_init_29 : decode cX7_init 29 = .ok (.aload_n 0, 1) := by decide +kernel
theorem dX7_init_30 : decode cX7_init 30 = .ok (.new 22, 3) := by decide +kernel
theorem dX7_init_33 : decode cX7_init 33 = .ok (.dup, 1) := by decide +kernel
theorem dX7_init_34 : decode cX7_init 34 = .ok (.aload_n 0, 1) := by decide +kernel
theorem dX7_init_35 : decode cX7_init 35 = .ok (.getfield 18, 3) := by decide +kernel
theorem dX7_init_38 : decode cX7_init 38 = .ok (.invokespecial 24, 3) := by decide +kernel
theorem dX7_init_41 : decode cX7_init 41 = .ok (.putfield 27, 3) := by decide +kernel
theorem dX7_init_44 : decode cX7_init 44 = .ok (.aload_n 0, 1) := by decide +kernel
theorem dX7_init_45 : decode cX7_init 45 = .ok (.new 22, 3) := by decide +kernel
theorem dX7_init_48 : decode cX7_init 48 = .ok (.dup, 1) := by decide +kernel
theorem dX7_init_49 : decode cX7_init 49 = .ok (.aload_n 0, 1) := by decide +kernel
theorem dX7_init_50 : decode cX7_init 50 = .ok (.getfield 18, 3) := by decide +kernel
theorem dX7_init_53 : decode cX7_init 53 = .ok (.invokespecial 24, 3) := by decide +kernel
theorem dX7_init_56 : decode cX7_init 56 = .ok (.putfield 31, 3) := by decide +kernel
theorem dX7_init_59 : decode cX7_init 59 = .ok (.aload_n 0, 1) := by decide +kernel
theorem dX7_init_60 : decode cX7_init 60 = .ok (.new 22, 3) := by decide +kernel
theorem dX7_init_63 : decode cX7_init 63 = .ok (.dup, 1) := by decide +kernel
theorem dX7_init_64 : decode cX7_init 64 = .ok (.aload_n 0, 1) := by decide +kernel
theorem dX7_init_65 : decode cX7_init 65 = .ok (.getfield 18, 3) := by decide +kernel
theorem dX7_init_68 : decode cX7_init 68 = .ok (.invokespecial 24, 3) := by decide +kernel
theorem dX7_init_71 : decode cX7_init 71 = .ok (.putfield 34, 3) := by decide +kernel
theorem dX7_init_74 : decode cX7_init 74 = .ok (.aload_n 0, 1) := by decide +kernel
theorem dX7_init_75 : decode cX7_init 75 = .ok (.new 37, 3) := by decide +kernel
theorem dX7_init_78 : decode cX7_init 78 = .ok (.dup, 1) := by decide +kernel
theorem dX7_init_79 : decode cX7_init 79 = .ok (.invokespecial 39, 3) := by decide +kernel
theorem dX7_init_82 : decode cX7_init 82 = .ok (.putfield 40, 3) := by decide +kernel
theorem dX7_init_85 : decode cX7_init 85 = .ok (.aload_n 0, 1) := by decide +kernel
theorem dX7_init_86 : decode cX7_init 86 = .ok (.new 44, 3) := by decide +kernel
theorem dX7_init_89 : decode cX7_init 89 = .ok (.dup, 1) := by decide +kernel
theorem dX7_init_90 : decode cX7_init 90 = .ok (.invokespecial 46, 3) := by decide +kernel
theorem dX7_init_93 : decode cX7_init 93 = .ok (.putfield 47, 3) := by decide +kernel
theorem dX7_init_96 : decode cX7_init 96 = .ok (.aload_n 0, 1) := by decide +kernel
theorem dX7_init_97 : decode cX7_init 97 = .ok (.new 51, 3) := by decide +kernel
theorem dX7_init_100 : decode cX7_init 100 = .ok (.dup, 1) := by decide +kernel
theorem dX7_init_101 : decode cX7_init 101 = .ok (.invokespecial 53, 3) := by decide +kernel
theorem dX7_init_104 : decode cX7_init 104 = .ok (.putfield 54, 3) := by decide +kernel
theorem dX7_init_107 : decode cX7_init 107 = .ok (.aload_n 0, 1) := by decide +kernel
theorem dX7_init_108 : decode cX7_init 108 = .ok (.iconst 0, 1) := by decide +kernel
theorem dX7_init_109 : decode cX7_init 109 = .ok (.putfield 58, 3) := by decide +kernel
theorem dX7_init_112 : decode cX7_init 112 = .ok (.return_, 1) := by decide +kernel
theorem dX7_heap_0 : decode cX7_heap 0 = .ok (.aload_n 0, 1) := by decide +kernel
theorem dX7_heap_1 : decode cX7_heap 1 = .ok (.getfield 18, 3) := by decide +kernel
theorem dX7_heap_4 : decode cX7_heap 4 = .ok (.iload_n 1, 1) := by decide +kernel
theorem dX7_heap_5 : decode cX7_heap 5 = .ok (.invokevirtual 62, 3) := by decide +kernel
theorem dX7_heap_8 : decode cX7_heap 8 = .ok (.ifCond .eq 14, 3) := by decide +kernel
theorem dX7_heap_11 : decode cX7_heap 11 = .ok (.iload_n 2, 1) := by decide +kernel
theorem dX7_heap_12 : decode cX7_heap 12 = .ok (.iconst 0, 1) := by decide +kernel
theorem dX7_heap_13 : decode cX7_heap 13 = .ok (.sipush 999, 3) := by decide +kernel
theorem dX7_heap_16 : decode cX7_heap 16 = .ok (.invokestatic 66, 3) := by decide +kernel
theorem dX7_heap_19 : decode cX7_heap 19 = .ok (.ifCond .ne 5, 3) := by decide +kernel
theorem dX7_heap_22 : decode cX7_heap 22 = .ok (.iconst 0, 1) := by decide +kernel
theorem dX7_heap_23 : decode cX7_heap 23 = .ok (.ireturn, 1) := by decide +kernel
theorem dX7_heap_24 : decode cX7_heap 24 = .ok (.aload_n 0, 1) := by decide +kernel
theorem dX7_heap_25 : decode cX7_heap 25 = .ok (.getfield 27, 3) := by decide +kernel
theorem dX7_heap_28 : decode cX7_heap 28 = .ok (.iload_n 1, 1) := by decide +kernel
theorem dX7_heap_29 : decode cX7_heap 29 = .ok (.iload_n 2, 1) := by decide +kernel
theorem dX7_heap_30 : decode cX7_heap 30 = .ok (.invokevirtual 70, 3) := by decide +kernel
theorem dX7_heap_33 : decode cX7_heap 33 = .ok (.iconst 1, 1) := by decide +kernel
theorem dX7_heap_34 : decode cX7_heap 34 = .ok (.ireturn, 1) := by decide +kernel
theorem dX7_lay_0 : decode cX7_lay 0 = .ok (.aload_n 0, 1) := by decide +kernel
theorem dX7_lay_1 : decode cX7_lay 1 = .ok (.getfield 18, 3) := by decide +kernel
theorem dX7_lay_4 : decode cX7_lay 4 = .ok (.iload_n 1, 1) := by decide +kernel
theorem dX7_lay_5 : decode cX7_lay 5 = .ok (.invokevirtual 62, 3) := by decide +kernel
theorem dX7_lay_8 : decode cX7_lay 8 = .ok (.ifCond .eq 30, 3) := by decide +kernel
theorem dX7_lay_11 : decode cX7_lay 11 = .ok (.iload_n 2, 1) := by decide +kernel
theorem dX7_lay_12 : decode cX7_lay 12 = .ok (.iconst 0, 1) := by decide +kernel
theorem dX7_lay_13 : decode cX7_lay 13 = .ok (.getstatic 73, 3) := by decide +kernel
theorem dX7_lay_16 : decode cX7_lay 16 = .ok (.arraylength, 1) := by decide +kernel
theorem dX7_lay_17 : decode cX7_lay 17 = .ok (.iconst 1, 1) := by decide +kernel
theorem dX7_lay_18 : decode cX7_lay 18 = .ok (.isub, 1) := by decide +kernel
theorem dX7_lay_19 : decode cX7_lay 19 = .ok (.invokestatic 66, 3) := by decide +kernel
theorem dX7_lay_22 : decode cX7_lay 22 = .ok (.ifCond .eq 16, 3) := by decide +kernel
theorem dX7_lay_25 : decode cX7_lay 25 = .ok (.iload_n 3, 1) := by decide +kernel
theorem dX7_lay_26 : decode cX7_lay 26 = .ok (.iconst 0, 1) := by decide +kernel
theorem dX7_lay_27 : decode cX7_lay 27 = .ok (.getstatic 73, 3) := by decide +kernel
theorem dX7_lay_30 : decode cX7_lay 30 = .ok (.iload_n 2, 1) := by decide +kernel
theorem dX7_lay_31 : decode cX7_lay 31 = .ok (.iaload, 1) := by decide +kernel
theorem dX7_lay_32 : decode cX7_lay 32 = .ok (.invokestatic 66, 3) := by decide +kernel
theorem dX7_lay_35 : decode cX7_lay 35 = .ok (.ifCond .ne 5, 3) := by decide +kernel
theorem dX7_lay_38 : decode cX7_lay 38 = .ok (.iconst 0, 1) := by decide +kernel
theorem dX7_lay_39 : decode cX7_lay 39 = .ok (.ireturn, 1) := by decide +kernel
theorem dX7_lay_40 : decode cX7_lay 40 = .ok (.aload_n 0, 1) := by decide +kernel
theorem dX7_lay_41 : decode cX7_lay 41 = .ok (.getfield 27, 3) := by decide +kernel
theorem dX7_lay_44 : decode cX7_lay 44 = .ok (.iload_n 1, 1) := by decide +kernel
theorem dX7_lay_45 : decode cX7_lay 45 = .ok (.iload_n 2, 1) := by decide +kernel
theorem dX7_lay_46 : decode cX7_lay 46 = .ok (.iload_n 3, 1) := by decide +kernel
theorem dX7_lay_47 : decode cX7_lay 47 = .ok (.invokevirtual 77, 3) := by decide +kernel
theorem dX7_lay_50 : decode cX7_lay 50 = .ok (.iconst 1, 1) := by decide +kernel
theorem dX7_lay_51 : decode cX7_lay 51 = .ok (.ireturn, 1) := by decide +kernel
theorem dX7_rules_0 : decode cX7_rules 0 = .ok (.iload_n 1, 1) := by decide +kernel
theorem dX7_rules_1 : decode cX7_rules 1 = .ok (.iconst 1, 1) := by decide +kernel
theorem dX7_rules_2 : decode cX7_rules 2 = .ok (.iconst 5, 1) := by decide +kernel
theorem dX7_rules_3 : decode cX7_rules 3 = .ok (.invokestatic 66, 3) := by decide +kernel
theorem dX7_rules_6 : decode cX7_rules 6 = .ok (.ifCond .eq 45, 3) := by decide +kernel
theorem dX7_rules_9 : decode cX7_rules 9 = .ok (.iload_n 2, 1) := by decide +kernel
theorem dX7_rules_10 : decode cX7_rules 10 = .ok (.iconst 0, 1) := by decide +kernel
theorem dX7_rules_11 : decode cX7_rules 11 = .ok (.bipush 100, 2) := by decide +kernel
theorem dX7_rules_13 : decode cX7_rules 13 = .ok (.invokestatic 66, 3) := by decide +kernel
theorem dX7_rules_16 : decode cX7_rules 16 = .ok (.ifCond .eq 35, 3) := by decide +kernel
theorem dX7_rules_19 : decode cX7_rules 19 = .ok (.iload_n 3, 1) := by decide +kernel
theorem dX7_rules_20 : decode cX7_rules 20 = .ok (.iconst 0, 1) := by decide +kernel
theorem dX7_rules_21 : decode cX7_rules 21 = .ok (.bipush 100, 2) := by decide +kernel
theorem dX7_rules_23 : decode cX7_rules 23 = .ok (.invokestatic 66, 3) := by decide +kernel
theorem dX7_rules_26 : decode cX7_rules 26 = .ok (.ifCond .eq 25, 3) := by decide +kernel
theorem dX7_rules_29 : decode cX7_rules 29 = .ok (.iload 4, 2) := by decide +kernel
theorem dX7_rules_31 : decode cX7_rules 31 = .ok (.iconst 1, 1) := by decide +kernel
theorem dX7_rules_32 : decode cX7_rules 32 = .ok (.bipush 9, 2) := by decide +kernel
theorem dX7_rules_34 : decode cX7_rules 34 = .ok (.invokestatic 66, 3) := by decide +kernel
theorem dX7_rules_37 : decode cX7_rules 37 = .ok (.ifCond .eq 14, 3) := by decide +kernel
theorem dX7_rules_40 : decode cX7_rules 40 = .ok (.iload 5, 2) := by decide +kernel
theorem dX7_rules_42 : decode cX7_rules 42 = .ok (.iconst 0, 1) := by decide +kernel
theorem dX7_rules_43 : decode cX7_rules 43 = .ok (.bipush 20, 2) := by decide +kernel
theorem dX7_rules_45 : decode cX7_rules 45 = .ok (.invokestatic 66, 3) := by decide +kernel
theorem dX7_rules_48 : decode cX7_rules 48 = .ok (.ifCond .ne 5, 3) := by decide +kernel
theorem dX7_rules_51 : decode cX7_rules 51 = .ok (.iconst 0, 1) := by decide +kernel
theorem dX7_rules_52 : decode cX7_rules 52 = .ok (.ireturn, 1) := by decide +kernel
theorem dX7_rules_53 : decode cX7_rules 53 = .ok (.aload_n 0, 1) := by decide +kernel
theorem dX7_rules_54 : decode cX7_rules 54 = .ok (.getfield 27, 3) := by decide +kernel
theorem dX7_rules_57 : decode cX7_rules 57 = .ok (.getfield 81, 3) := by decide +kernel
theorem dX7_rules_60 : decode cX7_rules 60 = .ok (.iconst 0, 1) := by decide +kernel
theorem dX7_rules_61 : decode cX7_rules 61 = .ok (.iload_n 1, 1) := by decide +kernel
theorem dX7_rules_62 : decode cX7_rules 62 = .ok (.iastore, 1) := by decide +kernel
theorem dX7_rules_63 : decode cX7_rules 63 = .ok (.aload_n 0, 1) := by decide +kernel
theorem dX7_rules_64 : decode cX7_rules 64 = .ok (.getfield 27, 3) := by decide +kernel
theorem dX7_rules_67 : decode cX7_rules 67 = .ok (.getfield 81, 3) := by decide +kernel
theorem dX7_rules_70 : decode cX7_rules 70 = .ok (.iconst 1, 1) := by decide +kernel
theorem dX7_rules_71 : decode cX7_rules 71 = .ok (.iload_n 2, 1) := by decide +kernel
theorem dX7_rules_72 : decode cX7_rules 72 = .ok (.iastore, 1) := by decide +kernel
theorem dX7_rules_73 : decode cX7_rules 73 = .ok (.aload_n 0, 1) := by decide +kernel
theorem dX7_rules_74 : decode cX7_rules 74 = .ok (.getfield 27, 3) := by decide +kernel
theorem dX7_rules_77 : decode cX7_rules 77 = .ok (.getfield 81, 3) := by decide +kernel
theorem dX7_rules_80 : decode cX7_rules 80 = .ok (.iconst 2, 1) := by decide +kernel
theorem dX7_rules_81 : decode cX7_rules 81 = .ok (.iload_n 3, 1) := by decide +kernel
theorem dX7_rules_82 : decode cX7_rules 82 = .ok (.iastore, 1) := by decide +kernel
theorem dX7_rules_83 : decode cX7_rules 83 = .ok (.aload_n 0, 1) := by decide +kernel
theorem dX7_rules_84 : decode cX7_rules 84 = .ok (.getfield 27, 3) := by decide +kernel
theorem dX7_rules_87 : decode cX7_rules 87 = .ok (.getfield 81, 3) := by decide +kernel
theorem dX7_rules_90 : decode cX7_rules 90 = .ok (.iconst 3, 1) := by decide +kernel
theorem dX7_rules_91 : decode cX7_rules 91 = .ok (.iload 4, 2) := by decide +kernel
theorem dX7_rules_93 : decode cX7_rules 93 = .ok (.iastore, 1) := by decide +kernel
theorem dX7_rules_94 : decode cX7_rules 94 = .ok (.aload_n 0, 1) := by decide +kernel
theorem dX7_rules_95 : decode cX7_rules 95 = .ok (.getfield 27, 3) := by decide +kernel
theorem dX7_rules_98 : decode cX7_rules 98 = .ok (.getfield 81, 3) := by decide +kernel
theorem dX7_rules_101 : decode cX7_rules 101 = .ok (.iconst 4, 1) := by decide +kernel
theorem dX7_rules_102 : decode cX7_rules 102 = .ok (.iload 5, 2) := by decide +kernel
theorem dX7_rules_104 : decode cX7_rules 104 = .ok (.iastore, 1) := by decide +kernel
theorem dX7_rules_105 : decode cX7_rules 105 = .ok (.aload_n 0, 1) := by decide +kernel
theorem dX7_rules_106 : decode cX7_rules 106 = .ok (.getfield 27, 3) := by decide +kernel
theorem dX7_rules_109 : decode cX7_rules 109 = .ok (.invokevirtual 84, 3) := by decide +kernel
theorem dX7_rules_112 : decode cX7_rules 112 = .ok (.iconst 1, 1) := by decide +kernel
theorem dX7_rules_113 : decode cX7_rules 113 = .ok (.ireturn, 1) := by decide +kernel
theorem dX7_seed_0 : decode cX7_seed 0 = .ok (.aload_n 0, 1) := by decide +kernel
theorem dX7_seed_1 : decode cX7_seed 1 = .ok (.getfield 27, 3) := by decide +kernel
theorem dX7_seed_4 : decode cX7_seed 4 = .ok (.iload_n 1, 1) := by decide +kernel
theorem dX7_seed_5 : decode cX7_seed 5 = .ok (.putfield 87, 3) := by decide +kernel
theorem dX7_seed_8 : decode cX7_seed 8 = .ok (.return_, 1) := by decide +kernel
theorem dX7_feed_0 : decode cX7_feed 0 = .ok (.aload_n 0, 1) := by decide +kernel
theorem dX7_feed_1 : decode cX7_feed 1 = .ok (.getfield 40, 3) := by decide +kernel
theorem dX7_feed_4 : decode cX7_feed 4 = .ok (.getfield 90, 3) := by decide +kernel
theorem dX7_feed_7 : decode cX7_feed 7 = .ok (.bipush 20, 2) := by decide +kernel
theorem dX7_feed_9 : decode cX7_feed 9 = .ok (.iadd, 1) := by decide +kernel
theorem dX7_feed_10 : decode cX7_feed 10 = .ok (.sipush 200, 3) := by decide +kernel
theorem dX7_feed_13 : decode cX7_feed 13 = .ok (.if_icmp .le 5, 3) := by decide +kernel
theorem dX7_feed_16 : decode cX7_feed 16 = .ok (.iconst (-1), 1) := by decide +kernel
theorem dX7_feed_17 : decode cX7_feed 17 = .ok (.ireturn, 1) := by decide +kernel
theorem dX7_feed_18 : decode cX7_feed 18 = .ok (.aload_n 0, 1) := by decide +kernel
theorem dX7_feed_19 : decode cX7_feed 19 = .ok (.getfield 40, 3) := by decide +kernel
theorem dX7_feed_22 : decode cX7_feed 22 = .ok (.iload_n 1, 1) := by decide +kernel
theorem dX7_feed_23 : decode cX7_feed 23 = .ok (.invokevirtual 93, 3) := by decide +kernel
theorem dX7_feed_26 : decode cX7_feed 26 = .ok (.aload_n 0, 1) := by decide +kernel
theorem dX7_feed_27 : decode cX7_feed 27 = .ok (.getfield 40, 3) := by decide +kernel
theorem dX7_feed_30 : decode cX7_feed 30 = .ok (.iload_n 2, 1) := by decide +kernel
theorem dX7_feed_31 : decode cX7_feed 31 = .ok (.invokevirtual 93, 3) := by decide +kernel
theorem dX7_feed_34 : decode cX7_feed 34 = .ok (.aload_n 0, 1) := by decide +kernel
theorem dX7_feed_35 : decode cX7_feed 35 = .ok (.getfield 40, 3) := by decide +kernel
theorem dX7_feed_38 : decode cX7_feed 38 = .ok (.iload_n 3, 1) := by decide +kernel
theorem dX7_feed_39 : decode cX7_feed 39 = .ok (.invokevirtual 93, 3) := by decide +kernel
theorem dX7_feed_42 : decode cX7_feed 42 = .ok (.aload_n 0, 1) := by decide +kernel
theorem dX7_feed_43 : decode cX7_feed 43 = .ok (.getfield 40, 3) := by decide +kernel
theorem dX7_feed_46 : decode cX7_feed 46 = .ok (.iload 4, 2) := by decide +kernel
theorem dX7_feed_48 : decode cX7_feed 48 = .ok (.invokevirtual 93, 3) := by decide +kernel
theorem dX7_feed_51 : decode cX7_feed 51 = .ok (.aload_n 0, 1) := by decide +kernel
theorem dX7_feed_52 : decode cX7_feed 52 = .ok (.getfield 40, 3) := by decide +kernel
theorem dX7_feed_55 : decode cX7_feed 55 = .ok (.iload 5, 2) := by decide +kernel
theorem dX7_feed_57 : decode cX7_feed 57 = .ok (.invokevirtual 93, 3) := by decide +kernel
theorem dX7_feed_60 : decode cX7_feed 60 = .ok (.aload_n 0, 1) := by decide +kernel
theorem dX7_feed_61 : decode cX7_feed 61 = .ok (.getfield 40, 3) := by decide +kernel
theorem dX7_feed_64 : decode cX7_feed 64 = .ok (.getfield 90, 3) := by decide +kernel
theorem dX7_feed_67 : decode cX7_feed 67 = .ok (.ireturn, 1) := by decide +kernel
theorem dX7_end_0 : decode cX7_end 0 = .ok (.iload_n 1, 1) := by decide +kernel
theorem dX7_end_1 : decode cX7_end 1 = .ok (.iconst 0, 1) := by decide +kernel
theorem dX7_end_2 : decode cX7_end 2 = .ok (.aload_n 0, 1) := by decide +kernel
theorem dX7_end_3 : decode cX7_end 3 = .ok (.getfield 40, 3) := by decide +kernel
theorem dX7_end_6 : decode cX7_end 6 = .ok (.getfield 90, 3) := by decide +kernel
theorem dX7_end_9 : decode cX7_end 9 = .ok (.invokestatic 66, 3) := by decide +kernel
theorem dX7_end_12 : decode cX7_end 12 = .ok (.ifCond .ne 5, 3) := by decide +kernel
theorem dX7_end_15 : decode cX7_end 15 = .ok (.iconst (-1), 1) := by decide +kernel
theorem dX7_end_16 : decode cX7_end 16 = .ok (.ireturn, 1) := by decide +kernel
theorem dX7_end_17 : decode cX7_end 17 = .ok (.aload_n 0, 1) := by decide +kernel
theorem dX7_end_18 : decode cX7_end 18 = .ok (.getfield 40, 3) := by decide +kernel
theorem dX7_end_21 : decode cX7_end 21 = .ok (.iload_n 1, 1) := by decide +kernel
theorem dX7_end_22 : decode cX7_end 22 = .ok (.putfield 90, 3) := by decide +kernel
theorem dX7_end_25 : decode cX7_end 25 = .ok (.iload_n 1, 1) := by decide +kernel
theorem dX7_end_26 : decode cX7_end 26 = .ok (.ireturn, 1) := by decide +kernel
theorem dX7_winds_0 : decode cX7_winds 0 = .ok (.aload_n 0, 1) := by decide +kernel
theorem dX7_winds_1 : decode cX7_winds 1 = .ok (.getfield 40, 3) := by decide +kernel
theorem dX7_winds_4 : decode cX7_winds 4 = .ok (.invokevirtual 97, 3) := by decide +kernel
theorem dX7_winds_7 : decode cX7_winds 7 = .ok (.istore_n 1, 1) := by decide +kernel
theorem dX7_winds_8 : decode cX7_winds 8 = .ok (.aload_n 0, 1) := by decide +kernel
theorem dX7_winds_9 : decode cX7_winds 9 = .ok (.getfield 40, 3) := by decide +kernel
theorem dX7_winds_12 : decode cX7_winds 12 = .ok (.iconst 0, 1) := by decide +kernel
theorem dX7_winds_13 : decode cX7_winds 13 = .ok (.putfield 90, 3) := by decide +kernel
theorem dX7_winds_16 : decode cX7_winds 16 = .ok (.iload_n 1, 1) := by decide +kernel
theorem dX7_winds_17 : decode cX7_winds 17 = .ok (.ifCond .ne 5, 3) := by decide +kernel
theorem dX7_winds_20 : decode cX7_winds 20 = .ok (.iconst (-1), 1) := by decide +kernel
theorem dX7_winds_21 : decode cX7_winds 21 = .ok (.ireturn, 1) := by decide +kernel
theorem dX7_winds_22 : decode cX7_winds 22 = .ok (.aload_n 0, 1) := by decide +kernel
theorem dX7_winds_23 : decode cX7_winds 23 = .ok (.getfield 27, 3) := by decide +kernel
theorem dX7_winds_26 : decode cX7_winds 26 = .ok (.getfield 101, 3) := by decide +kernel
theorem dX7_winds_29 : decode cX7_winds 29 = .ok (.aload_n 0, 1) := by decide +kernel
theorem dX7_winds_30 : decode cX7_winds 30 = .ok (.getfield 40, 3) := by decide +kernel
theorem dX7_winds_33 : decode cX7_winds 33 = .ok (.getfield 105, 3) := by decide +kernel
theorem dX7_winds_36 : decode cX7_winds 36 = .ok (.invokevirtual 108, 3) := by decide +kernel
theorem dX7_winds_39 : decode cX7_winds 39 = .ok (.aload_n 0, 1) := by decide +kernel
theorem dX7_winds_40 : decode cX7_winds 40 = .ok (.getfield 27, 3) := by decide +kernel
theorem dX7_winds_43 : decode cX7_winds 43 = .ok (.getfield 101, 3) := by decide +kernel
theorem dX7_winds_46 : decode cX7_winds 46 = .ok (.getfield 114, 3) := by decide +kernel
theorem dX7_winds_49 : decode cX7_winds 49 = .ok (.ireturn, 1) := by decide +kernel
theorem dX7_fault_0 : decode cX7_fault 0 = .ok (.iload_n 1, 1) := by decide +kernel
theorem dX7_fault_1 : decode cX7_fault 1 = .ok (.lookupswitch 43 #[(0, 27), (1, 35)], 27) := by decide +kernel
theorem dX7_fault_28 : decode cX7_fault 28 = .ok (.aload_n 0, 1) := by decide +kernel
theorem dX7_fault_29 : decode cX7_fault 29 = .ok (.getfield 40, 3) := by decide +kernel
theorem dX7_fault_32 : decode cX7_fault 32 = .ok (.getfield 117, 3) := by decide +kernel
theorem dX7_fault_35 : decode cX7_fault 35 = .ok (.ireturn, 1) := by decide +kernel
theorem dX7_fault_36 : decode cX7_fault 36 = .ok (.aload_n 0, 1) := by decide +kernel
theorem dX7_fault_37 : decode cX7_fault 37 = .ok (.getfield 40, 3) := by decide +kernel
theorem dX7_fault_40 : decode cX7_fault 40 = .ok (.getfield 120, 3) := by decide +kernel
theorem dX7_fault_43 : decode cX7_fault 43 = .ok (.ireturn, 1) := by decide +kernel
theorem dX7_fault_44 : decode cX7_fault 44 = .ok (.iconst (-1), 1) := by decide +kernel
theorem dX7_fault_45 : decode cX7_fault 45 = .ok (.ireturn, 1) := by decide +kernel
theorem dX7_days_0 : decode cX7_days 0 = .ok (.aload_n 0, 1) := by decide +kernel
theorem dX7_days_1 : decode cX7_days 1 = .ok (.getfield 27, 3) := by decide +kernel
theorem dX7_days_4 : decode cX7_days 4 = .ok (.iload_n 1, 1) := by decide +kernel
theorem dX7_days_5 : decode cX7_days 5 = .ok (.invokevirtual 123, 3) := by decide +kernel
theorem dX7_days_8 : decode cX7_days 8 = .ok (.ifCond .ne 5, 3) := by decide +kernel
theorem dX7_days_11 : decode cX7_days 11 = .ok (.iconst (-1), 1) := by decide +kernel
theorem dX7_days_12 : decode cX7_days 12 = .ok (.ireturn, 1) := by decide +kernel
theorem dX7_days_13 : decode cX7_days 13 = .ok (.aload_n 0, 1) := by decide +kernel
theorem dX7_days_14 : decode cX7_days 14 = .ok (.getfield 27, 3) := by decide +kernel
theorem dX7_days_17 : decode cX7_days 17 = .ok (.iload_n 1, 1) := by decide +kernel
theorem dX7_days_18 : decode cX7_days 18 = .ok (.invokevirtual 126, 3) := by decide +kernel
theorem dX7_days_21 : decode cX7_days 21 = .ok (.aload_n 0, 1) := by decide +kernel
theorem dX7_days_22 : decode cX7_days 22 = .ok (.getfield 27, 3) := by decide +kernel
theorem dX7_days_25 : decode cX7_days 25 = .ok (.getfield 129, 3) := by decide +kernel
theorem dX7_days_28 : decode cX7_days 28 = .ok (.ireturn, 1) := by decide +kernel
theorem dX7_storm_0 : decode cX7_storm 0 = .ok (.iload_n 1, 1) := by decide +kernel
theorem dX7_storm_1 : decode cX7_storm 1 = .ok (.iconst 1, 1) := by decide +kernel
theorem dX7_storm_2 : decode cX7_storm 2 = .ok (.sipush 999, 3) := by decide +kernel
theorem dX7_storm_5 : decode cX7_storm 5 = .ok (.invokestatic 66, 3) := by decide +kernel
theorem dX7_storm_8 : decode cX7_storm 8 = .ok (.ifCond .ne 5, 3) := by decide +kernel
theorem dX7_storm_11 : decode cX7_storm 11 = .ok (.iconst (-1), 1) := by decide +kernel
theorem dX7_storm_12 : decode cX7_storm 12 = .ok (.ireturn, 1) := by decide +kernel
theorem dX7_storm_13 : decode cX7_storm 13 = .ok (.aload_n 0, 1) := by decide +kernel
theorem dX7_storm_14 : decode cX7_storm 14 = .ok (.getfield 27, 3) := by decide +kernel
theorem dX7_storm_17 : decode cX7_storm 17 = .ok (.iload_n 1, 1) := by decide +kernel
theorem dX7_storm_18 : decode cX7_storm 18 = .ok (.invokevirtual 132, 3) := by decide +kernel
theorem dX7_storm_21 : decode cX7_storm 21 = .ok (.ireturn, 1) := by decide +kernel
theorem dX7_cell_0 : decode cX7_cell 0 = .ok (.aload_n 0, 1) := by decide +kernel
theorem dX7_cell_1 : decode cX7_cell 1 = .ok (.getfield 18, 3) := by decide +kernel
theorem dX7_cell_4 : decode cX7_cell 4 = .ok (.iload_n 1, 1) := by decide +kernel
theorem dX7_cell_5 : decode cX7_cell 5 = .ok (.invokevirtual 62, 3) := by decide +kernel
theorem dX7_cell_8 : decode cX7_cell 8 = .ok (.ifCond .ne 5, 3) := by decide +kernel
theorem dX7_cell_11 : decode cX7_cell 11 = .ok (.iconst (-1), 1) := by decide +kernel
theorem dX7_cell_12 : decode cX7_cell 12 = .ok (.ireturn, 1) := by decide +kernel
theorem dX7_cell_13 : decode cX7_cell 13 = .ok (.aload_n 0, 1) := by decide +kernel
theorem dX7_cell_14 : decode cX7_cell 14 = .ok (.getfield 27, 3) := by decide +kernel
theorem dX7_cell_17 : decode cX7_cell 17 = .ok (.iload_n 1, 1) := by decide +kernel
theorem dX7_cell_18 : decode cX7_cell 18 = .ok (.iload_n 2, 1) := by decide +kernel
theorem dX7_cell_19 : decode cX7_cell 19 = .ok (.invokevirtual 136, 3) := by decide +kernel
theorem dX7_cell_22 : decode cX7_cell 22 = .ok (.ireturn, 1) := by decide +kernel
theorem dX7_work_0 : decode cX7_work 0 = .ok (.iload_n 1, 1) := by decide +kernel
theorem dX7_work_1 : decode cX7_work 1 = .ok (.iconst 0, 1) := by decide +kernel
theorem dX7_work_2 : decode cX7_work 2 = .ok (.iconst 2, 1) := by decide +kernel
theorem dX7_work_3 : decode cX7_work 3 = .ok (.invokestatic 66, 3) := by decide +kernel
theorem dX7_work_6 : decode cX7_work 6 = .ok (.ifCond .eq 36, 3) := by decide +kernel
theorem dX7_work_9 : decode cX7_work 9 = .ok (.aload_n 0, 1) := by decide +kernel
theorem dX7_work_10 : decode cX7_work 10 = .ok (.getfield 18, 3) := by decide +kernel
theorem dX7_work_13 : decode cX7_work 13 = .ok (.iload_n 2, 1) := by decide +kernel
theorem dX7_work_14 : decode cX7_work 14 = .ok (.invokevirtual 62, 3) := by decide +kernel
theorem dX7_work_17 : decode cX7_work 17 = .ok (.ifCond .eq 25, 3) := by decide +kernel
theorem dX7_work_20 : decode cX7_work 20 = .ok (.iload_n 3, 1) := by decide +kernel
theorem dX7_work_21 : decode cX7_work 21 = .ok (.iconst 1, 1) := by decide +kernel
theorem dX7_work_22 : decode cX7_work 22 = .ok (.bipush 99, 2) := by decide +kernel
theorem dX7_work_24 : decode cX7_work 24 = .ok (.invokestatic 66, 3) := by decide +kernel
theorem dX7_work_27 : decode cX7_work 27 = .ok (.ifCond .eq 15, 3) := by decide +kernel
theorem dX7_work_30 : decode cX7_work 30 = .ok (.iload 4, 2) := by decide +kernel
theorem dX7_work_32 : decode cX7_work 32 = .ok (.iconst 0, 1) := by decide +kernel
theorem dX7_work_33 : decode cX7_work 33 = .ok (.sipush 999, 3) := by decide +kernel
theorem dX7_work_36 : decode cX7_work 36 = .ok (.invokestatic 66, 3) := by decide +kernel
theorem dX7_work_39 : decode cX7_work 39 = .ok (.ifCond .ne 5, 3) := by decide +kernel
theorem dX7_work_42 : decode cX7_work 42 = .ok (.iconst (-1), 1) := by decide +kernel
theorem dX7_work_43 : decode cX7_work 43 = .ok (.ireturn, 1) := by decide +kernel
theorem dX7_work_44 : decode cX7_work 44 = .ok (.aload_n 0, 1) := by decide +kernel
theorem dX7_work_45 : decode cX7_work 45 = .ok (.getfield 47, 3) := by decide +kernel
theorem dX7_work_48 : decode cX7_work 48 = .ok (.iload_n 1, 1) := by decide +kernel
theorem dX7_work_49 : decode cX7_work 49 = .ok (.iload_n 2, 1) := by decide +kernel
theorem dX7_work_50 : decode cX7_work 50 = .ok (.iload_n 3, 1) := by decide +kernel
theorem dX7_work_51 : decode cX7_work 51 = .ok (.iload 4, 2) := by decide +kernel
theorem dX7_work_53 : decode cX7_work 53 = .ok (.invokevirtual 140, 3) := by decide +kernel
theorem dX7_work_56 : decode cX7_work 56 = .ok (.ireturn, 1) := by decide +kernel
theorem dX7_drop_0 : decode cX7_drop 0 = .ok (.aload_n 0, 1) := by decide +kernel
theorem dX7_drop_1 : decode cX7_drop 1 = .ok (.getfield 47, 3) := by decide +kernel
theorem dX7_drop_4 : decode cX7_drop 4 = .ok (.getfield 144, 3) := by decide +kernel
theorem dX7_drop_7 : decode cX7_drop 7 = .ok (.istore_n 1, 1) := by decide +kernel
theorem dX7_drop_8 : decode cX7_drop 8 = .ok (.aload_n 0, 1) := by decide +kernel
theorem dX7_drop_9 : decode cX7_drop 9 = .ok (.getfield 47, 3) := by decide +kernel
theorem dX7_drop_12 : decode cX7_drop 12 = .ok (.iconst 0, 1) := by decide +kernel
theorem dX7_drop_13 : decode cX7_drop 13 = .ok (.putfield 144, 3) := by decide +kernel
theorem dX7_drop_16 : decode cX7_drop 16 = .ok (.iload_n 1, 1) := by decide +kernel
theorem dX7_drop_17 : decode cX7_drop 17 = .ok (.ireturn, 1) := by decide +kernel
theorem dX7_best_0 : decode cX7_best 0 = .ok (.aload_n 0, 1) := by decide +kernel
theorem dX7_best_1 : decode cX7_best 1 = .ok (.iload_n 1, 1) := by decide +kernel
theorem dX7_best_2 : decode cX7_best 2 = .ok (.iload_n 2, 1) := by decide +kernel
theorem dX7_best_3 : decode cX7_best 3 = .ok (.invokevirtual 145, 3) := by decide +kernel
theorem dX7_best_6 : decode cX7_best 6 = .ok (.iconst (-1), 1) := by decide +kernel
theorem dX7_best_7 : decode cX7_best 7 = .ok (.if_icmp .ne 7, 3) := by decide +kernel
theorem dX7_best_10 : decode cX7_best 10 = .ok (.iconst (-1), 1) := by decide +kernel
theorem dX7_best_11 : decode cX7_best 11 = .ok (.goto 7, 3) := by decide +kernel
theorem dX7_best_14 : decode cX7_best 14 = .ok (.aload_n 0, 1) := by decide +kernel
theorem dX7_best_15 : decode cX7_best 15 = .ok (.getfield 58, 3) := by decide +kernel
theorem dX7_best_18 : decode cX7_best 18 = .ok (.ireturn, 1) := by decide +kernel
theorem dX7_bestSet_0 : decode cX7_bestSet 0 = .ok (.aload_n 0, 1) := by decide +kernel
theorem dX7_bestSet_1 : decode cX7_bestSet 1 = .ok (.iload_n 1, 1) := by decide +kernel
theorem dX7_bestSet_2 : decode cX7_bestSet 2 = .ok (.iload_n 2, 1) := by decide +kernel
theorem dX7_bestSet_3 : decode cX7_bestSet 3 = .ok (.invokevirtual 145, 3) := by decide +kernel
theorem dX7_bestSet_6 : decode cX7_bestSet 6 = .ok (.ireturn, 1) := by decide +kernel
theorem dX7_mark_0 : decode cX7_mark 0 = .ok (.aload_n 0, 1) := by decide +kernel
theorem dX7_mark_1 : decode cX7_mark 1 = .ok (.getfield 31, 3) := by decide +kernel
theorem dX7_mark_4 : decode cX7_mark 4 = .ok (.aload_n 0, 1) := by decide +kernel
theorem dX7_mark_5 : decode cX7_mark 5 = .ok (.getfield 27, 3) := by decide +kernel
theorem dX7_mark_8 : decode cX7_mark 8 = .ok (.invokevirtual 148, 3) := by decide +kernel
theorem dX7_mark_11 : decode cX7_mark 11 = .ok (.aload_n 0, 1) := by decide +kernel
theorem dX7_mark_12 : decode cX7_mark 12 = .ok (.getfield 54, 3) := by decide +kernel
theorem dX7_mark_15 : decode cX7_mark 15 = .ok (.iconst 0, 1) := by decide +kernel
theorem dX7_mark_16 : decode cX7_mark 16 = .ok (.putfield 151, 3) := by decide +kernel
theorem dX7_mark_19 : decode cX7_mark 19 = .ok (.return_, 1) := by decide +kernel
theorem dX7_flight_0 : decode cX7_flight 0 = .ok (.aload_n 0, 1) := by decide +kernel
theorem dX7_flight_1 : decode cX7_flight 1 = .ok (.getfield 18, 3) := by decide +kernel
theorem dX7_flight_4 : decode cX7_flight 4 = .ok (.iload_n 1, 1) := by decide +kernel
theorem dX7_flight_5 : decode cX7_flight 5 = .ok (.invokevirtual 62, 3) := by decide +kernel
theorem dX7_flight_8 : decode cX7_flight 8 = .ok (.ifCond .eq 24, 3) := by decide +kernel
theorem dX7_flight_11 : decode cX7_flight 11 = .ok (.iload_n 2, 1) := by decide +kernel
theorem dX7_flight_12 : decode cX7_flight 12 = .ok (.iconst 0, 1) := by decide +kernel
theorem dX7_flight_13 : decode cX7_flight 13 = .ok (.sipush 9999, 3) := by decide +kernel
theorem dX7_flight_16 : decode cX7_flight 16 = .ok (.invokestatic 66, 3) := by decide +kernel
theorem dX7_flight_19 : decode cX7_flight 19 = .ok (.ifCond .eq 13, 3) := by decide +kernel
theorem dX7_flight_22 : decode cX7_flight 22 = .ok (.iload_n 3, 1) := by decide +kernel
theorem dX7_flight_23 : decode cX7_flight 23 = .ok (.iconst 0, 1) := by decide +kernel
theorem dX7_flight_24 : decode cX7_flight 24 = .ok (.bipush 9, 2) := by decide +kernel
theorem dX7_flight_26 : decode cX7_flight 26 = .ok (.invokestatic 66, 3) := by decide +kernel
theorem dX7_flight_29 : decode cX7_flight 29 = .ok (.ifCond .ne 5, 3) := by decide +kernel
theorem dX7_flight_32 : decode cX7_flight 32 = .ok (.iconst (-1), 1) := by decide +kernel
theorem dX7_flight_33 : decode cX7_flight 33 = .ok (.ireturn, 1) := by decide +kernel
theorem dX7_flight_34 : decode cX7_flight 34 = .ok (.aload_n 0, 1) := by decide +kernel
theorem dX7_flight_35 : decode cX7_flight 35 = .ok (.getfield 54, 3) := by decide +kernel
theorem dX7_flight_38 : decode cX7_flight 38 = .ok (.iload_n 1, 1) := by decide +kernel
theorem dX7_flight_39 : decode cX7_flight 39 = .ok (.iload_n 2, 1) := by decide +kernel
theorem dX7_flight_40 : decode cX7_flight 40 = .ok (.iload_n 3, 1) := by decide +kernel
theorem dX7_flight_41 : decode cX7_flight 41 = .ok (.invokevirtual 152, 3) := by decide +kernel
theorem dX7_flight_44 : decode cX7_flight 44 = .ok (.ireturn, 1) := by decide +kernel
theorem dX7_fits_0 : decode cX7_fits 0 = .ok (.aload_n 0, 1) := by decide +kernel
theorem dX7_fits_1 : decode cX7_fits 1 = .ok (.getfield 31, 3) := by decide +kernel
theorem dX7_fits_4 : decode cX7_fits 4 = .ok (.iload_n 1, 1) := by decide +kernel
theorem dX7_fits_5 : decode cX7_fits 5 = .ok (.invokevirtual 123, 3) := by decide +kernel
theorem dX7_fits_8 : decode cX7_fits 8 = .ok (.ifCond .ne 5, 3) := by decide +kernel
theorem dX7_fits_11 : decode cX7_fits 11 = .ok (.iconst (-1), 1) := by decide +kernel
theorem dX7_fits_12 : decode cX7_fits 12 = .ok (.ireturn, 1) := by decide +kernel
theorem dX7_fits_13 : decode cX7_fits 13 = .ok (.iconst 0, 1) := by decide +kernel
theorem dX7_fits_14 : decode cX7_fits 14 = .ok (.istore_n 2, 1) := by decide +kernel
theorem dX7_fits_15 : decode cX7_fits 15 = .ok (.iconst 1, 1) := by decide +kernel
theorem dX7_fits_16 : decode cX7_fits 16 = .ok (.istore_n 3, 1) := by decide +kernel
theorem dX7_fits_17 : decode cX7_fits 17 = .ok (.iload_n 3, 1) := by decide +kernel
theorem dX7_fits_18 : decode cX7_fits 18 = .ok (.iconst 5, 1) := by decide +kernel
theorem dX7_fits_19 : decode cX7_fits 19 = .ok (.if_icmp .gt 58, 3) := by decide +kernel
theorem dX7_fits_22 : decode cX7_fits 22 = .ok (.aload_n 0, 1) := by decide +kernel
theorem dX7_fits_23 : decode cX7_fits 23 = .ok (.getfield 34, 3) := by decide +kernel
theorem dX7_fits_26 : decode cX7_fits 26 = .ok (.aload_n 0, 1) := by decide +kernel
theorem dX7_fits_27 : decode cX7_fits 27 = .ok (.getfield 31, 3) := by decide +kernel
theorem dX7_fits_30 : decode cX7_fits 30 = .ok (.invokevirtual 148, 3) := by decide +kernel
theorem dX7_fits_33 : decode cX7_fits 33 = .ok (.aload_n 0, 1) := by decide +kernel
theorem dX7_fits_34 : decode cX7_fits 34 = .ok (.getfield 34, 3) := by decide +kernel
theorem dX7_fits_37 : decode cX7_fits 37 = .ok (.getfield 81, 3) := by decide +kernel
theorem dX7_fits_40 : decode cX7_fits 40 = .ok (.iconst 0, 1) := by decide +kernel
theorem dX7_fits_41 : decode cX7_fits 41 = .ok (.iload_n 3, 1) := by decide +kernel
theorem dX7_fits_42 : decode cX7_fits 42 = .ok (.iastore, 1) := by decide +kernel
theorem dX7_fits_43 : decode cX7_fits 43 = .ok (.aload_n 0, 1) := by decide +kernel
theorem dX7_fits_44 : decode cX7_fits 44 = .ok (.getfield 34, 3) := by decide +kernel
theorem dX7_fits_47 : decode cX7_fits 47 = .ok (.iload_n 1, 1) := by decide +kernel
theorem dX7_fits_48 : decode cX7_fits 48 = .ok (.invokevirtual 126, 3) := by decide +kernel
theorem dX7_fits_51 : decode cX7_fits 51 = .ok (.aload_n 0, 1) := by decide +kernel
theorem dX7_fits_52 : decode cX7_fits 52 = .ok (.getfield 54, 3) := by decide +kernel
theorem dX7_fits_55 : decode cX7_fits 55 = .ok (.aload_n 0, 1) := by decide +kernel
theorem dX7_fits_56 : decode cX7_fits 56 = .ok (.getfield 34, 3) := by decide +kernel
theorem dX7_fits_59 : decode cX7_fits 59 = .ok (.invokevirtual 154, 3) := by decide +kernel
theorem dX7_fits_62 : decode cX7_fits 62 = .ok (.ifCond .eq 9, 3) := by decide +kernel
theorem dX7_fits_65 : decode cX7_fits 65 = .ok (.iload_n 2, 1) := by decide +kernel
theorem dX7_fits_66 : decode cX7_fits 66 = .ok (.iconst 1, 1) := by decide +kernel
theorem dX7_fits_67 : decode cX7_fits 67 = .ok (.iload_n 3, 1) := by decide +kernel
theorem dX7_fits_68 : decode cX7_fits 68 = .ok (.ishl, 1) := by decide +kernel
theorem dX7_fits_69 : decode cX7_fits 69 = .ok (.ior, 1) := by decide +kernel
theorem dX7_fits_70 : decode cX7_fits 70 = .ok (.istore_n 2, 1) := by decide +kernel
theorem dX7_fits_71 : decode cX7_fits 71 = .ok (.iinc 3 1, 3) := by decide +kernel
theorem dX7_fits_74 : decode cX7_fits 74 = .ok (.goto (-57), 3) := by decide +kernel
theorem dX7_fits_77 : decode cX7_fits 77 = .ok (.iload_n 2, 1) := by decide +kernel
theorem dX7_fits_78 : decode cX7_fits 78 = .ok (.ireturn, 1) := by decide +kernel
theorem dX7_about_0 : decode cX7_about 0 = .ok (.iload_n 1, 1) := by decide +kernel
theorem dX7_about_1 : decode cX7_about 1 = .ok (.bipush 20, 2) := by decide +kernel
theorem dX7_about_3 : decode cX7_about 3 = .ok (.bipush 24, 2) := by decide +kernel
theorem dX7_about_5 : decode cX7_about 5 = .ok (.invokestatic 66, 3) := by decide +kernel
theorem dX7_about_8 : decode cX7_about 8 = .ok (.ifCond .eq 16, 3) := by decide +kernel
theorem dX7_about_11 : decode cX7_about 11 = .ok (.aload_n 0, 1) := by decide +kernel
theorem dX7_about_12 : decode cX7_about 12 = .ok (.getfield 27, 3) := by decide +kernel
theorem dX7_about_15 : decode cX7_about 15 = .ok (.getfield 81, 3) := by decide +kernel
theorem dX7_about_18 : decode cX7_about 18 = .ok (.iload_n 1, 1) := by decide +kernel
theorem dX7_about_19 : decode cX7_about 19 = .ok (.bipush 20, 2) := by decide +kernel
theorem dX7_about_21 : decode cX7_about 21 = .ok (.isub, 1) := by decide +kernel
theorem dX7_about_22 : decode cX7_about 22 = .ok (.iaload, 1) := by decide +kernel
theorem dX7_about_23 : decode cX7_about 23 = .ok (.ireturn, 1) := by decide +kernel
theorem dX7_about_24 : decode cX7_about 24 = .ok (.iload_n 1, 1) := by decide +kernel
theorem dX7_about_25 : decode cX7_about 25 = .ok (.tableswitch 177 0 12 #[67, 75, 83, 91, 99, 107, 115, 123, 134, 145, 153, 161, 169], 67) := by decide +kernel
theorem dX7_about_92 : decode cX7_about 92 = .ok (.aload_n 0, 1) := by decide +kernel
theorem dX7_about_93 : decode cX7_about 93 = .ok (.getfield 27, 3) := by decide +kernel
theorem dX7_about_96 : decode cX7_about 96 = .ok (.getfield 129, 3) := by decide +kernel
theorem dX7_about_99 : decode cX7_about 99 = .ok (.ireturn, 1) := by decide +kernel
theorem dX7_about_100 : decode cX7_about 100 = .ok (.aload_n 0, 1) := by decide +kernel
theorem dX7_about_101 : decode cX7_about 101 = .ok (.getfield 18, 3) := by decide +kernel
theorem dX7_about_104 : decode cX7_about 104 = .ok (.getfield 158, 3) := by decide +kernel
theorem dX7_about_107 : decode cX7_about 107 = .ok (.ireturn, 1) := by decide +kernel
theorem dX7_about_108 : decode cX7_about 108 = .ok (.aload_n 0, 1) := by decide +kernel
theorem dX7_about_109 : decode cX7_about 109 = .ok (.getfield 18, 3) := by decide +kernel
theorem dX7_about_112 : decode cX7_about 112 = .ok (.getfield 161, 3) := by decide +kernel
theorem dX7_about_115 : decode cX7_about 115 = .ok (.ireturn, 1) := by decide +kernel
theorem dX7_about_116 : decode cX7_about 116 = .ok (.aload_n 0, 1) := by decide +kernel
theorem dX7_about_117 : decode cX7_about 117 = .ok (.getfield 27, 3) := by decide +kernel
theorem dX7_about_120 : decode cX7_about 120 = .ok (.invokevirtual 164, 3) := by decide +kernel
theorem dX7_about_123 : decode cX7_about 123 = .ok (.ireturn, 1) := by decide +kernel
theorem dX7_about_124 : decode cX7_about 124 = .ok (.aload_n 0, 1) := by decide +kernel
theorem dX7_about_125 : decode cX7_about 125 = .ok (.getfield 27, 3) := by decide +kernel
theorem dX7_about_128 : decode cX7_about 128 = .ok (.getfield 168, 3) := by decide +kernel
theorem dX7_about_131 : decode cX7_about 131 = .ok (.ireturn, 1) := by decide +kernel
theorem dX7_about_132 : decode cX7_about 132 = .ok (.aload_n 0, 1) := by decide +kernel
theorem dX7_about_133 : decode cX7_about 133 = .ok (.getfield 27, 3) := by decide +kernel
theorem dX7_about_136 : decode cX7_about 136 = .ok (.getfield 171, 3) := by decide +kernel
theorem dX7_about_139 : decode cX7_about 139 = .ok (.ireturn, 1) := by decide +kernel
theorem dX7_about_140 : decode cX7_about 140 = .ok (.aload_n 0, 1) := by decide +kernel
theorem dX7_about_141 : decode cX7_about 141 = .ok (.getfield 27, 3) := by decide +kernel
theorem dX7_about_144 : decode cX7_about 144 = .ok (.getfield 174, 3) := by decide +kernel
theorem dX7_about_147 : decode cX7_about 147 = .ok (.ireturn, 1) := by decide +kernel
theorem dX7_about_148 : decode cX7_about 148 = .ok (.aload_n 0, 1) := by decide +kernel
theorem dX7_about_149 : decode cX7_about 149 = .ok (.getfield 27, 3) := by decide +kernel
theorem dX7_about_152 : decode cX7_about 152 = .ok (.getfield 101, 3) := by decide +kernel
theorem dX7_about_155 : decode cX7_about 155 = .ok (.getfield 114, 3) := by decide +kernel
theorem dX7_about_158 : decode cX7_about 158 = .ok (.ireturn, 1) := by decide +kernel
theorem dX7_about_159 : decode cX7_about 159 = .ok (.aload_n 0, 1) := by decide +kernel
theorem dX7_about_160 : decode cX7_about 160 = .ok (.getfield 27, 3) := by decide +kernel
theorem dX7_about_163 : decode cX7_about 163 = .ok (.getfield 101, 3) := by decide +kernel
theorem dX7_about_166 : decode cX7_about 166 = .ok (.invokevirtual 177, 3) := by decide +kernel
theorem dX7_about_169 : decode cX7_about 169 = .ok (.ireturn, 1) := by decide +kernel
theorem dX7_about_170 : decode cX7_about 170 = .ok (.aload_n 0, 1) := by decide +kernel
theorem dX7_about_171 : decode cX7_about 171 = .ok (.getfield 40, 3) := by decide +kernel
theorem dX7_about_174 : decode cX7_about 174 = .ok (.getfield 90, 3) := by decide +kernel
theorem dX7_about_177 : decode cX7_about 177 = .ok (.ireturn, 1) := by decide +kernel
theorem dX7_about_178 : decode cX7_about 178 = .ok (.aload_n 0, 1) := by decide +kernel
theorem dX7_about_179 : decode cX7_about 179 = .ok (.getfield 47, 3) := by decide +kernel
theorem dX7_about_182 : decode cX7_about 182 = .ok (.getfield 144, 3) := by decide +kernel
theorem dX7_about_185 : decode cX7_about 185 = .ok (.ireturn, 1) := by decide +kernel
theorem dX7_about_186 : decode cX7_about 186 = .ok (.aload_n 0, 1) := by decide +kernel
theorem dX7_about_187 : decode cX7_about 187 = .ok (.getfield 54, 3) := by decide +kernel
theorem dX7_about_190 : decode cX7_about 190 = .ok (.getfield 151, 3) := by decide +kernel
theorem dX7_about_193 : decode cX7_about 193 = .ok (.ireturn, 1) := by decide +kernel
theorem dX7_about_194 : decode cX7_about 194 = .ok (.aload_n 0, 1) := by decide +kernel
theorem dX7_about_195 : decode cX7_about 195 = .ok (.getfield 31, 3) := by decide +kernel
theorem dX7_about_198 : decode cX7_about 198 = .ok (.getfield 129, 3) := by decide +kernel
theorem dX7_about_201 : decode cX7_about 201 = .ok (.ireturn, 1) := by decide +kernel
theorem dX7_about_202 : decode cX7_about 202 = .ok (.iconst (-1), 1) := by decide +kernel
theorem dX7_about_203 : decode cX7_about 203 = .ok (.ireturn, 1) := by decide +kernel
theorem dX7_chooseWorks_0 : decode cX7_chooseWorks 0 = .ok (.iload_n 1, 1) := by decide +kernel
theorem dX7_chooseWorks_1 : decode cX7_chooseWorks 1 = .ok (.iconst 0, 1) := by decide +kernel
theorem dX7_chooseWorks_2 : decode cX7_chooseWorks 2 = .ok (.sipush 9999, 3) := by decide +kernel
theorem dX7_chooseWorks_5 : decode cX7_chooseWorks 5 = .ok (.invokestatic 66, 3) := by decide +kernel
theorem dX7_chooseWorks_8 : decode cX7_chooseWorks 8 = .ok (.ifCond .eq 14, 3) := by decide +kernel
theorem dX7_chooseWorks_11 : decode cX7_chooseWorks 11 = .ok (.aload_n 0, 1) := by decide +kernel
theorem dX7_chooseWorks_12 : decode cX7_chooseWorks 12 = .ok (.getfield 27, 3) := by decide +kernel
theorem dX7_chooseWorks_15 : decode cX7_chooseWorks 15 = .ok (.iload_n 2, 1) := by decide +kernel
theorem dX7_chooseWorks_16 : decode cX7_chooseWorks 16 = .ok (.invokevirtual 123, 3) := by decide +kernel
theorem dX7_chooseWorks_19 : decode cX7_chooseWorks 19 = .ok (.ifCond .ne 5, 3) := by decide +kernel
theorem dX7_chooseWorks_22 : decode cX7_chooseWorks 22 = .ok (.iconst (-1), 1) := by decide +kernel
theorem dX7_chooseWorks_23 : decode cX7_chooseWorks 23 = .ok (.ireturn, 1) := by decide +kernel
theorem dX7_chooseWorks_24 : decode cX7_chooseWorks 24 = .ok (.iconst (-1), 1) := by decide +kernel
theorem dX7_chooseWorks_25 : decode cX7_chooseWorks 25 = .ok (.istore_n 3, 1) := by decide +kernel
theorem dX7_chooseWorks_26 : decode cX7_chooseWorks 26 = .ok (.iconst 0, 1) := by decide +kernel
theorem dX7_chooseWorks_27 : decode cX7_chooseWorks 27 = .ok (.istore 4, 2) := by decide +kernel
theorem dX7_chooseWorks_29 : decode cX7_chooseWorks 29 = .ok (.iconst 0, 1) := by decide +kernel
theorem dX7_chooseWorks_30 : decode cX7_chooseWorks 30 = .ok (.istore 5, 2) := by decide +kernel
theorem dX7_chooseWorks_32 : decode cX7_chooseWorks 32 = .ok (.iload 5, 2) := by decide +kernel
theorem dX7_chooseWorks_34 : decode cX7_chooseWorks 34 = .ok (.iconst 1, 1) := by decide +kernel
theorem dX7_chooseWorks_35 : decode cX7_chooseWorks 35 = .ok (.aload_n 0, 1) := by decide +kernel
theorem dX7_chooseWorks_36 : decode cX7_chooseWorks 36 = .ok (.getfield 47, 3) := by decide +kernel
theorem dX7_chooseWorks_39 : decode cX7_chooseWorks 39 = .ok (.getfield 144, 3) := by decide +kernel
theorem dX7_chooseWorks_42 : decode cX7_chooseWorks 42 = .ok (.ishl, 1) := by decide +kernel
theorem dX7_chooseWorks_43 : decode cX7_chooseWorks 43 = .ok (.if_icmp .ge 113, 3) := by decide +kernel
theorem dX7_chooseWorks_46 : decode cX7_chooseWorks 46 = .ok (.aload_n 0, 1) := by decide +kernel
theorem dX7_chooseWorks_47 : decode cX7_chooseWorks 47 = .ok (.getfield 47, 3) := by decide +kernel
theorem dX7_chooseWorks_50 : decode cX7_chooseWorks 50 = .ok (.iload 5, 2) := by decide +kernel
theorem dX7_chooseWorks_52 : decode cX7_chooseWorks 52 = .ok (.invokevirtual 180, 3) := by decide +kernel
theorem dX7_chooseWorks_55 : decode cX7_chooseWorks 55 = .ok (.istore 6, 2) := by decide +kernel
theorem dX7_chooseWorks_57 : decode cX7_chooseWorks 57 = .ok (.iload 6, 2) := by decide +kernel
theorem dX7_chooseWorks_59 : decode cX7_chooseWorks 59 = .ok (.iload_n 1, 1) := by decide +kernel
theorem dX7_chooseWorks_60 : decode cX7_chooseWorks 60 = .ok (.if_icmp .le 6, 3) := by decide +kernel
theorem dX7_chooseWorks_63 : decode cX7_chooseWorks 63 = .ok (.goto 87, 3) := by decide +kernel
theorem dX7_chooseWorks_66 : decode cX7_chooseWorks 66 = .ok (.aload_n 0, 1) := by decide +kernel
theorem dX7_chooseWorks_67 : decode cX7_chooseWorks 67 = .ok (.getfield 34, 3) := by decide +kernel
theorem dX7_chooseWorks_70 : decode cX7_chooseWorks 70 = .ok (.aload_n 0, 1) := by decide +kernel
theorem dX7_chooseWorks_71 : decode cX7_chooseWorks 71 = .ok (.getfield 27, 3) := by decide +kernel
theorem dX7_chooseWorks_74 : decode cX7_chooseWorks 74 = .ok (.invokevirtual 148, 3) := by decide +kernel
theorem dX7_chooseWorks_77 : decode cX7_chooseWorks 77 = .ok (.aload_n 0, 1) := by decide +kernel
theorem dX7_chooseWorks_78 : decode cX7_chooseWorks 78 = .ok (.getfield 47, 3) := by decide +kernel
theorem dX7_chooseWorks_81 : decode cX7_chooseWorks 81 = .ok (.iload 5, 2) := by decide +kernel
theorem dX7_chooseWorks_83 : decode cX7_chooseWorks 83 = .ok (.aload_n 0, 1) := by decide +kernel
theorem dX7_chooseWorks_84 : decode cX7_chooseWorks 84 = .ok (.getfield 34, 3) := by decide +kernel
theorem dX7_chooseWorks_87 : decode cX7_chooseWorks 87 = .ok (.invokevirtual 183, 3) := by decide +kernel
theorem dX7_chooseWorks_90 : decode cX7_chooseWorks 90 = .ok (.aload_n 0, 1) := by decide +kernel
theorem dX7_chooseWorks_91 : decode cX7_chooseWorks 91 = .ok (.getfield 34, 3) := by decide +kernel
theorem dX7_chooseWorks_94 : decode cX7_chooseWorks 94 = .ok (.iload_n 2, 1) := by decide +kernel
theorem dX7_chooseWorks_95 : decode cX7_chooseWorks 95 = .ok (.invokevirtual 126, 3) := by decide +kernel
theorem dX7_chooseWorks_98 : decode cX7_chooseWorks 98 = .ok (.aload_n 0, 1) := by decide +kernel
theorem dX7_chooseWorks_99 : decode cX7_chooseWorks 99 = .ok (.getfield 34, 3) := by decide +kernel
theorem dX7_chooseWorks_102 : decode cX7_chooseWorks 102 = .ok (.invokevirtual 187, 3) := by decide +kernel
theorem dX7_chooseWorks_105 : decode cX7_chooseWorks 105 = .ok (.istore 7, 2) := by decide +kernel
theorem dX7_chooseWorks_107 : decode cX7_chooseWorks 107 = .ok (.iload_n 3, 1) := by decide +kernel
theorem dX7_chooseWorks_108 : decode cX7_chooseWorks 108 = .ok (.iconst (-1), 1) := by decide +kernel
theorem dX7_chooseWorks_109 : decode cX7_chooseWorks 109 = .ok (.if_icmp .eq 28, 3) := by decide +kernel
theorem dX7_chooseWorks_112 : decode cX7_chooseWorks 112 = .ok (.iload 7, 2) := by decide +kernel
theorem dX7_chooseWorks_114 : decode cX7_chooseWorks 114 = .ok (.aload_n 0, 1) := by decide +kernel
theorem dX7_chooseWorks_115 : decode cX7_chooseWorks 115 = .ok (.getfield 58, 3) := by decide +kernel
theorem dX7_chooseWorks_118 : decode cX7_chooseWorks 118 = .ok (.if_icmp .lt 19, 3) := by decide +kernel
theorem dX7_chooseWorks_121 : decode cX7_chooseWorks 121 = .ok (.iload 7, 2) := by decide +kernel
theorem dX7_chooseWorks_123 : decode cX7_chooseWorks 123 = .ok (.aload_n 0, 1) := by decide +kernel
theorem dX7_chooseWorks_124 : decode cX7_chooseWorks 124 = .ok (.getfield 58, 3) := by decide +kernel
theorem dX7_chooseWorks_127 : decode cX7_chooseWorks 127 = .ok (.if_icmp .ne 23, 3) := by decide +kernel
theorem dX7_chooseWorks_130 : decode cX7_chooseWorks 130 = .ok (.iload 6, 2) := by decide +kernel
theorem dX7_chooseWorks_132 : decode cX7_chooseWorks 132 = .ok (.iload 4, 2) := by decide +kernel
theorem dX7_chooseWorks_134 : decode cX7_chooseWorks 134 = .ok (.if_icmp .ge 16, 3) := by decide +kernel
theorem dX7_chooseWorks_137 : decode cX7_chooseWorks 137 = .ok (.iload 5, 2) := by decide +kernel
theorem dX7_chooseWorks_139 : decode cX7_chooseWorks 139 = .ok (.istore_n 3, 1) := by decide +kernel
theorem dX7_chooseWorks_140 : decode cX7_chooseWorks 140 = .ok (.iload 6, 2) := by decide +kernel
theorem dX7_chooseWorks_142 : decode cX7_chooseWorks 142 = .ok (.istore 4, 2) := by decide +kernel
theorem dX7_chooseWorks_144 : decode cX7_chooseWorks 144 = .ok (.aload_n 0, 1) := by decide +kernel
theorem dX7_chooseWorks_145 : decode cX7_chooseWorks 145 = .ok (.iload 7, 2) := by decide +kernel
theorem dX7_chooseWorks_147 : decode cX7_chooseWorks 147 = .ok (.putfield 58, 3) := by decide +kernel
theorem dX7_chooseWorks_150 : decode cX7_chooseWorks 150 = .ok (.iinc 5 1, 3) := by decide +kernel
theorem dX7_chooseWorks_153 : decode cX7_chooseWorks 153 = .ok (.goto (-121), 3) := by decide +kernel
theorem dX7_chooseWorks_156 : decode cX7_chooseWorks 156 = .ok (.iload_n 3, 1) := by decide +kernel
theorem dX7_chooseWorks_157 : decode cX7_chooseWorks 157 = .ok (.ireturn, 1) := by decide +kernel
theorem dX7_isWithin_0 : decode cX7_isWithin 0 = .ok (.iload_n 0, 1) := by decide +kernel
theorem dX7_isWithin_1 : decode cX7_isWithin 1 = .ok (.iload_n 1, 1) := by decide +kernel
theorem dX7_isWithin_2 : decode cX7_isWithin 2 = .ok (.if_icmp .lt 12, 3) := by decide +kernel
theorem dX7_isWithin_5 : decode cX7_isWithin 5 = .ok (.iload_n 0, 1) := by decide +kernel
theorem dX7_isWithin_6 : decode cX7_isWithin 6 = .ok (.iload_n 2, 1) := by decide +kernel
theorem dX7_isWithin_7 : decode cX7_isWithin 7 = .ok (.if_icmp .gt 7, 3) := by decide +kernel
theorem dX7_isWithin_10 : decode cX7_isWithin 10 = .ok (.iconst 1, 1) := by decide +kernel
theorem dX7_isWithin_11 : decode cX7_isWithin 11 = .ok (.goto 4, 3) := by decide +kernel
theorem dX7_isWithin_14 : decode cX7_isWithin 14 = .ok (.iconst 0, 1) := by decide +kernel
theorem dX7_isWithin_15 : decode cX7_isWithin 15 = .ok (.ireturn, 1) := by decide +kernel
theorem dX7_nearest_0 : decode cX7_nearest 0 = .ok (.iload_n 1, 1) := by decide +kernel
theorem dX7_nearest_1 : decode cX7_nearest 1 = .ok (.iload_n 2, 1) := by decide +kernel
theorem dX7_nearest_2 : decode cX7_nearest 2 = .ok (.iload_n 0, 1) := by decide +kernel
theorem dX7_nearest_3 : decode cX7_nearest 3 = .ok (.invokestatic 190, 3) := by decide +kernel
theorem dX7_nearest_6 : decode cX7_nearest 6 = .ok (.invokestatic 195, 3) := by decide +kernel
theorem dX7_nearest_9 : decode cX7_nearest 9 = .ok (.ireturn, 1) := by decide +kernel
theorem dX7_copyRow_0 : decode cX7_copyRow 0 = .ok (.aload_n 0, 1) := by decide +kernel
theorem dX7_copyRow_1 : decode cX7_copyRow 1 = .ok (.iconst 0, 1) := by decide +kernel
theorem dX7_copyRow_2 : decode cX7_copyRow 2 = .ok (.aload_n 1, 1) := by decide +kernel
theorem dX7_copyRow_3 : decode cX7_copyRow 3 = .ok (.iconst 0, 1) := by decide +kernel
theorem dX7_copyRow_4 : decode cX7_copyRow 4 = .ok (.aload_n 0, 1) := by decide +kernel
theorem dX7_copyRow_5 : decode cX7_copyRow 5 = .ok (.arraylength, 1) := by decide +kernel
theorem dX7_copyRow_6 : decode cX7_copyRow 6 = .ok (.aload_n 1, 1) := by decide +kernel
theorem dX7_copyRow_7 : decode cX7_copyRow 7 = .ok (.arraylength, 1) := by decide +kernel
theorem dX7_copyRow_8 : decode cX7_copyRow 8 = .ok (.invokestatic 190, 3) := by decide +kernel
theorem dX7_copyRow_11 : decode cX7_copyRow 11 = .ok (.invokestatic 198, 3) := by decide +kernel
theorem dX7_copyRow_14 : decode cX7_copyRow 14 = .ok (.return_, 1) := by decide +kernel
