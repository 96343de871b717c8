theorem dX8_heap_16 : decode cX8_heap 16 = .ok (.ifCond .ne 5, 3) := by decide +kernel
theorem dX8_heap_19 : decode cX8_heap 19 = .ok (.iconst 0, 1) := by decide +kernel
theorem dX8_heap_20 : decode cX8_heap 20 = .ok (.ireturn, 1) := by decide +kernel
theorem dX8_heap_21 : decode cX8_heap 21 = .ok (.aload_n 0, 1) := by decide +kernel
theorem dX8_heap_22 : decode cX8_heap 22 = .ok (.getfield 7, 3) := by decide +kernel
theorem dX8_heap_25 : decode cX8_heap 25 = .ok (.iload_n 1, 1) := by decide +kernel
theorem dX8_heap_26 : decode cX8_heap 26 = .ok (.iload_n 2, 1) := by decide +kernel
theorem dX8_heap_27 : decode cX8_heap 27 = .ok (.iastore, 1) := by decide +kernel
theorem dX8_heap_28 : decode cX8_heap 28 = .ok (.aload_n 0, 1) := by decide +kernel
theorem dX8_heap_29 : decode cX8_heap 29 = .ok (.getfield 13, 3) := by decide +kernel
theorem dX8_heap_32 : decode cX8_heap 32 = .ok (.iload_n 1, 1) := by decide +kernel
theorem dX8_heap_33 : decode cX8_heap 33 = .ok (.iload_n 2, 1) := by decide +kernel
theorem dX8_heap_34 : decode cX8_heap 34 = .ok (.iastore, 1) := by decide +kernel
theorem dX8_heap_35 : decode cX8_heap 35 = .ok (.aload_n 0, 1) := by decide +kernel
theorem dX8_heap_36 : decode cX8_heap 36 = .ok (.iload_n 1, 1) := by decide +kernel
theorem dX8_heap_37 : decode cX8_heap 37 = .ok (.invokevirtual 156, 3) := by decide +kernel
theorem dX8_heap_40 : decode cX8_heap 40 = .ok (.iconst 1, 1) := by decide +kernel
theorem dX8_heap_41 : decode cX8_heap 41 = .ok (.ireturn, 1) := by decide +kernel
theorem dX8_lay_0 : decode cX8_lay 0 = .ok (.aload_n 0, 1) := by decide +kernel
theorem dX8_lay_1 : decode cX8_lay 1 = .ok (.iload_n 1, 1) := by decide +kernel
theorem dX8_lay_2 : decode cX8_lay 2 = .ok (.invokevirtual 153, 3) := by decide +kernel
theorem dX8_lay_5 : decode cX8_lay 5 = .ok (.ifCond .eq 52, 3) := by decide +kernel
theorem dX8_lay_8 : decode cX8_lay 8 = .ok (.iload_n 2, 1) := by decide +kernel
theorem dX8_lay_9 : decode cX8_lay 9 = .ok (.iconst 0, 1) := by decide +kernel
theorem dX8_lay_10 : decode cX8_lay 10 = .ok (.iconst 3, 1) := by decide +kernel
theorem dX8_lay_11 : decode cX8_lay 11 = .ok (.invokestatic 110, 3) := by decide +kernel
theorem dX8_lay_14 : decode cX8_lay 14 = .ok (.ifCond .eq 43, 3) := by decide +kernel
theorem dX8_lay_17 : decode cX8_lay 17 = .ok (.iload_n 3, 1) := by decide +kernel
theorem dX8_lay_18 : decode cX8_lay 18 = .ok (.iconst 0, 1) := by decide +kernel
theorem dX8_lay_19 : decode cX8_lay 19 = .ok (.iload_n 2, 1) := by decide +kernel
theorem dX8_lay_20 : decode cX8_lay 20 = .ok (.ifCond .ne 8, 3) := by decide +kernel
theorem dX8_lay_23 : decode cX8_lay 23 = .ok (.bipush 100, 2) := by decide +kernel
theorem dX8_lay_25 : decode cX8_lay 25 = .ok (.goto 26, 3) := by decide +kernel
theorem dX8_lay_28 : decode cX8_lay 28 = .ok (.iload_n 2, 1) := by decide +kernel
theorem dX8_lay_29 : decode cX8_lay 29 = .ok (.iconst 1, 1) := by decide +kernel
theorem dX8_lay_30 : decode cX8_lay 30 = .ok (.if_icmp .ne 8, 3) := by decide +kernel
theorem dX8_lay_33 : decode cX8_lay 33 = .ok (.bipush 99, 2) := by decide +kernel
theorem dX8_lay_35 : decode cX8_lay 35 = .ok (.goto 16, 3) := by decide +kernel
theorem dX8_lay_38 : decode cX8_lay 38 = .ok (.iload_n 2, 1) := by decide +kernel
theorem dX8_lay_39 : decode cX8_lay 39 = .ok (.iconst 2, 1) := by decide +kernel
theorem dX8_lay_40 : decode cX8_lay 40 = .ok (.if_icmp .ne 8, 3) := by decide +kernel
theorem dX8_lay_43 : decode cX8_lay 43 = .ok (.bipush 20, 2) := by decide +kernel
theorem dX8_lay_45 : decode cX8_lay 45 = .ok (.goto 6, 3) := by decide +kernel
theorem dX8_lay_48 : decode cX8_lay 48 = .ok (.sipush 999, 3) := by decide +kernel
theorem dX8_lay_51 : decode cX8_lay 51 = .ok (.invokestatic 110, 3) := by decide +kernel
theorem dX8_lay_54 : decode cX8_lay 54 = .ok (.ifCond .ne 5, 3) := by decide +kernel
theorem dX8_lay_57 : decode cX8_lay 57 = .ok (.iconst 0, 1) := by decide +kernel
theorem dX8_lay_58 : decode cX8_lay 58 = .ok (.ireturn, 1) := by decide +kernel
theorem dX8_lay_59 : decode cX8_lay 59 = .ok (.iload_n 2, 1) := by decide +kernel
theorem dX8_lay_60 : decode cX8_lay 60 = .ok (.tableswitch 58 0 2 #[28, 38, 48], 28) := by decide +kernel
theorem dX8_lay_88 : decode cX8_lay 88 = .ok (.aload_n 0, 1) := by decide +kernel
theorem dX8_lay_89 : decode cX8_lay 89 = .ok (.getfield 16, 3) := by decide +kernel
theorem dX8_lay_92 : decode cX8_lay 92 = .ok (.iload_n 1, 1) := by decide +kernel
theorem dX8_lay_93 : decode cX8_lay 93 = .ok (.iload_n 3, 1) := by decide +kernel
theorem dX8_lay_94 : decode cX8_lay 94 = .ok (.iastore, 1) := by decide +kernel
theorem dX8_lay_95 : decode cX8_lay 95 = .ok (.goto 37, 3) := by decide +kernel
theorem dX8_lay_98 : decode cX8_lay 98 = .ok (.aload_n 0, 1) := by decide +kernel
theorem dX8_lay_99 : decode cX8_lay 99 = .ok (.getfield 19, 3) := by decide +kernel
theorem dX8_lay_102 : decode cX8_lay 102 = .ok (.iload_n 1, 1) := by decide +kernel
theorem dX8_lay_103 : decode cX8_lay 103 = .ok (.iload_n 3, 1) := by decide +kernel
theorem dX8_lay_104 : decode cX8_lay 104 = .ok (.iastore, 1) := by decide +kernel
theorem dX8_lay_105 : decode cX8_lay 105 = .ok (.goto 27, 3) := by decide +kernel
theorem dX8_lay_108 : decode cX8_lay 108 = .ok (.aload_n 0, 1) := by decide +kernel
theorem dX8_lay_109 : decode cX8_lay 109 = .ok (.getfield 22, 3) := by decide +kernel
theorem dX8_lay_112 : decode cX8_lay 112 = .ok (.iload_n 1, 1) := by decide +kernel
theorem dX8_lay_113 : decode cX8_lay 113 = .ok (.iload_n 3, 1) := by decide +kernel
theorem dX8_lay_114 : decode cX8_lay 114 = .ok (.iastore, 1) := by decide +kernel
theorem dX8_lay_115 : decode cX8_lay 115 = .ok (.goto 17, 3) := by decide +kernel
theorem dX8_lay_118 : decode cX8_lay 118 = .ok (.aload_n 0, 1) := by decide +kernel
theorem dX8_lay_119 : decode cX8_lay 119 = .ok (.getfield 25, 3) := by decide +kernel
theorem dX8_lay_122 : decode cX8_lay 122 = .ok (.iload_n 1, 1) := by decide +kernel
theorem dX8_lay_123 : decode cX8_lay 123 = .ok (.iload_n 3, 1) := by decide +kernel
theorem dX8_lay_124 : decode cX8_lay 124 = .ok (.iastore, 1) := by decide +kernel
theorem dX8_lay_125 : decode cX8_lay 125 = .ok (.aload_n 0, 1) := by decide +kernel
theorem dX8_lay_126 : decode cX8_lay 126 = .ok (.getfield 28, 3) := by decide +kernel
theorem dX8_lay_129 : decode cX8_lay 129 = .ok (.iload_n 1, 1) := by decide +kernel
theorem dX8_lay_130 : decode cX8_lay 130 = .ok (.iconst (-1), 1) := by decide +kernel
theorem dX8_lay_131 : decode cX8_lay 131 = .ok (.iastore, 1) := by decide +kernel
theorem dX8_lay_132 : decode cX8_lay 132 = .ok (.iconst 1, 1) := by decide +kernel
theorem dX8_lay_133 : decode cX8_lay 133 = .ok (.ireturn, 1) := by decide +kernel
theorem dX8_rules_0 : decode cX8_rules 0 = .ok (.iload_n 1, 1) := by decide +kernel
theorem dX8_rules_1 : decode cX8_rules 1 = .ok (.iconst 1, 1) := by decide +kernel
theorem dX8_rules_2 : decode cX8_rules 2 = .ok (.iconst 5, 1) := by decide +kernel
theorem dX8_rules_3 : decode cX8_rules 3 = .ok (.invokestatic 110, 3) := by decide +kernel
theorem dX8_rules_6 : decode cX8_rules 6 = .ok (.ifCond .eq 45, 3) := by decide +kernel
theorem dX8_rules_9 : decode cX8_rules 9 = .ok (.iload_n 2, 1) := by decide +kernel
theorem dX8_rules_10 : decode cX8_rules 10 = .ok (.iconst 0, 1) := by decide +kernel
theorem dX8_rules_11 : decode cX8_rules 11 = .ok (.bipush 100, 2) := by decide +kernel
theorem dX8_rules_13 : decode cX8_rules 13 = .ok (.invokestatic 110, 3) := by decide +kernel
theorem dX8_rules_16 : decode cX8_rules 16 = .ok (.ifCond .eq 35, 3) := by decide +kernel
theorem dX8_rules_19 : decode cX8_rules 19 = .ok (.iload_n 3, 1) := by decide +kernel
theorem dX8_rules_20 : decode cX8_rules 20 = .ok (.iconst 0, 1) := by decide +kernel
theorem dX8_rules_21 : decode cX8_rules 21 = .ok (.bipush 100, 2) := by decide +kernel
theorem dX8_rules_23 : decode cX8_rules 23 = .ok (.invokestatic 110, 3) := by decide +kernel
theorem dX8_rules_26 : decode cX8_rules 26 = .ok (.ifCond .eq 25, 3) := by decide +kernel
theorem dX8_rules_29 : decode cX8_rules 29 = .ok (.iload 4, 2) := by decide +kernel
theorem dX8_rules_31 : decode cX8_rules 31 = .ok (.iconst 1, 1) := by decide +kernel
theorem dX8_rules_32 : decode cX8_rules 32 = .ok (.bipush 9, 2) := by decide +kernel
theorem dX8_rules_34 : decode cX8_rules 34 = .ok (.invokestatic 110, 3) := by decide +kernel
theorem dX8_rules_37 : decode cX8_rules 37 = .ok (.ifCond .eq 14, 3) := by decide +kernel
theorem dX8_rules_40 : decode cX8_rules 40 = .ok (.iload 5, 2) := by decide +kernel
theorem dX8_rules_42 : decode cX8_rules 42 = .ok (.iconst 0, 1) := by decide +kernel
theorem dX8_rules_43 : decode cX8_rules 43 = .ok (.bipush 20, 2) := by decide +kernel
theorem dX8_rules_45 : decode cX8_rules 45 = .ok (.invokestatic 110, 3) := by decide +kernel
theorem dX8_rules_48 : decode cX8_rules 48 = .ok (.ifCond .ne 5, 3) := by decide +kernel
theorem dX8_rules_51 : decode cX8_rules 51 = .ok (.iconst 0, 1) := by decide +kernel
theorem dX8_rules_52 : decode cX8_rules 52 = .ok (.ireturn, 1) := by decide +kernel
theorem dX8_rules_53 : decode cX8_rules 53 = .ok (.aload_n 0, 1) := by decide +kernel
theorem dX8_rules_54 : decode cX8_rules 54 = .ok (.getfield 31, 3) := by decide +kernel
theorem dX8_rules_57 : decode cX8_rules 57 = .ok (.iconst 0, 1) := by decide +kernel
theorem dX8_rules_58 : decode cX8_rules 58 = .ok (.iload_n 1, 1) := by decide +kernel
theorem dX8_rules_59 : decode cX8_rules 59 = .ok (.iastore, 1) := by decide +kernel
theorem dX8_rules_60 : decode cX8_rules 60 = .ok (.aload_n 0, 1) := by decide +kernel
theorem dX8_rules_61 : decode cX8_rules 61 = .ok (.getfield 31, 3) := by decide +kernel
theorem dX8_rules_64 : decode cX8_rules 64 = .ok (.iconst 1, 1) := by decide +kernel
theorem dX8_rules_65 : decode cX8_rules 65 = .ok (.iload_n 2, 1) := by decide +kernel
theorem dX8_rules_66 : decode cX8_rules 66 = .ok (.iastore, 1) := by decide +kernel
theorem dX8_rules_67 : decode cX8_rules 67 = .ok (.aload_n 0, 1) := by decide +kernel
theorem dX8_rules_68 : decode cX8_rules 68 = .ok (.getfield 31, 3) := by decide +kernel
theorem dX8_rules_71 : decode cX8_rules 71 = .ok (.iconst 2, 1) := by decide +kernel
theorem dX8_rules_72 : decode cX8_rules 72 = .ok (.iload_n 3, 1) := by decide +kernel
theorem dX8_rules_73 : decode cX8_rules 73 = .ok (.iastore, 1) := by decide +kernel
theorem dX8_rules_74 : decode cX8_rules 74 = .ok (.aload_n 0, 1) := by decide +kernel
theorem dX8_rules_75 : decode cX8_rules 75 = .ok (.getfield 31, 3) := by decide +kernel
theorem dX8_rules_78 : decode cX8_rules 78 = .ok (.iconst 3, 1) := by decide +kernel
theorem dX8_rules_79 : decode cX8_rules 79 = .ok (.iload 4, 2) := by decide +kernel
theorem dX8_rules_81 : decode cX8_rules 81 = .ok (.iastore, 1) := by decide +kernel
theorem dX8_rules_82 : decode cX8_rules 82 = .ok (.aload_n 0, 1) := by decide +kernel
theorem dX8_rules_83 : decode cX8_rules 83 = .ok (.getfield 31, 3) := by decide +kernel
theorem dX8_rules_86 : decode cX8_rules 86 = .ok (.iconst 4, 1) := by decide +kernel
theorem dX8_rules_87 : decode cX8_rules 87 = .ok (.iload 5, 2) := by decide +kernel
theorem dX8_rules_89 : decode cX8_rules 89 = .ok (.iastore, 1) := by decide +kernel
theorem dX8_rules_90 : decode cX8_rules 90 = .ok (.aload_n 0, 1) := by decide +kernel
theorem dX8_rules_91 : decode cX8_rules 91 = .ok (.invokevirtual 159, 3) := by decide +kernel
theorem dX8_rules_94 : decode cX8_rules 94 = .ok (.iconst 1, 1) := by decide +kernel
theorem dX8_rules_95 : decode cX8_rules 95 = .ok (.ireturn, 1) := by decide +kernel
theorem dX8_seed_0 : decode cX8_seed 0 = .ok (.aload_n 0, 1) := by decide +kernel
theorem dX8_seed_1 : decode cX8_seed 1 = .ok (.iload_n 1, 1) := by decide +kernel
theorem dX8_seed_2 : decode cX8_seed 2 = .ok (.putfield 34, 3) := by decide +kernel
theorem dX8_seed_5 : decode cX8_seed 5 = .ok (.return_, 1) := by decide +kernel
theorem dX8_put_0 : decode cX8_put 0 = .ok (.aload_n 0, 1) := by decide +kernel
theorem dX8_put_1 : decode cX8_put 1 = .ok (.getfield 44, 3) := by decide +kernel
theorem dX8_put_4 : decode cX8_put 4 = .ok (.aload_n 0, 1) := by decide +kernel
theorem dX8_put_5 : decode cX8_put 5 = .ok (.getfield 162, 3) := by decide +kernel
theorem dX8_put_8 : decode cX8_put 8 = .ok (.iload_n 1, 1) := by decide +kernel
theorem dX8_put_9 : decode cX8_put 9 = .ok (.bipush 24, 2) := by decide +kernel
theorem dX8_put_11 : decode cX8_put 11 = .ok (.ishr, 1) := by decide +kernel
theorem dX8_put_12 : decode cX8_put 12 = .ok (.i2b, 1) := by decide +kernel
theorem dX8_put_13 : decode cX8_put 13 = .ok (.bastore, 1) := by decide +kernel
theorem dX8_put_14 : decode cX8_put 14 = .ok (.aload_n 0, 1) := by decide +kernel
theorem dX8_put_15 : decode cX8_put 15 = .ok (.getfield 44, 3) := by decide +kernel
theorem dX8_put_18 : decode cX8_put 18 = .ok (.aload_n 0, 1) := by decide +kernel
theorem dX8_put_19 : decode cX8_put 19 = .ok (.getfield 162, 3) := by decide +kernel
theorem dX8_put_22 : decode cX8_put 22 = .ok (.iconst 1, 1) := by decide +kernel
theorem dX8_put_23 : decode cX8_put 23 = .ok (.iadd, 1) := by decide +kernel
theorem dX8_put_24 : decode cX8_put 24 = .ok (.iload_n 1, 1) := by decide +kernel
theorem dX8_put_25 : decode cX8_put 25 = .ok (.bipush 16, 2) := by decide +kernel
theorem dX8_put_27 : decode cX8_put 27 = .ok (.ishr, 1) := by decide +kernel
theorem dX8_put_28 : decode cX8_put 28 = .ok (.i2b, 1) := by decide +kernel
theorem dX8_put_29 : decode cX8_put 29 = .ok (.bastore, 1) := by decide +kernel
theorem dX8_put_30 : decode cX8_put 30 = .ok (.aload_n 0, 1) := by decide +kernel
theorem dX8_put_31 : decode cX8_put 31 = .ok (.getfield 44, 3) := by decide +kernel
theorem dX8_put_34 : decode cX8_put 34 = .ok (.aload_n 0, 1) := by decide +kernel
theorem dX8_put_35 : decode cX8_put 35 = .ok (.getfield 162, 3) := by decide +kernel
theorem dX8_put_38 : decode cX8_put 38 = .ok (.iconst 2, 1) := by decide +kernel
theorem dX8_put_39 : decode cX8_put 39 = .ok (.iadd, 1) := by decide +kernel
theorem dX8_put_40 : decode cX8_put 40 = .ok (.iload_n 1, 1) := by decide +kernel
theorem dX8_put_41 : decode cX8_put 41 = .ok (.bipush 8, 2) := by decide +kernel
theorem dX8_put_43 : decode cX8_put 43 = .ok (.ishr, 1) := by decide +kernel
theorem dX8_put_44 : decode cX8_put 44 = .ok (.i2b, 1) := by decide +kernel
theorem dX8_put_45 : decode cX8_put 45 = .ok (.bastore, 1) := by decide +kernel
theorem dX8_put_46 : decode cX8_put 46 = .ok (.aload_n 0, 1) := by decide +kernel
theorem dX8_put_47 : decode cX8_put 47 = .ok (.getfield 44, 3) := by decide +kernel
theorem dX8_put_50 : decode cX8_put 50 = .ok (.aload_n 0, 1) := by decide +kernel
theorem dX8_put_51 : decode cX8_put 51 = .ok (.getfield 162, 3) := by decide +kernel
theorem dX8_put_54 : decode cX8_put 54 = .ok (.iconst 3, 1) := by decide +kernel
theorem dX8_put_55 : decode cX8_put 55 = .ok (.iadd, 1) := by decide +kernel
theorem dX8_put_56 : decode cX8_put 56 = .ok (.iload_n 1, 1) := by decide +kernel
theorem dX8_put_57 : decode cX8_put 57 = .ok (.i2b, 1) := by decide +kernel
theorem dX8_put_58 : decode cX8_put 58 = .ok (.bastore, 1) := by decide +kernel
theorem dX8_put_59 : decode cX8_put 59 = .ok (.aload_n 0, 1) := by decide +kernel
theorem dX8_put_60 : decode cX8_put 60 = .ok (.dup, 1) := by decide +kernel
theorem dX8_put_61 : decode cX8_put 61 = .ok (.getfield 162, 3) := by decide +kernel
theorem dX8_put_64 : decode cX8_put 64 = .ok (.iconst 4, 1) := by decide +kernel
theorem dX8_put_65 : decode cX8_put 65 = .ok (.iadd, 1) := by decide +kernel
theorem dX8_put_66 : decode cX8_put 66 = .ok (.putfield 162, 3) := by decide +kernel
theorem dX8_put_69 : decode cX8_put 69 = .ok (.return_, 1) := by decide +kernel
theorem dX8_feed_0 : decode cX8_feed 0 = .ok (.aload_n 0, 1) := by decide +kernel
theorem dX8_feed_1 : decode cX8_feed 1 = .ok (.getfield 162, 3) := by decide +kernel
theorem dX8_feed_4 : decode cX8_feed 4 = .ok (.bipush 20, 2) := by decide +kernel
theorem dX8_feed_6 : decode cX8_feed 6 = .ok (.iadd, 1) := by decide +kernel
theorem dX8_feed_7 : decode cX8_feed 7 = .ok (.sipush 200, 3) := by decide +kernel
theorem dX8_feed_10 : decode cX8_feed 10 = .ok (.if_icmp .le 5, 3) := by decide +kernel
theorem dX8_feed_13 : decode cX8_feed 13 = .ok (.iconst (-1), 1) := by decide +kernel
theorem dX8_feed_14 : decode cX8_feed 14 = .ok (.ireturn, 1) := by decide +kernel
theorem dX8_feed_15 : decode cX8_feed 15 = .ok (.aload_n 0, 1) := by decide +kernel
theorem dX8_feed_16 : decode cX8_feed 16 = .ok (.iload_n 1, 1) := by decide +kernel
theorem dX8_feed_17 : decode cX8_feed 17 = .ok (.invokevirtual 165, 3) := by decide +kernel
theorem dX8_feed_20 : decode cX8_feed 20 = .ok (.aload_n 0, 1) := by decide +kernel
theorem dX8_feed_21 : decode cX8_feed 21 = .ok (.iload_n 2, 1) := by decide +kernel
theorem dX8_feed_22 : decode cX8_feed 22 = .ok (.invokevirtual 165, 3) := by decide +kernel
theorem dX8_feed_25 : decode cX8_feed 25 = .ok (.aload_n 0, 1) := by decide +kernel
theorem dX8_feed_26 : decode cX8_feed 26 = .ok (.iload_n 3, 1) := by decide +kernel
theorem dX8_feed_27 : decode cX8_feed 27 = .ok (.invokevirtual 165, 3) := by decide +kernel
theorem dX8_feed_30 : decode cX8_feed 30 = .ok (.aload_n 0, 1) := by decide +kernel
theorem dX8_feed_31 : decode cX8_feed 31 = .ok (.iload 4, 2) := by decide +kernel
theorem dX8_feed_33 : decode cX8_feed 33 = .ok (.invokevirtual 165, 3) := by decide +kernel
theorem dX8_feed_36 : decode cX8_feed 36 = .ok (.aload_n 0, 1) := by decide +kernel
theorem dX8_feed_37 : decode cX8_feed 37 = .ok (.iload 5, 2) := by decide +kernel
theorem dX8_feed_39 : decode cX8_feed 39 = .ok (.invokevirtual 165, 3) := by decide +kernel
theorem dX8_feed_42 : decode cX8_feed 42 = .ok (.aload_n 0, 1) := by decide +kernel
theorem dX8_feed_43 : decode cX8_feed 43 = .ok (.getfield 162, 3) := by decide +kernel
theorem dX8_feed_46 : decode cX8_feed 46 = .ok (.ireturn, 1) := by decide +kernel
theorem dX8_end_0 : decode cX8_end 0 = .ok (.iload_n 1, 1) := by decide +kernel
theorem dX8_end_1 : decode cX8_end 1 = .ok (.iconst 0, 1) := by decide +kernel
theorem dX8_end_2 : decode cX8_end 2 = .ok (.aload_n 0, 1) := by decide +kernel
theorem dX8_end_3 : decode cX8_end 3 = .ok (.getfield 162, 3) := by decide +kernel
theorem dX8_end_6 : decode cX8_end 6 = .ok (.invokestatic 110, 3) := by decide +kernel
theorem dX8_end_9 : decode cX8_end 9 = .ok (.ifCond .ne 5, 3) := by decide +kernel
theorem dX8_end_12 : decode cX8_end 12 = .ok (.iconst (-1), 1) := by decide +kernel
theorem dX8_end_13 : decode cX8_end 13 = .ok (.ireturn, 1) := by decide +kernel
theorem dX8_end_14 : decode cX8_end 14 = .ok (.aload_n 0, 1) := by decide +kernel
theorem dX8_end_15 : decode cX8_end 15 = .ok (.iload_n 1, 1) := by decide +kernel
theorem dX8_end_16 : decode cX8_end 16 = .ok (.putfield 162, 3) := by decide +kernel
theorem dX8_end_19 : decode cX8_end 19 = .ok (.iload_n 1, 1) := by decide +kernel
theorem dX8_end_20 : decode cX8_end 20 = .ok (.ireturn, 1) := by decide +kernel
theorem dX8_isLetter_0 : decode cX8_isLetter 0 = .ok (.iload_n 0, 1) := by decide +kernel
theorem dX8_isLetter_1 : decode cX8_isLetter 1 = .ok (.bipush 97, 2) := by decide +kernel
theorem dX8_isLetter_3 : decode cX8_isLetter 3 = .ok (.bipush 122, 2) := by decide +kernel
theorem dX8_isLetter_5 : decode cX8_isLetter 5 = .ok (.invokestatic 110, 3) := by decide +kernel
theorem dX8_isLetter_8 : decode cX8_isLetter 8 = .ok (.ifCond .ne 14, 3) := by decide +kernel
theorem dX8_isLetter_11 : decode cX8_isLetter 11 = .ok (.iload_n 0, 1) := by decide +kernel
theorem dX8_isLetter_12 : decode cX8_isLetter 12 = .ok (.bipush 65, 2) := by decide +kernel
theorem dX8_isLetter_14 : decode cX8_isLetter 14 = .ok (.bipush 90, 2) := by decide +kernel
theorem dX8_isLetter_16 : decode cX8_isLetter 16 = .ok (.invokestatic 110, 3) := by decide +kernel
theorem dX8_isLetter_19 : decode cX8_isLetter 19 = .ok (.ifCond .eq 7, 3) := by decide +kernel
theorem dX8_isLetter_22 : decode cX8_isLetter 22 = .ok (.iconst 1, 1) := by decide +kernel
theorem dX8_isLetter_23 : decode cX8_isLetter 23 = .ok (.goto 4, 3) := by decide +kernel
theorem dX8_isLetter_26 : decode cX8_isLetter 26 = .ok (.iconst 0, 1) := by decide +kernel
theorem dX8_isLetter_27 : decode cX8_isLetter 27 = .ok (.ireturn, 1) := by decide +kernel
theorem dX8_wordOf_0 : decode cX8_wordOf 0 = .ok (.lload_n 0, 1) := by decide +kernel
theorem dX8_wordOf_1 : decode cX8_wordOf 1 = .ok (.ldc2_w 168, 3) := by decide +kernel
theorem dX8_wordOf_4 : decode cX8_wordOf 4 = .ok (.lcmp, 1) := by decide +kernel
theorem dX8_wordOf_5 : decode cX8_wordOf 5 = .ok (.ifCond .ne 5, 3) := by decide +kernel
theorem dX8_wordOf_8 : decode cX8_wordOf 8 = .ok (.iconst 0, 1) := by decide +kernel
theorem dX8_wordOf_9 : decode cX8_wordOf 9 = .ok (.ireturn, 1) := by decide +kernel
theorem dX8_wordOf_10 : decode cX8_wordOf 10 = .ok (.lload_n 0, 1) := by decide +kernel
theorem dX8_wordOf_11 : decode cX8_wordOf 11 = .ok (.ldc2_w 170, 3) := by decide +kernel
theorem dX8_wordOf_14 : decode cX8_wordOf 14 = .ok (.lcmp, 1) := by decide +kernel
theorem dX8_wordOf_15 : decode cX8_wordOf 15 = .ok (.ifCond .ne 5, 3) := by decide +kernel
theorem dX8_wordOf_18 : decode cX8_wordOf 18 = .ok (.iconst 1, 1) := by decide +kernel
theorem dX8_wordOf_19 : decode cX8_wordOf 19 = .ok (.ireturn, 1) := by decide +kernel
theorem dX8_wordOf_20 : decode cX8_wordOf 20 = .ok (.lload_n 0, 1) := by decide +kernel
theorem dX8_wordOf_21 : decode cX8_wordOf 21 = .ok (.ldc2_w 172, 3) := by decide +kernel
theorem dX8_wordOf_24 : decode cX8_wordOf 24 = .ok (.lcmp, 1) := by decide +kernel
theorem dX8_wordOf_25 : decode cX8_wordOf 25 = .ok (.ifCond .ne 5, 3) := by decide +kernel
theorem dX8_wordOf_28 : decode cX8_wordOf 28 = .ok (.iconst 2, 1) := by decide +kernel
theorem dX8_wordOf_29 : decode cX8_wordOf 29 = .ok (.ireturn, 1) := by decide +kernel
theorem dX8_wordOf_30 : decode cX8_wordOf 30 = .ok (.lload_n 0, 1) := by decide +kernel
theorem dX8_wordOf_31 : decode cX8_wordOf 31 = .ok (.ldc2_w 174, 3) := by decide +kernel
theorem dX8_wordOf_34 : decode cX8_wordOf 34 = .ok (.lcmp, 1) := by decide +kernel
theorem dX8_wordOf_35 : decode cX8_wordOf 35 = .ok (.ifCond .ne 5, 3) := by decide +kernel
theorem dX8_wordOf_38 : decode cX8_wordOf 38 = .ok (.iconst 3, 1) := by decide +kernel
theorem dX8_wordOf_39 : decode cX8_wordOf 39 = .ok (.ireturn, 1) := by decide +kernel
theorem dX8_wordOf_40 : decode cX8_wordOf 40 = .ok (.lload_n 0, 1) := by decide +kernel
theorem dX8_wordOf_41 : decode cX8_wordOf 41 = .ok (.ldc2_w 176, 3) := by decide +kernel
theorem dX8_wordOf_44 : decode cX8_wordOf 44 = .ok (.lcmp, 1) := by decide +kernel
theorem dX8_wordOf_45 : decode cX8_wordOf 45 = .ok (.ifCond .ne 5, 3) := by decide +kernel
theorem dX8_wordOf_48 : decode cX8_wordOf 48 = .ok (.iconst 4, 1) := by decide +kernel
theorem dX8_wordOf_49 : decode cX8_wordOf 49 = .ok (.ireturn, 1) := by decide +kernel
theorem dX8_wordOf_50 : decode cX8_wordOf 50 = .ok (.iconst (-1), 1) := by decide +kernel
theorem dX8_wordOf_51 : decode cX8_wordOf 51 = .ok (.ireturn, 1) := by decide +kernel
theorem dX8_next_0 : decode cX8_next 0 = .ok (.aload_n 0, 1) := by decide +kernel
theorem dX8_next_1 : decode cX8_next 1 = .ok (.getfield 178, 3) := by decide +kernel
theorem dX8_next_4 : decode cX8_next 4 = .ok (.iload_n 1, 1) := by decide +kernel
theorem dX8_next_5 : decode cX8_next 5 = .ok (.if_icmp .ge 30, 3) := by decide +kernel
theorem dX8_next_8 : decode cX8_next 8 = .ok (.aload_n 0, 1) := by decide +kernel
theorem dX8_next_9 : decode cX8_next 9 = .ok (.getfield 44, 3) := by decide +kernel
theorem dX8_next_12 : decode cX8_next 12 = .ok (.aload_n 0, 1) := by decide +kernel
theorem dX8_next_13 : decode cX8_next 13 = .ok (.getfield 178, 3) := by decide +kernel
theorem dX8_next_16 : decode cX8_next 16 = .ok (.baload, 1) := by decide +kernel
theorem dX8_next_17 : decode cX8_next 17 = .ok (.bipush 32, 2) := by decide +kernel
theorem dX8_next_19 : decode cX8_next 19 = .ok (.if_icmp .ne 16, 3) := by decide +kernel
theorem dX8_next_22 : decode cX8_next 22 = .ok (.aload_n 0, 1) := by decide +kernel
theorem dX8_next_23 : decode cX8_next 23 = .ok (.dup, 1) := by decide +kernel
theorem dX8_next_24 : decode cX8_next 24 = .ok (.getfield 178, 3) := by decide +kernel
theorem dX8_next_27 : decode cX8_next 27 = .ok (.iconst 1, 1) := by decide +kernel
theorem dX8_next_28 : decode cX8_next 28 = .ok (.iadd, 1) := by decide +kernel
theorem dX8_next_29 : decode cX8_next 29 = .ok (.putfield 178, 3) := by decide +kernel
theorem dX8_next_32 : decode cX8_next 32 = .ok (.goto (-32), 3) := by decide +kernel
theorem dX8_next_35 : decode cX8_next 35 = .ok (.aload_n 0, 1) := by decide +kernel
theorem dX8_next_36 : decode cX8_next 36 = .ok (.aload_n 0, 1) := by decide +kernel
theorem dX8_next_37 : decode cX8_next 37 = .ok (.getfield 178, 3) := by decide +kernel
theorem dX8_next_40 : decode cX8_next 40 = .ok (.putfield 181, 3) := by decide +kernel
theorem dX8_next_43 : decode cX8_next 43 = .ok (.aload_n 0, 1) := by decide +kernel
theorem dX8_next_44 : decode cX8_next 44 = .ok (.getfield 178, 3) := by decide +kernel
theorem dX8_next_47 : decode cX8_next 47 = .ok (.iload_n 1, 1) := by decide +kernel
theorem dX8_next_48 : decode cX8_next 48 = .ok (.if_icmp .ne 9, 3) := by decide +kernel
theorem dX8_next_51 : decode cX8_next 51 = .ok (.aload_n 0, 1) := by decide +kernel
theorem dX8_next_52 : decode cX8_next 52 = .ok (.iconst 0, 1) := by decide +kernel
theorem dX8_next_53 : decode cX8_next 53 = .ok (.putfield 184, 3) := by decide +kernel
theorem dX8_next_56 : decode cX8_next 56 = .ok (.return_, 1) := by decide +kernel
theorem dX8_next_57 : decode cX8_next 57 = .ok (.aload_n 0, 1) := by decide +kernel
theorem dX8_next_58 : decode cX8_next 58 = .ok (.getfield 44, 3) := by decide +kernel
theorem dX8_next_61 : decode cX8_next 61 = .ok (.aload_n 0, 1) := by decide +kernel
theorem dX8_next_62 : decode cX8_next 62 = .ok (.getfield 178, 3) := by decide +kernel
theorem dX8_next_65 : decode cX8_next 65 = .ok (.baload, 1) := by decide +kernel
theorem dX8_next_66 : decode cX8_next 66 = .ok (.istore_n 2, 1) := by decide +kernel
theorem dX8_next_67 : decode cX8_next 67 = .ok (.iload_n 2, 1) := by decide +kernel
theorem dX8_next_68 : decode cX8_next 68 = .ok (.invokestatic 187, 3) := by decide +kernel
theorem dX8_next_71 : decode cX8_next 71 = .ok (.ifCond .eq 117, 3) := by decide +kernel
theorem dX8_next_74 : decode cX8_next 74 = .ok (.lconst 0, 1) := by decide +kernel
theorem dX8_next_75 : decode cX8_next 75 = .ok (.lstore_n 3, 1) := by decide +kernel
theorem dX8_next_76 : decode cX8_next 76 = .ok (.iconst 0, 1) := by decide +kernel
theorem dX8_next_77 : decode cX8_next 77 = .ok (.istore 5, 2) := by decide +kernel
theorem dX8_next_79 : decode cX8_next 79 = .ok (.aload_n 0, 1) := by decide +kernel
theorem dX8_next_80 : decode cX8_next 80 = .ok (.getfield 178, 3) := by decide +kernel
theorem dX8_next_83 : decode cX8_next 83 = .ok (.iload_n 1, 1) := by decide +kernel
theorem dX8_next_84 : decode cX8_next 84 = .ok (.if_icmp .ge 66, 3) := by decide +kernel
theorem dX8_next_87 : decode cX8_next 87 = .ok (.aload_n 0, 1) := by decide +kernel
theorem dX8_next_88 : decode cX8_next 88 = .ok (.getfield 44, 3) := by decide +kernel
theorem dX8_next_91 : decode cX8_next 91 = .ok (.aload_n 0, 1) := by decide +kernel
theorem dX8_next_92 : decode cX8_next 92 = .ok (.getfield 178, 3) := by decide +kernel
theorem dX8_next_95 : decode cX8_next 95 = .ok (.baload, 1) := by decide +kernel
theorem dX8_next_96 : decode cX8_next 96 = .ok (.invokestatic 187, 3) := by decide +kernel
theorem dX8_next_99 : decode cX8_next 99 = .ok (.ifCond .eq 51, 3) := by decide +kernel
theorem dX8_next_102 : decode cX8_next 102 = .ok (.iload 5, 2) := by decide +kernel
theorem dX8_next_104 : decode cX8_next 104 = .ok (.bipush 8, 2) := by decide +kernel
theorem dX8_next_106 : decode cX8_next 106 = .ok (.if_icmp .ge 26, 3) := by decide +kernel
theorem dX8_next_109 : decode cX8_next 109 = .ok (.ldc2_w 190, 3) := by decide +kernel
theorem dX8_next_112 : decode cX8_next 112 = .ok (.lload_n 3, 1) := by decide +kernel
theorem dX8_next_113 : decode cX8_next 113 = .ok (.lmul, 1) := by decide +kernel
theorem dX8_next_114 : decode cX8_next 114 = .ok (.aload_n 0, 1) := by decide +kernel
theorem dX8_next_115 : decode cX8_next 115 = .ok (.getfield 44, 3) := by decide +kernel
theorem dX8_next_118 : decode cX8_next 118 = .ok (.aload_n 0, 1) := by decide +kernel
theorem dX8_next_119 : decode cX8_next 119 = .ok (.getfield 178, 3) := by decide +kernel
theorem dX8_next_122 : decode cX8_next 122 = .ok (.baload, 1) := by decide +kernel
theorem dX8_next_123 : decode cX8_next 123 = .ok (.i2l, 1) := by decide +kernel
theorem dX8_next_124 : decode cX8_next 124 = .ok (.ladd, 1) := by decide +kernel
theorem dX8_next_125 : decode cX8_next 125 = .ok (.ldc2_w 190, 3) := by decide +kernel
theorem dX8_next_128 : decode cX8_next 128 = .ok (.lsub, 1) := by decide +kernel
theorem dX8_next_129 : decode cX8_next 129 = .ok (.goto 4, 3) := by decide +kernel
theorem dX8_next_132 : decode cX8_next 132 = .ok (.lload_n 3, 1) := by decide +kernel
theorem dX8_next_133 : decode cX8_next 133 = .ok (.lstore_n 3, 1) := by decide +kernel
theorem dX8_next_134 : decode cX8_next 134 = .ok (.iinc 5 1, 3) := by decide +kernel
theorem dX8_next_137 : decode cX8_next 137 = .ok (.aload_n 0, 1) := by decide +kernel
theorem dX8_next_138 : decode cX8_next 138 = .ok (.dup, 1) := by decide +kernel
theorem dX8_next_139 : decode cX8_next 139 = .ok (.getfield 178, 3) := by decide +kernel
theorem dX8_next_142 : decode cX8_next 142 = .ok (.iconst 1, 1) := by decide +kernel
theorem dX8_next_143 : decode cX8_next 143 = .ok (.iadd, 1) := by decide +kernel
theorem dX8_next_144 : decode cX8_next 144 = .ok (.putfield 178, 3) := by decide +kernel
theorem dX8_next_147 : decode cX8_next 147 = .ok (.goto (-68), 3) := by decide +kernel
theorem dX8_next_150 : decode cX8_next 150 = .ok (.aload_n 0, 1) := by decide +kernel
theorem dX8_next_151 : decode cX8_next 151 = .ok (.iload 5, 2) := by decide +kernel
theorem dX8_next_153 : decode cX8_next 153 = .ok (.bipush 7, 2) := by decide +kernel
theorem dX8_next_155 : decode cX8_next 155 = .ok (.if_icmp .le 7, 3) := by decide +kernel
theorem dX8_next_158 : decode cX8_next 158 = .ok (.iconst (-1), 1) := by decide +kernel
theorem dX8_next_159 : decode cX8_next 159 = .ok (.goto 7, 3) := by decide +kernel
theorem dX8_next_162 : decode cX8_next 162 = .ok (.lload_n 3, 1) := by decide +kernel
theorem dX8_next_163 : decode cX8_next 163 = .ok (.invokestatic 192, 3) := by decide +kernel
theorem dX8_next_166 : decode cX8_next 166 = .ok (.putfield 196, 3) := by decide +kernel
theorem dX8_next_169 : decode cX8_next 169 = .ok (.aload_n 0, 1) := by decide +kernel
theorem dX8_next_170 : decode cX8_next 170 = .ok (.aload_n 0, 1) := by decide +kernel
theorem dX8_next_171 : decode cX8_next 171 = .ok (.getfield 196, 3) := by decide +kernel
theorem dX8_next_174 : decode cX8_next 174 = .ok (.ifCond .ge 7, 3) := by decide +kernel
theorem dX8_next_177 : decode cX8_next 177 = .ok (.iconst 4, 1) := by decide +kernel
theorem dX8_next_178 : decode cX8_next 178 = .ok (.goto 4, 3) := by decide +kernel
theorem dX8_next_181 : decode cX8_next 181 = .ok (.iconst 1, 1) := by decide +kernel
theorem dX8_next_182 : decode cX8_next 182 = .ok (.putfield 184, 3) := by decide +kernel
theorem dX8_next_185 : decode cX8_next 185 = .ok (.goto 129, 3) := by decide +kernel
theorem dX8_next_188 : decode cX8_next 188 = .ok (.iload_n 2, 1) := by decide +kernel
theorem dX8_next_189 : decode cX8_next 189 = .ok (.bipush 48, 2) := by decide +kernel
theorem dX8_next_191 : decode cX8_next 191 = .ok (.bipush 57, 2) := by decide +kernel
theorem dX8_next_193 : decode cX8_next 193 = .ok (.invokestatic 110, 3) := by decide +kernel
theorem dX8_next_196 : decode cX8_next 196 = .ok (.ifCond .eq 93, 3) := by decide +kernel
theorem dX8_next_199 : decode cX8_next 199 = .ok (.aload_n 0, 1) := by decide +kernel
theorem dX8_next_200 : decode cX8_next 200 = .ok (.iconst 2, 1) := by decide +kernel
theorem dX8_next_201 : decode cX8_next 201 = .ok (.putfield 184, 3) := by decide +kernel
theorem dX8_next_204 : decode cX8_next 204 = .ok (.aload_n 0, 1) := by decide +kernel
theorem dX8_next_205 : decode cX8_next 205 = .ok (.iconst 0, 1) := by decide +kernel
theorem dX8_next_206 : decode cX8_next 206 = .ok (.putfield 196, 3) := by decide +kernel
theorem dX8_next_209 : decode cX8_next 209 = .ok (.aload_n 0, 1) := by decide +kernel
theorem dX8_next_210 : decode cX8_next 210 = .ok (.getfield 178, 3) := by decide +kernel
theorem dX8_next_213 : decode cX8_next 213 = .ok (.iload_n 1, 1) := by decide +kernel
theorem dX8_next_214 : decode cX8_next 214 = .ok (.if_icmp .ge 100, 3) := by decide +kernel
theorem dX8_next_217 : decode cX8_next 217 = .ok (.aload_n 0, 1) := by decide +kernel
theorem dX8_next_218 : decode cX8_next 218 = .ok (.getfield 44, 3) := by decide +kernel
theorem dX8_next_221 : decode cX8_next 221 = .ok (.aload_n 0, 1) := by decide +kernel
theorem dX8_next_222 : decode cX8_next 222 = .ok (.getfield 178, 3) := by decide +kernel
theorem dX8_next_225 : decode cX8_next 225 = .ok (.baload, 1) := by decide +kernel
theorem dX8_next_226 : decode cX8_next 226 = .ok (.bipush 48, 2) := by decide +kernel
theorem dX8_next_228 : decode cX8_next 228 = .ok (.bipush 57, 2) := by decide +kernel
theorem dX8_next_230 : decode cX8_next 230 = .ok (.invokestatic 110, 3) := by decide +kernel
theorem dX8_next_233 : decode cX8_next 233 = .ok (.ifCond .eq 81, 3) := by decide +kernel
theorem dX8_next_236 : decode cX8_next 236 = .ok (.aload_n 0, 1) := by decide +kernel
theorem dX8_next_237 : decode cX8_next 237 = .ok (.aload_n 0, 1) := by decide +kernel
theorem dX8_next_238 : decode cX8_next 238 = .ok (.getfield 196, 3) := by decide +kernel
theorem dX8_next_241 : decode cX8_next 241 = .ok (.ldc 199, 2) := by decide +kernel
theorem dX8_next_243 : decode cX8_next 243 = .ok (.if_icmp .le 10, 3) := by decide +kernel
theorem dX8_next_246 : decode cX8_next 246 = .ok (.aload_n 0, 1) := by decide +kernel
theorem dX8_next_247 : decode cX8_next 247 = .ok (.getfield 196, 3) := by decide +kernel
theorem dX8_next_250 : decode cX8_next 250 = .ok (.goto 23, 3) := by decide +kernel
theorem dX8_next_253 : decode cX8_next 253 = .ok (.bipush 10, 2) := by decide +kernel
theorem dX8_next_255 : decode cX8_next 255 = .ok (.aload_n 0, 1) := by decide +kernel
theorem dX8_next_256 : decode cX8_next 256 = .ok (.getfield 196, 3) := by decide +kernel
theorem dX8_next_259 : decode cX8_next 259 = .ok (.imul, 1) := by decide +kernel
theorem dX8_next_260 : decode cX8_next 260 = .ok (.aload_n 0, 1) := by decide +kernel
theorem dX8_next_261 : decode cX8_next 261 = .ok (.getfield 44, 3) := by decide +kernel
theorem dX8_next_264 : decode cX8_next 264 = .ok (.aload_n 0, 1) := by decide +kernel
theorem dX8_next_265 : decode cX8_next 265 = .ok (.getfield 178, 3) := by decide +kernel
theorem dX8_next_268 : decode cX8_next 268 = .ok (.baload, 1) := by decide +kernel
theorem dX8_next_269 : decode cX8_next 269 = .ok (.iadd, 1) := by decide +kernel
theorem dX8_next_270 : decode cX8_next 270 = .ok (.bipush 48, 2) := by decide +kernel
theorem dX8_next_272 : decode cX8_next 272 = .ok (.isub, 1) := by decide +kernel
theorem dX8_next_273 : decode cX8_next 273 = .ok (.putfield 196, 3) := by decide +kernel
theorem dX8_next_276 : decode cX8_next 276 = .ok (.aload_n 0, 1) := by decide +kernel
theorem dX8_next_277 : decode cX8_next 277 = .ok (.dup, 1) := by decide +kernel
theorem dX8_next_278 : decode cX8_next 278 = .ok (.getfield 178, 3) := by decide +kernel
theorem dX8_next_281 : decode cX8_next 281 = .ok (.iconst 1, 1) := by decide +kernel
theorem dX8_next_282 : decode cX8_next 282 = .ok (.iadd, 1) := by decide +kernel
theorem dX8_next_283 : decode cX8_next 283 = .ok (.putfield 178, 3) := by decide +kernel
theorem dX8_next_286 : decode cX8_next 286 = .ok (.goto (-77), 3) := by decide +kernel
theorem dX8_next_289 : decode cX8_next 289 = .ok (.aload_n 0, 1) := by decide +kernel
theorem dX8_next_290 : decode cX8_next 290 = .ok (.dup, 1) := by decide +kernel
theorem dX8_next_291 : decode cX8_next 291 = .ok (.getfield 178, 3) := by decide +kernel
theorem dX8_next_294 : decode cX8_next 294 = .ok (.iconst 1, 1) := by decide +kernel
theorem dX8_next_295 : decode cX8_next 295 = .ok (.iadd, 1) := by decide +kernel
theorem dX8_next_296 : decode cX8_next 296 = .ok (.putfield 178, 3) := by decide +kernel
theorem dX8_next_299 : decode cX8_next 299 = .ok (.aload_n 0, 1) := by decide +kernel
theorem dX8_next_300 : decode cX8_next 300 = .ok (.iload_n 2, 1) := by decide +kernel
theorem dX8_next_301 : decode cX8_next 301 = .ok (.bipush 59, 2) := by decide +kernel
theorem dX8_next_303 : decode cX8_next 303 = .ok (.if_icmp .ne 7, 3) := by decide +kernel
theorem dX8_next_306 : decode cX8_next 306 = .ok (.iconst 3, 1) := by decide +kernel
theorem dX8_next_307 : decode cX8_next 307 = .ok (.goto 4, 3) := by decide +kernel
theorem dX8_next_310 : decode cX8_next 310 = .ok (.iconst 4, 1) := by decide +kernel
theorem dX8_next_311 : decode cX8_next 311 = .ok (.putfield 184, 3) := by decide +kernel
theorem dX8_next_314 : decode cX8_next 314 = .ok (.return_, 1) := by decide +kernel
theorem dX8_errs_0 : decode cX8_errs 0 = .ok (.aload_n 0, 1) := by decide +kernel
theorem dX8_errs_1 : decode cX8_errs 1 = .ok (.getfield 200, 3) := by decide +kernel
theorem dX8_errs_4 : decode cX8_errs 4 = .ok (.ifCond .ne 16, 3) := by decide +kernel
theorem dX8_errs_7 : decode cX8_errs 7 = .ok (.aload_n 0, 1) := by decide +kernel
theorem dX8_errs_8 : decode cX8_errs 8 = .ok (.iload_n 1, 1) := by decide +kernel
theorem dX8_errs_9 : decode cX8_errs 9 = .ok (.putfield 200, 3) := by decide +kernel
theorem dX8_errs_12 : decode cX8_errs 12 = .ok (.aload_n 0, 1) := by decide +kernel
theorem dX8_errs_13 : decode cX8_errs 13 = .ok (.aload_n 0, 1) := by decide +kernel
theorem dX8_errs_14 : decode cX8_errs 14 = .ok (.getfield 181, 3) := by decide +kernel
theorem dX8_errs_17 : decode cX8_errs 17 = .ok (.putfield 203, 3) := by decide +kernel
theorem dX8_errs_20 : decode cX8_errs 20 = .ok (.return_, 1) := by decide +kernel
theorem dX8_winds_0 : decode cX8_winds 0 = .ok (.aload_n 0, 1) := by decide +kernel
theorem dX8_winds_1 : decode cX8_winds 1 = .ok (.getfield 162, 3) := by decide +kernel
theorem dX8_winds_4 : decode cX8_winds 4 = .ok (.istore_n 1, 1) := by decide +kernel
theorem dX8_winds_5 : decode cX8_winds 5 = .ok (.aload_n 0, 1) := by decide +kernel
theorem dX8_winds_6 : decode cX8_winds 6 = .ok (.iconst 0, 1) := by decide +kernel
theorem dX8_winds_7 : decode cX8_winds 7 = .ok (.putfield 162, 3) := by decide +kernel
theorem dX8_winds_10 : decode cX8_winds 10 = .ok (.aload_n 0, 1) := by decide +kernel
theorem dX8_winds_11 : decode cX8_winds 11 = .ok (.iconst 0, 1) := by decide +kernel
theorem dX8_winds_12 : decode cX8_winds 12 = .ok (.putfield 178, 3) := by decide +kernel
theorem dX8_winds_15 : decode cX8_winds 15 = .ok (.aload_n 0, 1) := by decide +kernel
theorem dX8_winds_16 : decode cX8_winds 16 = .ok (.iconst 0, 1) := by decide +kernel
theorem dX8_winds_17 : decode cX8_winds 17 = .ok (.putfield 200, 3) := by decide +kernel
theorem dX8_winds_20 : decode cX8_winds 20 = .ok (.aload_n 0, 1) := by decide +kernel
theorem dX8_winds_21 : decode cX8_winds 21 = .ok (.iconst (-1), 1) := by decide +kernel
theorem dX8_winds_22 : decode cX8_winds 22 = .ok (.putfield 203, 3) := by decide +kernel
theorem dX8_winds_25 : decode cX8_winds 25 = .ok (.iconst 0, 1) := by decide +kernel
theorem dX8_winds_26 : decode cX8_winds 26 = .ok (.istore_n 2, 1) := by decide +kernel
theorem dX8_winds_27 : decode cX8_winds 27 = .ok (.aload_n 0, 1) := by decide +kernel
theorem dX8_winds_28 : decode cX8_winds 28 = .ok (.iload_n 1, 1) := by decide +kernel
theorem dX8_winds_29 : decode cX8_winds 29 = .ok (.invokevirtual 206, 3) := by decide +kernel
theorem dX8_winds_32 : decode cX8_winds 32 = .ok (.aload_n 0, 1) := by decide +kernel
theorem dX8_winds_33 : decode cX8_winds 33 = .ok (.getfield 184, 3) := by decide +kernel
theorem dX8_winds_36 : decode cX8_winds 36 = .ok (.ifCond .eq 138, 3) := by decide +kernel
theorem dX8_winds_39 : decode cX8_winds 39 = .ok (.aload_n 0, 1) := by decide +kernel
theorem dX8_winds_40 : decode cX8_winds 40 = .ok (.getfield 200, 3) := by decide +kernel
theorem dX8_winds_43 : decode cX8_winds 43 = .ok (.ifCond .ne 131, 3) := by decide +kernel
theorem dX8_winds_46 : decode cX8_winds 46 = .ok (.aload_n 0, 1) := by decide +kernel
theorem dX8_winds_47 : decode cX8_winds 47 = .ok (.getfield 184, 3) := by decide +kernel
theorem dX8_winds_50 : decode cX8_winds 50 = .ok (.iconst 1, 1) := by decide +kernel
theorem dX8_winds_51 : decode cX8_winds 51 = .ok (.if_icmp .eq 11, 3) := by decide +kernel
theorem dX8_winds_54 : decode cX8_winds 54 = .ok (.aload_n 0, 1) := by decide +kernel
theorem dX8_winds_55 : decode cX8_winds 55 = .ok (.iconst 1, 1) := by decide +kernel
theorem dX8_winds_56 : decode cX8_winds 56 = .ok (.invokevirtual 209, 3) := by decide +kernel
theorem dX8_winds_59 : decode cX8_winds 59 = .ok (.goto (-27), 3) := by decide +kernel
theorem dX8_winds_62 : decode cX8_winds 62 = .ok (.iload_n 2, 1) := by decide +kernel
theorem dX8_winds_63 : decode cX8_winds 63 = .ok (.bipush 20, 2) := by decide +kernel
theorem dX8_winds_65 : decode cX8_winds 65 = .ok (.if_icmp .ne 11, 3) := by decide +kernel
theorem dX8_winds_68 : decode cX8_winds 68 = .ok (.aload_n 0, 1) := by decide +kernel
theorem dX8_winds_69 : decode cX8_winds 69 = .ok (.iconst 3, 1) := by decide +kernel
theorem dX8_winds_70 : decode cX8_winds 70 = .ok (.invokevirtual 209, 3) := by decide +kernel
theorem dX8_winds_73 : decode cX8_winds 73 = .ok (.goto (-41), 3) := by decide +kernel
theorem dX8_winds_76 : decode cX8_winds 76 = .ok (.aload_n 0, 1) := by decide +kernel
theorem dX8_winds_77 : decode cX8_winds 77 = .ok (.getfield 54, 3) := by decide +kernel
theorem dX8_winds_80 : decode cX8_winds 80 = .ok (.iload_n 2, 1) := by decide +kernel
theorem dX8_winds_81 : decode cX8_winds 81 = .ok (.aload_n 0, 1) := by decide +kernel
theorem dX8_winds_82 : decode cX8_winds 82 = .ok (.getfield 196, 3) := by decide +kernel
theorem dX8_winds_85 : decode cX8_winds 85 = .ok (.iastore, 1) := by decide +kernel
theorem dX8_winds_86 : decode cX8_winds 86 = .ok (.aload_n 0, 1) := by decide +kernel
theorem dX8_winds_87 : decode cX8_winds 87 = .ok (.iload_n 1, 1) := by decide +kernel
theorem dX8_winds_88 : decode cX8_winds 88 = .ok (.invokevirtual 206, 3) := by decide +kernel
theorem dX8_winds_91 : decode cX8_winds 91 = .ok (.aload_n 0, 1) := by decide +kernel
theorem dX8_winds_92 : decode cX8_winds 92 = .ok (.getfield 184, 3) := by decide +kernel
theorem dX8_winds_95 : decode cX8_winds 95 = .ok (.iconst 2, 1) := by decide +kernel
theorem dX8_winds_96 : decode cX8_winds 96 = .ok (.if_icmp .eq 11, 3) := by decide +kernel
theorem dX8_winds_99 : decode cX8_winds 99 = .ok (.aload_n 0, 1) := by decide +kernel
theorem dX8_winds_100 : decode cX8_winds 100 = .ok (.iconst 1, 1) := by decide +kernel
theorem dX8_winds_101 : decode cX8_winds 101 = .ok (.invokevirtual 209, 3) := by decide +kernel
theorem dX8_winds_104 : decode cX8_winds 104 = .ok (.goto 21, 3) := by decide +kernel
theorem dX8_winds_107 : decode cX8_winds 107 = .ok (.aload_n 0, 1) := by decide +kernel
theorem dX8_winds_108 : decode cX8_winds 108 = .ok (.getfield 196, 3) := by decide +kernel
theorem dX8_winds_111 : decode cX8_winds 111 = .ok (.iconst 1, 1) := by decide +kernel
theorem dX8_winds_112 : decode cX8_winds 112 = .ok (.bipush 60, 2) := by decide +kernel
theorem dX8_winds_114 : decode cX8_winds 114 = .ok (.invokestatic 110, 3) := by decide +kernel
theorem dX8_winds_117 : decode cX8_winds 117 = .ok (.ifCond .ne 8, 3) := by decide +kernel
theorem dX8_winds_120 : decode cX8_winds 120 = .ok (.aload_n 0, 1) := by decide +kernel
theorem dX8_winds_121 : decode cX8_winds 121 = .ok (.iconst 2, 1) := by decide +kernel
theorem dX8_winds_122 : decode cX8_winds 122 = .ok (.invokevirtual 209, 3) := by decide +kernel
theorem dX8_winds_125 : decode cX8_winds 125 = .ok (.aload_n 0, 1) := by decide +kernel
theorem dX8_winds_126 : decode cX8_winds 126 = .ok (.getfield 57, 3) := by decide +kernel
theorem dX8_winds_129 : decode cX8_winds 129 = .ok (.iload_n 2, 1) := by decide +kernel
theorem dX8_winds_130 : decode cX8_winds 130 = .ok (.aload_n 0, 1) := by decide +kernel
theorem dX8_winds_131 : decode cX8_winds 131 = .ok (.getfield 196, 3) := by decide +kernel
theorem dX8_winds_134 : decode cX8_winds 134 = .ok (.iastore, 1) := by decide +kernel
theorem dX8_winds_135 : decode cX8_winds 135 = .ok (.iinc 2 1, 3) := by decide +kernel
theorem dX8_winds_138 : decode cX8_winds 138 = .ok (.aload_n 0, 1) := by decide +kernel
theorem dX8_winds_139 : decode cX8_winds 139 = .ok (.getfield 200, 3) := by decide +kernel
theorem dX8_winds_142 : decode cX8_winds 142 = .ok (.ifCond .ne (-110), 3) := by decide +kernel
theorem dX8_winds_145 : decode cX8_winds 145 = .ok (.aload_n 0, 1) := by decide +kernel
theorem dX8_winds_146 : decode cX8_winds 146 = .ok (.iload_n 1, 1) := by decide +kernel
theorem dX8_winds_147 : decode cX8_winds 147 = .ok (.invokevirtual 206, 3) := by decide +kernel
theorem dX8_winds_150 : decode cX8_winds 150 = .ok (.aload_n 0, 1) := by decide +kernel
theorem dX8_winds_151 : decode cX8_winds 151 = .ok (.getfield 184, 3) := by decide +kernel
theorem dX8_winds_154 : decode cX8_winds 154 = .ok (.iconst 3, 1) := by decide +kernel
theorem dX8_winds_155 : decode cX8_winds 155 = .ok (.if_icmp .eq 11, 3) := by decide +kernel
theorem dX8_winds_158 : decode cX8_winds 158 = .ok (.aload_n 0, 1) := by decide +kernel
theorem dX8_winds_159 : decode cX8_winds 159 = .ok (.iconst 1, 1) := by decide +kernel
theorem dX8_winds_160 : decode cX8_winds 160 = .ok (.invokevirtual 209, 3) := by decide +kernel
theorem dX8_winds_163 : decode cX8_winds 163 = .ok (.goto (-131), 3) := by decide +kernel
theorem dX8_winds_166 : decode cX8_winds 166 = .ok (.aload_n 0, 1) := by decide +kernel
theorem dX8_winds_167 : decode cX8_winds 167 = .ok (.iload_n 1, 1) := by decide +kernel
theorem dX8_winds_168 : decode cX8_winds 168 = .ok (.invokevirtual 206, 3) := by decide +kernel
theorem dX8_winds_171 : decode cX8_winds 171 = .ok (.goto (-139), 3) := by decide +kernel
theorem dX8_winds_174 : decode cX8_winds 174 = .ok (.aload_n 0, 1) := by decide +kernel
theorem dX8_winds_175 : decode cX8_winds 175 = .ok (.aload_n 0, 1) := by decide +kernel
theorem dX8_winds_176 : decode cX8_winds 176 = .ok (.getfield 200, 3) := by decide +kernel
theorem dX8_winds_179 : decode cX8_winds 179 = .ok (.putfield 48, 3) := by decide +kernel
theorem dX8_winds_182 : decode cX8_winds 182 = .ok (.aload_n 0, 1) := by decide +kernel
theorem dX8_winds_183 : decode cX8_winds 183 = .ok (.aload_n 0, 1) := by decide +kernel
theorem dX8_winds_184 : decode cX8_winds 184 = .ok (.getfield 203, 3) := by decide +kernel
theorem dX8_winds_187 : decode cX8_winds 187 = .ok (.putfield 51, 3) := by decide +kernel
theorem dX8_winds_190 : decode cX8_winds 190 = .ok (.aload_n 0, 1) := by decide +kernel
theorem dX8_winds_191 : decode cX8_winds 191 = .ok (.getfield 200, 3) := by decide +kernel
theorem dX8_winds_194 : decode cX8_winds 194 = .ok (.ifCond .le 5, 3) := by decide +kernel
theorem dX8_winds_197 : decode cX8_winds 197 = .ok (.iconst (-1), 1) := by decide +kernel
theorem dX8_winds_198 : decode cX8_winds 198 = .ok (.ireturn, 1) := by decide +kernel
theorem dX8_winds_199 : decode cX8_winds 199 = .ok (.aload_n 0, 1) := by decide +kernel
theorem dX8_winds_200 : decode cX8_winds 200 = .ok (.iload_n 2, 1) := by decide +kernel
theorem dX8_winds_201 : decode cX8_winds 201 = .ok (.putfield 133, 3) := by decide +kernel
theorem dX8_winds_204 : decode cX8_winds 204 = .ok (.iconst 0, 1) := by decide +kernel
theorem dX8_winds_205 : decode cX8_winds 205 = .ok (.istore_n 3, 1) := by decide +kernel
theorem dX8_winds_206 : decode cX8_winds 206 = .ok (.iload_n 3, 1) := by decide +kernel
theorem dX8_winds_207 : decode cX8_winds 207 = .ok (.iload_n 2, 1) := by decide +kernel
theorem dX8_winds_208 : decode cX8_winds 208 = .ok (.if_icmp .ge 33, 3) := by decide +kernel
theorem dX8_winds_211 : decode cX8_winds 211 = .ok (.aload_n 0, 1) := by decide +kernel
theorem dX8_winds_212 : decode cX8_winds 212 = .ok (.getfield 38, 3) := by decide +kernel
theorem dX8_winds_215 : decode cX8_winds 215 = .ok (.iload_n 3, 1) := by decide +kernel
theorem dX8_winds_216 : decode cX8_winds 216 = .ok (.aload_n 0, 1) := by decide +kernel
theorem dX8_winds_217 : decode cX8_winds 217 = .ok (.getfield 54, 3) := by decide +kernel
theorem dX8_winds_220 : decode cX8_winds 220 = .ok (.iload_n 3, 1) := by decide +kernel
theorem dX8_winds_221 : decode cX8_winds 221 = .ok (.iaload, 1) := by decide +kernel
theorem dX8_winds_222 : decode cX8_winds 222 = .ok (.iastore, 1) := by decide +kernel
theorem dX8_winds_223 : decode cX8_winds 223 = .ok (.aload_n 0, 1) := by decide +kernel
theorem dX8_winds_224 : decode cX8_winds 224 = .ok (.getfield 41, 3) := by decide +kernel
theorem dX8_winds_227 : decode cX8_winds 227 = .ok (.iload_n 3, 1) := by decide +kernel
theorem dX8_winds_228 : decode cX8_winds 228 = .ok (.aload_n 0, 1) := by decide +kernel
theorem dX8_winds_229 : decode cX8_winds 229 = .ok (.getfield 57, 3) := by decide +kernel
theorem dX8_winds_232 : decode cX8_winds 232 = .ok (.iload_n 3, 1) := by decide +kernel
theorem dX8_winds_233 : decode cX8_winds 233 = .ok (.iaload, 1) := by decide +kernel
theorem dX8_winds_234 : decode cX8_winds 234 = .ok (.iastore, 1) := by decide +kernel
theorem dX8_winds_235 : decode cX8_winds 235 = .ok (.iinc 3 1, 3) := by decide +kernel
theorem dX8_winds_238 : decode cX8_winds 238 = .ok (.goto (-32), 3) := by decide +kernel
theorem dX8_winds_241 : decode cX8_winds 241 = .ok (.aload_n 0, 1) := by decide +kernel
theorem dX8_winds_242 : decode cX8_winds 242 = .ok (.iconst 0, 1) := by decide +kernel
theorem dX8_winds_243 : decode cX8_winds 243 = .ok (.putfield 127, 3) := by decide +kernel
theorem dX8_winds_246 : decode cX8_winds 246 = .ok (.aload_n 0, 1) := by decide +kernel
theorem dX8_winds_247 : decode cX8_winds 247 = .ok (.iconst 0, 1) := by decide +kernel
theorem dX8_winds_248 : decode cX8_winds 248 = .ok (.putfield 130, 3) := by decide +kernel
theorem dX8_winds_251 : decode cX8_winds 251 = .ok (.iload_n 2, 1) := by decide +kernel
theorem dX8_winds_252 : decode cX8_winds 252 = .ok (.ireturn, 1) := by decide +kernel
theorem dX8_fault_0 : decode cX8_fault 0 = .ok (.iload_n 1, 1) := by decide +kernel
theorem dX8_fault_1 : decode cX8_fault 1 = .ok (.ifCond .ne 10, 3) := by decide +kernel
theorem dX8_fault_4 : decode cX8_fault 4 = .ok (.aload_n 0, 1) := by decide +kernel
theorem dX8_fault_5 : decode cX8_fault 5 = .ok (.getfield 48, 3) := by decide +kernel
theorem dX8_fault_8 : decode cX8_fault 8 = .ok (.goto 16, 3) := by decide +kernel
theorem dX8_fault_11 : decode cX8_fault 11 = .ok (.iload_n 1, 1) := by decide +kernel
theorem dX8_fault_12 : decode cX8_fault 12 = .ok (.iconst 1, 1) := by decide +kernel
theorem dX8_fault_13 : decode cX8_fault 13 = .ok (.if_icmp .ne 10, 3) := by decide +kernel
theorem dX8_fault_16 : decode cX8_fault 16 = .ok (.aload_n 0, 1) := by decide +kernel
theorem dX8_fault_17 : decode cX8_fault 17 = .ok (.getfield 51, 3) := by decide +kernel
theorem dX8_fault_20 : decode cX8_fault 20 = .ok (.goto 4, 3) := by decide +kernel
theorem dX8_fault_23 : decode cX8_fault 23 = .ok (.iconst (-1), 1) := by decide +kernel
theorem dX8_fault_24 : decode cX8_fault 24 = .ok (.ireturn, 1) := by decide +kernel
theorem dX8_windNow_0 : decode cX8_windNow 0 = .ok (.aload_n 0, 1) := by decide +kernel
theorem dX8_windNow_1 : decode cX8_windNow 1 = .ok (.getfield 133, 3) := by decide +kernel
theorem dX8_windNow_4 : decode cX8_windNow 4 = .ok (.ifCond .ne 7, 3) := by decide +kernel
theorem dX8_windNow_7 : decode cX8_windNow 7 = .ok (.iconst 4, 1) := by decide +kernel
theorem dX8_windNow_8 : decode cX8_windNow 8 = .ok (.goto 12, 3) := by decide +kernel
theorem dX8_windNow_11 : decode cX8_windNow 11 = .ok (.aload_n 0, 1) := by decide +kernel
theorem dX8_windNow_12 : decode cX8_windNow 12 = .ok (.getfield 38, 3) := by decide +kernel
theorem dX8_windNow_15 : decode cX8_windNow 15 = .ok (.aload_n 0, 1) := by decide +kernel
theorem dX8_windNow_16 : decode cX8_windNow 16 = .ok (.getfield 127, 3) := by decide +kernel
theorem dX8_windNow_19 : decode cX8_windNow 19 = .ok (.iaload, 1) := by decide +kernel
theorem dX8_windNow_20 : decode cX8_windNow 20 = .ok (.ireturn, 1) := by decide +kernel
theorem dX8_windGoesOn_0 : decode cX8_windGoesOn 0 = .ok (.aload_n 0, 1) := by decide +kernel
theorem dX8_windGoesOn_1 : decode cX8_windGoesOn 1 = .ok (.getfield 133, 3) := by decide +kernel
theorem dX8_windGoesOn_4 : decode cX8_windGoesOn 4 = .ok (.ifCond .le 49, 3) := by decide +kernel
theorem dX8_windGoesOn_7 : decode cX8_windGoesOn 7 = .ok (.aload_n 0, 1) := by decide +kernel
theorem dX8_windGoesOn_8 : decode cX8_windGoesOn 8 = .ok (.dup, 1) := by decide +kernel
theorem dX8_windGoesOn_9 : decode cX8_windGoesOn 9 = .ok (.getfield 130, 3) := by decide +kernel
theorem dX8_windGoesOn_12 : decode cX8_windGoesOn 12 = .ok (.iconst 1, 1) := by decide +kernel
theorem dX8_windGoesOn_13 : decode cX8_windGoesOn 13 = .ok (.iadd, 1) := by decide +kernel
theorem dX8_windGoesOn_14 : decode cX8_windGoesOn 14 = .ok (.putfield 130, 3) := by decide +kernel
theorem dX8_windGoesOn_17 : decode cX8_windGoesOn 17 = .ok (.aload_n 0, 1) := by decide +kernel
theorem dX8_windGoesOn_18 : decode cX8_windGoesOn 18 = .ok (.getfield 130, 3) := by decide +kernel
theorem dX8_windGoesOn_21 : decode cX8_windGoesOn 21 = .ok (.aload_n 0, 1) := by decide +kernel
theorem dX8_windGoesOn_22 : decode cX8_windGoesOn 22 = .ok (.getfield 41, 3) := by decide +kernel
theorem dX8_windGoesOn_25 : decode cX8_windGoesOn 25 = .ok (.aload_n 0, 1) := by decide +kernel
theorem dX8_windGoesOn_26 : decode cX8_windGoesOn 26 = .ok (.getfield 127, 3) := by decide +kernel
theorem dX8_windGoesOn_29 : decode cX8_windGoesOn 29 = .ok (.iaload, 1) := by decide +kernel
theorem dX8_windGoesOn_30 : decode cX8_windGoesOn 30 = .ok (.if_icmp .ne 23, 3) := by decide +kernel
theorem dX8_windGoesOn_33 : decode cX8_windGoesOn 33 = .ok (.aload_n 0, 1) := by decide +kernel
theorem dX8_windGoesOn_34 : decode cX8_windGoesOn 34 = .ok (.iconst 0, 1) := by decide +kernel
theorem dX8_windGoesOn_35 : decode cX8_windGoesOn 35 = .ok (.putfield 130, 3) := by decide +kernel
theorem dX8_windGoesOn_38 : decode cX8_windGoesOn 38 = .ok (.aload_n 0, 1) := by decide +kernel
theorem dX8_windGoesOn_39 : decode cX8_windGoesOn 39 = .ok (.aload_n 0, 1) := by decide +kernel
theorem dX8_windGoesOn_40 : decode cX8_windGoesOn 40 = .ok (.getfield 127, 3) := by decide +kernel
theorem dX8_windGoesOn_43 : decode cX8_windGoesOn 43 = .ok (.iconst 1, 1) := by decide +kernel
theorem dX8_windGoesOn_44 : decode cX8_windGoesOn 44 = .ok (.iadd, 1) := by decide +kernel
theorem dX8_windGoesOn_45 : decode cX8_windGoesOn 45 = .ok (.aload_n 0, 1) := by decide +kernel
theorem dX8_windGoesOn_46 : decode cX8_windGoesOn 46 = .ok (.getfield 133, 3) := by decide +kernel
theorem dX8_windGoesOn_49 : decode cX8_windGoesOn 49 = .ok (.irem, 1) := by decide +kernel
theorem dX8_windGoesOn_50 : decode cX8_windGoesOn 50 = .ok (.putfield 127, 3) := by decide +kernel
theorem dX8_windGoesOn_53 : decode cX8_windGoesOn 53 = .ok (.return_, 1) := by decide +kernel
theorem dX8_ahead_0 : decode cX8_ahead 0 = .ok (.iload_n 1, 1) := by decide +kernel
theorem dX8_ahead_1 : decode cX8_ahead 1 = .ok (.aload_n 0, 1) := by decide +kernel
theorem dX8_ahead_2 : decode cX8_ahead 2 = .ok (.getfield 97, 3) := by decide +kernel
theorem dX8_ahead_5 : decode cX8_ahead 5 = .ok (.irem, 1) := by decide +kernel
theorem dX8_ahead_6 : decode cX8_ahead 6 = .ok (.istore 4, 2) := by decide +kernel
theorem dX8_ahead_8 : decode cX8_ahead 8 = .ok (.iload_n 1, 1) := by decide +kernel
theorem dX8_ahead_9 : decode cX8_ahead 9 = .ok (.aload_n 0, 1) := by decide +kernel
theorem dX8_ahead_10 : decode cX8_ahead 10 = .ok (.getfield 97, 3) := by decide +kernel
theorem dX8_ahead_13 : decode cX8_ahead 13 = .ok (.idiv, 1) := by decide +kernel
theorem dX8_ahead_14 : decode cX8_ahead 14 = .ok (.istore 5, 2) := by decide +kernel
theorem dX8_ahead_16 : decode cX8_ahead 16 = .ok (.iload_n 2, 1) := by decide +kernel
theorem dX8_ahead_17 : decode cX8_ahead 17 = .ok (.iconst 2, 1) := by decide +kernel
theorem dX8_ahead_18 : decode cX8_ahead 18 = .ok (.if_icmp .ge 54, 3) := by decide +kernel
theorem dX8_ahead_21 : decode cX8_ahead 21 = .ok (.iload_n 2, 1) := by decide +kernel
theorem dX8_ahead_22 : decode cX8_ahead 22 = .ok (.ifCond .ne 10, 3) := by decide +kernel
theorem dX8_ahead_25 : decode cX8_ahead 25 = .ok (.iload 4, 2) := by decide +kernel
theorem dX8_ahead_27 : decode cX8_ahead 27 = .ok (.iload_n 3, 1) := by decide +kernel
theorem dX8_ahead_28 : decode cX8_ahead 28 = .ok (.iadd, 1) := by decide +kernel
theorem dX8_ahead_29 : decode cX8_ahead 29 = .ok (.goto 7, 3) := by decide +kernel
theorem dX8_ahead_32 : decode cX8_ahead 32 = .ok (.iload 4, 2) := by decide +kernel
theorem dX8_ahead_34 : decode cX8_ahead 34 = .ok (.iload_n 3, 1) := by decide +kernel
theorem dX8_ahead_35 : decode cX8_ahead 35 = .ok (.isub, 1) := by decide +kernel
theorem dX8_ahead_36 : decode cX8_ahead 36 = .ok (.istore 6, 2) := by decide +kernel
theorem dX8_ahead_38 : decode cX8_ahead 38 = .ok (.iload 6, 2) := by decide +kernel
theorem dX8_ahead_40 : decode cX8_ahead 40 = .ok (.ifCond .ge 7, 3) := by decide +kernel
theorem dX8_ahead_43 : decode cX8_ahead 43 = .ok (.iconst (-1), 1) := by decide +kernel
theorem dX8_ahead_44 : decode cX8_ahead 44 = .ok (.goto 27, 3) := by decide +kernel
theorem dX8_ahead_47 : decode cX8_ahead 47 = .ok (.iload 6, 2) := by decide +kernel
theorem dX8_ahead_49 : decode cX8_ahead 49 = .ok (.aload_n 0, 1) := by decide +kernel
theorem dX8_ahead_50 : decode cX8_ahead 50 = .ok (.getfield 97, 3) := by decide +kernel
theorem dX8_ahead_53 : decode cX8_ahead 53 = .ok (.if_icmp .lt 8, 3) := by decide +kernel
theorem dX8_ahead_56 : decode cX8_ahead 56 = .ok (.bipush (-2), 2) := by decide +kernel
theorem dX8_ahead_58 : decode cX8_ahead 58 = .ok (.goto 13, 3) := by decide +kernel
theorem dX8_ahead_61 : decode cX8_ahead 61 = .ok (.iload 5, 2) := by decide +kernel
theorem dX8_ahead_63 : decode cX8_ahead 63 = .ok (.aload_n 0, 1) := by decide +kernel
theorem dX8_ahead_64 : decode cX8_ahead 64 = .ok (.getfield 97, 3) := by decide +kernel
theorem dX8_ahead_67 : decode cX8_ahead 67 = .ok (.imul, 1) := by decide +kernel
theorem dX8_ahead_68 : decode cX8_ahead 68 = .ok (.iload 6, 2) := by decide +kernel
theorem dX8_ahead_70 : decode cX8_ahead 70 = .ok (.iadd, 1) := by decide +kernel
theorem dX8_ahead_71 : decode cX8_ahead 71 = .ok (.ireturn, 1) := by decide +kernel
theorem dX8_ahead_72 : decode cX8_ahead 72 = .ok (.iload_n 2, 1) := by decide +kernel
theorem dX8_ahead_73 : decode cX8_ahead 73 = .ok (.iconst 2, 1) := by decide +kernel
theorem dX8_ahead_74 : decode cX8_ahead 74 = .ok (.if_icmp .ne 10, 3) := by decide +kernel
theorem dX8_ahead_77 : decode cX8_ahead 77 = .ok (.iload 5, 2) := by decide +kernel
theorem dX8_ahead_79 : decode cX8_ahead 79 = .ok (.iload_n 3, 1) := by decide +kernel
theorem dX8_ahead_80 : decode cX8_ahead 80 = .ok (.iadd, 1) := by decide +kernel
theorem dX8_ahead_81 : decode cX8_ahead 81 = .ok (.goto 7, 3) := by decide +kernel
theorem dX8_ahead_84 : decode cX8_ahead 84 = .ok (.iload 5, 2) := by decide +kernel
theorem dX8_ahead_86 : decode cX8_ahead 86 = .ok (.iload_n 3, 1) := by decide +kernel
theorem dX8_ahead_87 : decode cX8_ahead 87 = .ok (.isub, 1) := by decide +kernel
theorem dX8_ahead_88 : decode cX8_ahead 88 = .ok (.aload_n 0, 1) := by decide +kernel
theorem dX8_ahead_89 : decode cX8_ahead 89 = .ok (.getfield 100, 3) := by decide +kernel
theorem dX8_ahead_92 : decode cX8_ahead 92 = .ok (.irem, 1) := by decide +kernel
theorem dX8_ahead_93 : decode cX8_ahead 93 = .ok (.istore 6, 2) := by decide +kernel
theorem dX8_ahead_95 : decode cX8_ahead 95 = .ok (.iload 6, 2) := by decide +kernel
theorem dX8_ahead_97 : decode cX8_ahead 97 = .ok (.ifCond .ge 13, 3) := by decide +kernel
theorem dX8_ahead_100 : decode cX8_ahead 100 = .ok (.iload 6, 2) := by decide +kernel
theorem dX8_ahead_102 : decode cX8_ahead 102 = .ok (.aload_n 0, 1) := by decide +kernel
theorem dX8_ahead_103 : decode cX8_ahead 103 = .ok (.getfield 100, 3) := by decide +kernel
theorem dX8_ahead_106 : decode cX8_ahead 106 = .ok (.iadd, 1) := by decide +kernel
theorem dX8_ahead_107 : decode cX8_ahead 107 = .ok (.goto 5, 3) := by decide +kernel
theorem dX8_ahead_110 : decode cX8_ahead 110 = .ok (.iload 6, 2) := by decide +kernel
theorem dX8_ahead_112 : decode cX8_ahead 112 = .ok (.aload_n 0, 1) := by decide +kernel
theorem dX8_ahead_113 : decode cX8_ahead 113 = .ok (.getfield 97, 3) := by decide +kernel
theorem dX8_ahead_116 : decode cX8_ahead 116 = .ok (.imul, 1) := by decide +kernel
theorem dX8_ahead_117 : decode cX8_ahead 117 = .ok (.iload 4, 2) := by decide +kernel
theorem dX8_ahead_119 : decode cX8_ahead 119 = .ok (.iadd, 1) := by decide +kernel
theorem dX8_ahead_120 : decode cX8_ahead 120 = .ok (.ireturn, 1) := by decide +kernel
theorem dX8_isShadow_0 : decode cX8_isShadow 0 = .ok (.iconst 0, 1) := by decide +kernel
theorem dX8_isShadow_1 : decode cX8_isShadow 1 = .ok (.istore_n 3, 1) := by decide +kernel
theorem dX8_isShadow_2 : decode cX8_isShadow 2 = .ok (.iconst 1, 1) := by decide +kernel
theorem dX8_isShadow_3 : decode cX8_isShadow 3 = .ok (.istore 4, 2) := by decide +kernel
theorem dX8_isShadow_5 : decode cX8_isShadow 5 = .ok (.iload 4, 2) := by decide +kernel
theorem dX8_isShadow_7 : decode cX8_isShadow 7 = .ok (.bipush 9, 2) := by decide +kernel
theorem dX8_isShadow_9 : decode cX8_isShadow 9 = .ok (.if_icmp .ge 54, 3) := by decide +kernel
theorem dX8_isShadow_12 : decode cX8_isShadow 12 = .ok (.aload_n 0, 1) := by decide +kernel
theorem dX8_isShadow_13 : decode cX8_isShadow 13 = .ok (.iload_n 1, 1) := by decide +kernel
theorem dX8_isShadow_14 : decode cX8_isShadow 14 = .ok (.iload_n 2, 1) := by decide +kernel
theorem dX8_isShadow_15 : decode cX8_isShadow 15 = .ok (.iload 4, 2) := by decide +kernel
theorem dX8_isShadow_17 : decode cX8_isShadow 17 = .ok (.ineg, 1) := by decide +kernel
theorem dX8_isShadow_18 : decode cX8_isShadow 18 = .ok (.invokevirtual 212, 3) := by decide +kernel
theorem dX8_isShadow_21 : decode cX8_isShadow 21 = .ok (.istore 5, 2) := by decide +kernel
theorem dX8_isShadow_23 : decode cX8_isShadow 23 = .ok (.iload_n 3, 1) := by decide +kernel
theorem dX8_isShadow_24 : decode cX8_isShadow 24 = .ok (.ifCond .ne 27, 3) := by decide +kernel
theorem dX8_isShadow_27 : decode cX8_isShadow 27 = .ok (.iload 5, 2) := by decide +kernel
theorem dX8_isShadow_29 : decode cX8_isShadow 29 = .ok (.ifCond .lt 26, 3) := by decide +kernel
theorem dX8_isShadow_32 : decode cX8_isShadow 32 = .ok (.aload_n 0, 1) := by decide +kernel
theorem dX8_isShadow_33 : decode cX8_isShadow 33 = .ok (.getfield 7, 3) := by decide +kernel
theorem dX8_isShadow_36 : decode cX8_isShadow 36 = .ok (.iload 5, 2) := by decide +kernel
theorem dX8_isShadow_38 : decode cX8_isShadow 38 = .ok (.iaload, 1) := by decide +kernel
theorem dX8_isShadow_39 : decode cX8_isShadow 39 = .ok (.aload_n 0, 1) := by decide +kernel
theorem dX8_isShadow_40 : decode cX8_isShadow 40 = .ok (.getfield 7, 3) := by decide +kernel
theorem dX8_isShadow_43 : decode cX8_isShadow 43 = .ok (.iload_n 1, 1) := by decide +kernel
theorem dX8_isShadow_44 : decode cX8_isShadow 44 = .ok (.iaload, 1) := by decide +kernel
theorem dX8_isShadow_45 : decode cX8_isShadow 45 = .ok (.iload 4, 2) := by decide +kernel
theorem dX8_isShadow_47 : decode cX8_isShadow 47 = .ok (.iadd, 1) := by decide +kernel
theorem dX8_isShadow_48 : decode cX8_isShadow 48 = .ok (.if_icmp .lt 7, 3) := by decide +kernel
theorem dX8_isShadow_51 : decode cX8_isShadow 51 = .ok (.iconst 1, 1) := by decide +kernel
theorem dX8_isShadow_52 : decode cX8_isShadow 52 = .ok (.goto 4, 3) := by decide +kernel
theorem dX8_isShadow_55 : decode cX8_isShadow 55 = .ok (.iconst 0, 1) := by decide +kernel
theorem dX8_isShadow_56 : decode cX8_isShadow 56 = .ok (.istore_n 3, 1) := by decide +kernel
theorem dX8_isShadow_57 : decode cX8_isShadow 57 = .ok (.iinc 4 1, 3) := by decide +kernel
theorem dX8_isShadow_60 : decode cX8_isShadow 60 = .ok (.goto (-55), 3) := by decide +kernel
theorem dX8_isShadow_63 : decode cX8_isShadow 63 = .ok (.iload_n 3, 1) := by decide +kernel
theorem dX8_isShadow_64 : decode cX8_isShadow 64 = .ok (.ireturn, 1) := by decide +kernel
theorem dX8_lifts_0 : decode cX8_lifts 0 = .ok (.aload_n 0, 1) := by decide +kernel
theorem dX8_lifts_1 : decode cX8_lifts 1 = .ok (.aload_n 0, 1) := by decide +kernel
theorem dX8_lifts_2 : decode cX8_lifts 2 = .ok (.getfield 103, 3) := by decide +kernel
theorem dX8_lifts_5 : decode cX8_lifts 5 = .ok (.invokevirtual 216, 3) := by decide +kernel
theorem dX8_lifts_8 : decode cX8_lifts 8 = .ok (.istore_n 2, 1) := by decide +kernel
theorem dX8_lifts_9 : decode cX8_lifts 9 = .ok (.aload_n 0, 1) := by decide +kernel
theorem dX8_lifts_10 : decode cX8_lifts 10 = .ok (.getfield 7, 3) := by decide +kernel
theorem dX8_lifts_13 : decode cX8_lifts 13 = .ok (.iload_n 2, 1) := by decide +kernel
theorem dX8_lifts_14 : decode cX8_lifts 14 = .ok (.iaload, 1) := by decide +kernel
theorem dX8_lifts_15 : decode cX8_lifts 15 = .ok (.ifCond .eq 45, 3) := by decide +kernel
theorem dX8_lifts_18 : decode cX8_lifts 18 = .ok (.aload_n 0, 1) := by decide +kernel
theorem dX8_lifts_19 : decode cX8_lifts 19 = .ok (.iload_n 2, 1) := by decide +kernel
theorem dX8_lifts_20 : decode cX8_lifts 20 = .ok (.iload_n 1, 1) := by decide +kernel
theorem dX8_lifts_21 : decode cX8_lifts 21 = .ok (.invokevirtual 220, 3) := by decide +kernel
theorem dX8_lifts_24 : decode cX8_lifts 24 = .ok (.ifCond .ne 36, 3) := by decide +kernel
theorem dX8_lifts_27 : decode cX8_lifts 27 = .ok (.aload_n 0, 1) := by decide +kernel
theorem dX8_lifts_28 : decode cX8_lifts 28 = .ok (.getfield 25, 3) := by decide +kernel
theorem dX8_lifts_31 : decode cX8_lifts 31 = .ok (.iload_n 2, 1) := by decide +kernel
theorem dX8_lifts_32 : decode cX8_lifts 32 = .ok (.iaload, 1) := by decide +kernel
theorem dX8_lifts_33 : decode cX8_lifts 33 = .ok (.ifCond .gt 27, 3) := by decide +kernel
theorem dX8_lifts_36 : decode cX8_lifts 36 = .ok (.aload_n 0, 1) := by decide +kernel
theorem dX8_lifts_37 : decode cX8_lifts 37 = .ok (.getfield 16, 3) := by decide +kernel
theorem dX8_lifts_40 : decode cX8_lifts 40 = .ok (.iload_n 2, 1) := by decide +kernel
theorem dX8_lifts_41 : decode cX8_lifts 41 = .ok (.iaload, 1) := by decide +kernel
theorem dX8_lifts_42 : decode cX8_lifts 42 = .ok (.ifCond .le 19, 3) := by decide +kernel
theorem dX8_lifts_45 : decode cX8_lifts 45 = .ok (.aload_n 0, 1) := by decide +kernel
theorem dX8_lifts_46 : decode cX8_lifts 46 = .ok (.bipush 100, 2) := by decide +kernel
theorem dX8_lifts_48 : decode cX8_lifts 48 = .ok (.invokevirtual 216, 3) := by decide +kernel
theorem dX8_lifts_51 : decode cX8_lifts 51 = .ok (.aload_n 0, 1) := by decide +kernel
theorem dX8_lifts_52 : decode cX8_lifts 52 = .ok (.getfield 16, 3) := by decide +kernel
theorem dX8_lifts_55 : decode cX8_lifts 55 = .ok (.iload_n 2, 1) := by decide +kernel
theorem dX8_lifts_56 : decode cX8_lifts 56 = .ok (.iaload, 1) := by decide +kernel
theorem dX8_lifts_57 : decode cX8_lifts 57 = .ok (.if_icmp .ge 4, 3) := by decide +kernel
theorem dX8_lifts_60 : decode cX8_lifts 60 = .ok (.return_, 1) := by decide +kernel
theorem dX8_lifts_61 : decode cX8_lifts 61 = .ok (.aload_n 0, 1) := by decide +kernel
theorem dX8_lifts_62 : decode cX8_lifts 62 = .ok (.getfield 7, 3) := by decide +kernel
theorem dX8_lifts_65 : decode cX8_lifts 65 = .ok (.iload_n 2, 1) := by decide +kernel
theorem dX8_lifts_66 : decode cX8_lifts 66 = .ok (.dup2, 1) := by decide +kernel
theorem dX8_lifts_67 : decode cX8_lifts 67 = .ok (.iaload, 1) := by decide +kernel
theorem dX8_lifts_68 : decode cX8_lifts 68 = .ok (.iconst 1, 1) := by decide +kernel
theorem dX8_lifts_69 : decode cX8_lifts 69 = .ok (.isub, 1) := by decide +kernel
theorem dX8_lifts_70 : decode cX8_lifts 70 = .ok (.iastore, 1) := by decide +kernel
theorem dX8_lifts_71 : decode cX8_lifts 71 = .ok (.aload_n 0, 1) := by decide +kernel
theorem dX8_lifts_72 : decode cX8_lifts 72 = .ok (.iload_n 2, 1) := by decide +kernel
theorem dX8_lifts_73 : decode cX8_lifts 73 = .ok (.invokevirtual 156, 3) := by decide +kernel
theorem dX8_lifts_76 : decode cX8_lifts 76 = .ok (.iload_n 2, 1) := by decide +kernel
theorem dX8_lifts_77 : decode cX8_lifts 77 = .ok (.istore_n 3, 1) := by decide +kernel
theorem dX8_lifts_78 : decode cX8_lifts 78 = .ok (.iconst 1, 1) := by decide +kernel
theorem dX8_lifts_79 : decode cX8_lifts 79 = .ok (.istore 4, 2) := by decide +kernel
theorem dX8_lifts_81 : decode cX8_lifts 81 = .ok (.iload 4, 2) := by decide +kernel
theorem dX8_lifts_83 : decode cX8_lifts 83 = .ok (.bipush 11, 2) := by decide +kernel
theorem dX8_lifts_85 : decode cX8_lifts 85 = .ok (.if_icmp .ge 146, 3) := by decide +kernel
theorem dX8_lifts_88 : decode cX8_lifts 88 = .ok (.aload_n 0, 1) := by decide +kernel
theorem dX8_lifts_89 : decode cX8_lifts 89 = .ok (.iload_n 3, 1) := by decide +kernel
theorem dX8_lifts_90 : decode cX8_lifts 90 = .ok (.iload_n 1, 1) := by decide +kernel
theorem dX8_lifts_91 : decode cX8_lifts 91 = .ok (.aload_n 0, 1) := by decide +kernel
theorem dX8_lifts_92 : decode cX8_lifts 92 = .ok (.getfield 31, 3) := by decide +kernel
theorem dX8_lifts_95 : decode cX8_lifts 95 = .ok (.iconst 0, 1) := by decide +kernel
theorem dX8_lifts_96 : decode cX8_lifts 96 = .ok (.iaload, 1) := by decide +kernel
theorem dX8_lifts_97 : decode cX8_lifts 97 = .ok (.invokevirtual 212, 3) := by decide +kernel
theorem dX8_lifts_100 : decode cX8_lifts 100 = .ok (.istore_n 3, 1) := by decide +kernel
theorem dX8_lifts_101 : decode cX8_lifts 101 = .ok (.iload_n 3, 1) := by decide +kernel
theorem dX8_lifts_102 : decode cX8_lifts 102 = .ok (.ifCond .ge 43, 3) := by decide +kernel
theorem dX8_lifts_105 : decode cX8_lifts 105 = .ok (.aload_n 0, 1) := by decide +kernel
theorem dX8_lifts_106 : decode cX8_lifts 106 = .ok (.dup, 1) := by decide +kernel
theorem dX8_lifts_107 : decode cX8_lifts 107 = .ok (.getfield 118, 3) := by decide +kernel
theorem dX8_lifts_110 : decode cX8_lifts 110 = .ok (.iload_n 3, 1) := by decide +kernel
theorem dX8_lifts_111 : decode cX8_lifts 111 = .ok (.iconst (-1), 1) := by decide +kernel
theorem dX8_lifts_112 : decode cX8_lifts 112 = .ok (.if_icmp .ne 7, 3) := by decide +kernel
theorem dX8_lifts_115 : decode cX8_lifts 115 = .ok (.iconst 1, 1) := by decide +kernel
theorem dX8_lifts_116 : decode cX8_lifts 116 = .ok (.goto 4, 3) := by decide +kernel
theorem dX8_lifts_119 : decode cX8_lifts 119 = .ok (.iconst 0, 1) := by decide +kernel
theorem dX8_lifts_120 : decode cX8_lifts 120 = .ok (.iadd, 1) := by decide +kernel
theorem dX8_lifts_121 : decode cX8_lifts 121 = .ok (.putfield 118, 3) := by decide +kernel
theorem dX8_lifts_124 : decode cX8_lifts 124 = .ok (.aload_n 0, 1) := by decide +kernel
theorem dX8_lifts_125 : decode cX8_lifts 125 = .ok (.dup, 1) := by decide +kernel
theorem dX8_lifts_126 : decode cX8_lifts 126 = .ok (.getfield 121, 3) := by decide +kernel
theorem dX8_lifts_129 : decode cX8_lifts 129 = .ok (.iload_n 3, 1) := by decide +kernel
theorem dX8_lifts_130 : decode cX8_lifts 130 = .ok (.bipush (-2), 2) := by decide +kernel
theorem dX8_lifts_132 : decode cX8_lifts 132 = .ok (.if_icmp .ne 7, 3) := by decide +kernel
theorem dX8_lifts_135 : decode cX8_lifts 135 = .ok (.iconst 1, 1) := by decide +kernel
theorem dX8_lifts_136 : decode cX8_lifts 136 = .ok (.goto 4, 3) := by decide +kernel
theorem dX8_lifts_139 : decode cX8_lifts 139 = .ok (.iconst 0, 1) := by decide +kernel
theorem dX8_lifts_140 : decode cX8_lifts 140 = .ok (.iadd, 1) := by decide +kernel
theorem dX8_lifts_141 : decode cX8_lifts 141 = .ok (.putfield 121, 3) := by decide +kernel
theorem dX8_lifts_144 : decode cX8_lifts 144 = .ok (.return_, 1) := by decide +kernel
theorem dX8_lifts_145 : decode cX8_lifts 145 = .ok (.iload 4, 2) := by decide +kernel
theorem dX8_lifts_147 : decode cX8_lifts 147 = .ok (.bipush 10, 2) := by decide +kernel
theorem dX8_lifts_149 : decode cX8_lifts 149 = .ok (.if_icmp .eq 60, 3) := by decide +kernel
theorem dX8_lifts_152 : decode cX8_lifts 152 = .ok (.aload_n 0, 1) := by decide +kernel
theorem dX8_lifts_153 : decode cX8_lifts 153 = .ok (.iload_n 3, 1) := by decide +kernel
theorem dX8_lifts_154 : decode cX8_lifts 154 = .ok (.iload_n 1, 1) := by decide +kernel
theorem dX8_lifts_155 : decode cX8_lifts 155 = .ok (.invokevirtual 220, 3) := by decide +kernel
theorem dX8_lifts_158 : decode cX8_lifts 158 = .ok (.ifCond .ne 51, 3) := by decide +kernel
theorem dX8_lifts_161 : decode cX8_lifts 161 = .ok (.aload_n 0, 1) := by decide +kernel
theorem dX8_lifts_162 : decode cX8_lifts 162 = .ok (.getfield 7, 3) := by decide +kernel
theorem dX8_lifts_165 : decode cX8_lifts 165 = .ok (.iload_n 3, 1) := by decide +kernel
theorem dX8_lifts_166 : decode cX8_lifts 166 = .ok (.iaload, 1) := by decide +kernel
theorem dX8_lifts_167 : decode cX8_lifts 167 = .ok (.aload_n 0, 1) := by decide +kernel
theorem dX8_lifts_168 : decode cX8_lifts 168 = .ok (.getfield 19, 3) := by decide +kernel
theorem dX8_lifts_171 : decode cX8_lifts 171 = .ok (.iload_n 3, 1) := by decide +kernel
theorem dX8_lifts_172 : decode cX8_lifts 172 = .ok (.iaload, 1) := by decide +kernel
theorem dX8_lifts_173 : decode cX8_lifts 173 = .ok (.if_icmp .lt 36, 3) := by decide +kernel
theorem dX8_lifts_176 : decode cX8_lifts 176 = .ok (.aload_n 0, 1) := by decide +kernel
theorem dX8_lifts_177 : decode cX8_lifts 177 = .ok (.bipush 100, 2) := by decide +kernel
theorem dX8_lifts_179 : decode cX8_lifts 179 = .ok (.invokevirtual 216, 3) := by decide +kernel
theorem dX8_lifts_182 : decode cX8_lifts 182 = .ok (.aload_n 0, 1) := by decide +kernel
theorem dX8_lifts_183 : decode cX8_lifts 183 = .ok (.getfield 7, 3) := by decide +kernel
theorem dX8_lifts_186 : decode cX8_lifts 186 = .ok (.iload_n 3, 1) := by decide +kernel
theorem dX8_lifts_187 : decode cX8_lifts 187 = .ok (.iaload, 1) := by decide +kernel
theorem dX8_lifts_188 : decode cX8_lifts 188 = .ok (.ifCond .ne 12, 3) := by decide +kernel
theorem dX8_lifts_191 : decode cX8_lifts 191 = .ok (.aload_n 0, 1) := by decide +kernel
theorem dX8_lifts_192 : decode cX8_lifts 192 = .ok (.getfield 31, 3) := by decide +kernel
theorem dX8_lifts_195 : decode cX8_lifts 195 = .ok (.iconst 2, 1) := by decide +kernel
theorem dX8_lifts_196 : decode cX8_lifts 196 = .ok (.iaload, 1) := by decide +kernel
theorem dX8_lifts_197 : decode cX8_lifts 197 = .ok (.goto 9, 3) := by decide +kernel
theorem dX8_lifts_200 : decode cX8_lifts 200 = .ok (.aload_n 0, 1) := by decide +kernel
theorem dX8_lifts_201 : decode cX8_lifts 201 = .ok (.getfield 31, 3) := by decide +kernel
theorem dX8_lifts_204 : decode cX8_lifts 204 = .ok (.iconst 1, 1) := by decide +kernel
theorem dX8_lifts_205 : decode cX8_lifts 205 = .ok (.iaload, 1) := by decide +kernel
theorem dX8_lifts_206 : decode cX8_lifts 206 = .ok (.if_icmp .ge 19, 3) := by decide +kernel
theorem dX8_lifts_209 : decode cX8_lifts 209 = .ok (.aload_n 0, 1) := by decide +kernel
theorem dX8_lifts_210 : decode cX8_lifts 210 = .ok (.getfield 7, 3) := by decide +kernel
theorem dX8_lifts_213 : decode cX8_lifts 213 = .ok (.iload_n 3, 1) := by decide +kernel
theorem dX8_lifts_214 : decode cX8_lifts 214 = .ok (.dup2, 1) := by decide +kernel
theorem dX8_lifts_215 : decode cX8_lifts 215 = .ok (.iaload, 1) := by decide +kernel
theorem dX8_lifts_216 : decode cX8_lifts 216 = .ok (.iconst 1, 1) := by decide +kernel
theorem dX8_lifts_217 : decode cX8_lifts 217 = .ok (.iadd, 1) := by decide +kernel
theorem dX8_lifts_218 : decode cX8_lifts 218 = .ok (.iastore, 1) := by decide +kernel
theorem dX8_lifts_219 : decode cX8_lifts 219 = .ok (.aload_n 0, 1) := by decide +kernel
theorem dX8_lifts_220 : decode cX8_lifts 220 = .ok (.iload_n 3, 1) := by decide +kernel
theorem dX8_lifts_221 : decode cX8_lifts 221 = .ok (.invokevirtual 156, 3) := by decide +kernel
theorem dX8_lifts_224 : decode cX8_lifts 224 = .ok (.return_, 1) := by decide +kernel
theorem dX8_lifts_225 : decode cX8_lifts 225 = .ok (.iinc 4 1, 3) := by decide +kernel
theorem dX8_lifts_228 : decode cX8_lifts 228 = .ok (.goto (-147), 3) := by decide +kernel
theorem dX8_lifts_231 : decode cX8_lifts 231 = .ok (.return_, 1) := by decide +kernel
theorem dX8_grown_0 : decode cX8_grown 0 = .ok (.iload_n 0, 1) := by decide +kernel
theorem dX8_grown_1 : decode cX8_grown 1 = .ok (.bipush (-2), 2) := by decide +kernel
theorem dX8_grown_3 : decode cX8_grown 3 = .ok (.if_icmp .ge 8, 3) := by decide +kernel
theorem dX8_grown_6 : decode cX8_grown 6 = .ok (.bipush (-20), 2) := by decide +kernel
theorem dX8_grown_8 : decode cX8_grown 8 = .ok (.goto 42, 3) := by decide +kernel
theorem dX8_grown_11 : decode cX8_grown 11 = .ok (.iload_n 0, 1) := by decide +kernel
theorem dX8_grown_12 : decode cX8_grown 12 = .ok (.ifCond .ge 8, 3) := by decide +kernel
theorem dX8_grown_15 : decode cX8_grown 15 = .ok (.bipush (-5), 2) := by decide +kernel
theorem dX8_grown_17 : decode cX8_grown 17 = .ok (.goto 33, 3) := by decide +kernel
theorem dX8_grown_20 : decode cX8_grown 20 = .ok (.iload_n 0, 1) := by decide +kernel
theorem dX8_grown_21 : decode cX8_grown 21 = .ok (.ifCond .ne 7, 3) := by decide +kernel
theorem dX8_grown_24 : decode cX8_grown 24 = .ok (.iconst 1, 1) := by decide +kernel
theorem dX8_grown_25 : decode cX8_grown 25 = .ok (.goto 25, 3) := by decide +kernel
theorem dX8_grown_28 : decode cX8_grown 28 = .ok (.iload_n 0, 1) := by decide +kernel
theorem dX8_grown_29 : decode cX8_grown 29 = .ok (.iconst 3, 1) := by decide +kernel
theorem dX8_grown_30 : decode cX8_grown 30 = .ok (.if_icmp .gt 8, 3) := by decide +kernel
theorem dX8_grown_33 : decode cX8_grown 33 = .ok (.bipush 6, 2) := by decide +kernel
theorem dX8_grown_35 : decode cX8_grown 35 = .ok (.goto 15, 3) := by decide +kernel
