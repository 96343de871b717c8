theorem dX1_init_0 : decode cX1_init 0 = .ok (.aload_n 0, 1) := by decide +kernel
theorem dX1_init_1 : decode cX1_init 1 = .ok (.invokespecial 3, 3) := by decide +kernel
theorem dX1_init_4 : decode cX1_init 4 = .ok (.aload_n 0, 1) := by decide +kernel
theorem dX1_init_5 : decode cX1_init 5 = .ok (.new 9, 3) := by decide +kernel
theorem dX1_init_8 : decode cX1_init 8 = .ok (.dup, 1) := by decide +kernel
theorem dX1_init_9 : decode cX1_init 9 = .ok (.invokespecial 11, 3) := by decide +kernel
theorem dX1_init_12 : decode cX1_init 12 = .ok (.putfield 12, 3) := by decide +kernel
theorem dX1_init_15 : decode cX1_init 15 = .ok (.aload_n 0, 1) := by decide +kernel
theorem dX1_init_16 : decode cX1_init 16 = .ok (.getstatic 18, 3) := by decide +kernel
theorem dX1_init_19 : decode cX1_init 19 = .ok (.arraylength, 1) := by decide +kernel
theorem dX1_init_20 : decode cX1_init 20 = .ok (.newarray .int, 2) := by decide +kernel
theorem dX1_init_22 : decode cX1_init 22 = .ok (.putfield 22, 3) := by decide +kernel
theorem dX1_init_25 : decode cX1_init 25 = .ok (.aload_n 0, 1) := by decide +kernel
theorem dX1_init_26 : decode cX1_init 26 = .ok (.new 25, 3) := by decide +kernel
theorem dX1_init_29 : decode cX1_init 29 = .ok (.dup, 1) := by decide +kernel
theorem dX1_init_30 : decode cX1_init 30 = .ok (.invokespecial 27, 3) := by decide +kernel
theorem dX1_init_33 : decode cX1_init 33 = .ok (.putfield 28, 3) := by decide +kernel
theorem dX1_init_36 : decode cX1_init 36 = .ok (.aload_n 0, 1) := by decide +kernel
theorem dX1_init_37 : decode cX1_init 37 = .ok (.iconst 1, 1) := by decide +kernel
theorem dX1_init_38 : decode cX1_init 38 = .ok (.putfield 32, 3) := by decide +kernel
theorem dX1_init_41 : decode cX1_init 41 = .ok (.aload_n 0, 1) := by decide +kernel
theorem dX1_init_42 : decode cX1_init 42 = .ok (.aload_n 1, 1) := by decide +kernel
theorem dX1_init_43 : decode cX1_init 43 = .ok (.putfield 36, 3) := by decide +kernel
theorem dX1_init_46 : decode cX1_init 46 = .ok (.aload_n 0, 1) := by decide +kernel
theorem dX1_init_47 : decode cX1_init 47 = .ok (.aload_n 1, 1) := by decide +kernel
theorem dX1_init_48 : decode cX1_init 48 = .ok (.getfield 40, 3) := by decide +kernel
theorem dX1_init_51 : decode cX1_init 51 = .ok (.newarray .int, 2) := by decide +kernel
theorem dX1_init_53 : decode cX1_init 53 = .ok (.putfield 45, 3) := by decide +kernel
theorem dX1_init_56 : decode cX1_init 56 = .ok (.aload_n 0, 1) := by decide +kernel
theorem dX1_init_57 : decode cX1_init 57 = .ok (.aload_n 1, 1) := by decide +kernel
theorem dX1_init_58 : decode cX1_init 58 = .ok (.getfield 40, 3) := by decide +kernel
theorem dX1_init_61 : decode cX1_init 61 = .ok (.newarray .int, 2) := by decide +kernel
theorem dX1_init_63 : decode cX1_init 63 = .ok (.putfield 48, 3) := by decide +kernel
theorem dX1_init_66 : decode cX1_init 66 = .ok (.aload_n 0, 1) := by decide +kernel
theorem dX1_init_67 : decode cX1_init 67 = .ok (.aload_n 1, 1) := by decide +kernel
theorem dX1_init_68 : decode cX1_init 68 = .ok (.getfield 40, 3) := by decide +kernel
theorem dX1_init_71 : decode cX1_init 71 = .ok (.newarray .int, 2) := by decide +kernel
theorem dX1_init_73 : decode cX1_init 73 = .ok (.putfield 51, 3) := by decide +kernel
theorem dX1_init_76 : decode cX1_init 76 = .ok (.aload_n 0, 1) := by decide +kernel
theorem dX1_init_77 : decode cX1_init 77 = .ok (.aload_n 1, 1) := by decide +kernel
theorem dX1_init_78 : decode cX1_init 78 = .ok (.getfield 40, 3) := by decide +kernel
theorem dX1_init_81 : decode cX1_init 81 = .ok (.newarray .int, 2) := by decide +kernel
theorem dX1_init_83 : decode cX1_init 83 = .ok (.putfield 54, 3) := by decide +kernel
theorem dX1_init_86 : decode cX1_init 86 = .ok (.aload_n 0, 1) := by decide +kernel
theorem dX1_init_87 : decode cX1_init 87 = .ok (.aload_n 1, 1) := by decide +kernel
theorem dX1_init_88 : decode cX1_init 88 = .ok (.getfield 40, 3) := by decide +kernel
theorem dX1_init_91 : decode cX1_init 91 = .ok (.newarray .int, 2) := by decide +kernel
theorem dX1_init_93 : decode cX1_init 93 = .ok (.putfield 57, 3) := by decide +kernel
theorem dX1_init_96 : decode cX1_init 96 = .ok (.aload_n 0, 1) := by decide +kernel
theorem dX1_init_97 : decode cX1_init 97 = .ok (.aload_n 1, 1) := by decide +kernel
theorem dX1_init_98 : decode cX1_init 98 = .ok (.getfield 40, 3) := by decide +kernel
theorem dX1_init_101 : decode cX1_init 101 = .ok (.newarray .int, 2) := by decide +kernel
theorem dX1_init_103 : decode cX1_init 103 = .ok (.putfield 60, 3) := by decide +kernel
theorem dX1_init_106 : decode cX1_init 106 = .ok (.aload_n 0, 1) := by decide +kernel
theorem dX1_init_107 : decode cX1_init 107 = .ok (.aload_n 1, 1) := by decide +kernel
theorem dX1_init_108 : decode cX1_init 108 = .ok (.getfield 40, 3) := by decide +kernel
theorem dX1_init_111 : decode cX1_init 111 = .ok (.newarray .int, 2) := by decide +kernel
theorem dX1_init_113 : decode cX1_init 113 = .ok (.putfield 63, 3) := by decide +kernel
theorem dX1_init_116 : decode cX1_init 116 = .ok (.iconst 0, 1) := by decide +kernel
theorem dX1_init_117 : decode cX1_init 117 = .ok (.istore_n 2, 1) := by decide +kernel
theorem dX1_init_118 : decode cX1_init 118 = .ok (.iload_n 2, 1) := by decide +kernel
theorem dX1_init_119 : decode cX1_init 119 = .ok (.aload_n 0, 1) := by decide +kernel
theorem dX1_init_120 : decode cX1_init 120 = .ok (.getfield 63, 3) := by decide +kernel
theorem dX1_init_123 : decode cX1_init 123 = .ok (.arraylength, 1) := by decide +kernel
theorem dX1_init_124 : decode cX1_init 124 = .ok (.if_icmp .ge 16, 3) := by decide +kernel
theorem dX1_init_127 : decode cX1_init 127 = .ok (.aload_n 0, 1) := by decide +kernel
theorem dX1_init_128 : decode cX1_init 128 = .ok (.getfield 63, 3) := by decide +kernel
theorem dX1_init_131 : decode cX1_init 131 = .ok (.iload_n 2, 1) := by decide +kernel
theorem dX1_init_132 : decode cX1_init 132 = .ok (.iconst (-1), 1) := by decide +kernel
theorem dX1_init_133 : decode cX1_init 133 = .ok (.iastore, 1) := by decide +kernel
theorem dX1_init_134 : decode cX1_init 134 = .ok (.iinc 2 1, 3) := by decide +kernel
theorem dX1_init_137 : decode cX1_init 137 = .ok (.goto (-19), 3) := by decide +kernel
theorem dX1_init_140 : decode cX1_init 140 = .ok (.getstatic 18, 3) := by decide +kernel
theorem dX1_init_143 : decode cX1_init 143 = .ok (.aload_n 0, 1) := by decide +kernel
theorem dX1_init_144 : decode cX1_init 144 = .ok (.getfield 22, 3) := by decide +kernel
theorem dX1_init_147 : decode cX1_init 147 = .ok (.invokestatic 66, 3) := by decide +kernel
theorem dX1_init_150 : decode cX1_init 150 = .ok (.return_, 1) := by decide +kernel
theorem dX1_copyFrom_0 : decode cX1_copyFrom 0 = .ok (.aload_n 1, 1) := by decide +kernel
theorem dX1_copyFrom_1 : decode cX1_copyFrom 1 = .ok (.getfield 45, 3) := by decide +kernel
theorem dX1_copyFrom_4 : decode cX1_copyFrom 4 = .ok (.aload_n 0, 1) := by decide +kernel
theorem dX1_copyFrom_5 : decode cX1_copyFrom 5 = .ok (.getfield 45, 3) := by decide +kernel
theorem dX1_copyFrom_8 : decode cX1_copyFrom 8 = .ok (.invokestatic 66, 3) := by decide +kernel
theorem dX1_copyFrom_11 : decode cX1_copyFrom 11 = .ok (.aload_n 1, 1) := by decide +kernel
theorem dX1_copyFrom_12 : decode cX1_copyFrom 12 = .ok (.getfield 48, 3) := by decide +kernel
theorem dX1_copyFrom_15 : decode cX1_copyFrom 15 = .ok (.aload_n 0, 1) := by decide +kernel
theorem dX1_copyFrom_16 : decode cX1_copyFrom 16 = .ok (.getfield 48, 3) := by decide +kernel
theorem dX1_copyFrom_19 : decode cX1_copyFrom 19 = .ok (.invokestatic 66, 3) := by decide +kernel
theorem dX1_copyFrom_22 : decode cX1_copyFrom 22 = .ok (.aload_n 1, 1) := by decide +kernel
theorem dX1_copyFrom_23 : decode cX1_copyFrom 23 = .ok (.getfield 51, 3) := by decide +kernel
theorem dX1_copyFrom_26 : decode cX1_copyFrom 26 = .ok (.aload_n 0, 1) := by decide +kernel
theorem dX1_copyFrom_27 : decode cX1_copyFrom 27 = .ok (.getfield 51, 3) := by decide +kernel
theorem dX1_copyFrom_30 : decode cX1_copyFrom 30 = .ok (.invokestatic 66, 3) := by decide +kernel
theorem dX1_copyFrom_33 : decode cX1_copyFrom 33 = .ok (.aload_n 1, 1) := by decide +kernel
theorem dX1_copyFrom_34 : decode cX1_copyFrom 34 = .ok (.getfield 54, 3) := by decide +kernel
theorem dX1_copyFrom_37 : decode cX1_copyFrom 37 = .ok (.aload_n 0, 1) := by decide +kernel
theorem dX1_copyFrom_38 : decode cX1_copyFrom 38 = .ok (.getfield 54, 3) := by decide +kernel
theorem dX1_copyFrom_41 : decode cX1_copyFrom 41 = .ok (.invokestatic 66, 3) := by decide +kernel
theorem dX1_copyFrom_44 : decode cX1_copyFrom 44 = .ok (.aload_n 1, 1) := by decide +kernel
theorem dX1_copyFrom_45 : decode cX1_copyFrom 45 = .ok (.getfield 57, 3) := by decide +kernel
theorem dX1_copyFrom_48 : decode cX1_copyFrom 48 = .ok (.aload_n 0, 1) := by decide +kernel
theorem dX1_copyFrom_49 : decode cX1_copyFrom 49 = .ok (.getfield 57, 3) := by decide +kernel
theorem dX1_copyFrom_52 : decode cX1_copyFrom 52 = .ok (.invokestatic 66, 3) := by decide +kernel
theorem dX1_copyFrom_55 : decode cX1_copyFrom 55 = .ok (.aload_n 1, 1) := by decide +kernel
theorem dX1_copyFrom_56 : decode cX1_copyFrom 56 = .ok (.getfield 60, 3) := by decide +kernel
theorem dX1_copyFrom_59 : decode cX1_copyFrom 59 = .ok (.aload_n 0, 1) := by decide +kernel
theorem dX1_copyFrom_60 : decode cX1_copyFrom 60 = .ok (.getfield 60, 3) := by decide +kernel
theorem dX1_copyFrom_63 : decode cX1_copyFrom 63 = .ok (.invokestatic 66, 3) := by decide +kernel
theorem dX1_copyFrom_66 : decode cX1_copyFrom 66 = .ok (.aload_n 1, 1) := by decide +kernel
theorem dX1_copyFrom_67 : decode cX1_copyFrom 67 = .ok (.getfield 63, 3) := by decide +kernel
theorem dX1_copyFrom_70 : decode cX1_copyFrom 70 = .ok (.aload_n 0, 1) := by decide +kernel
theorem dX1_copyFrom_71 : decode cX1_copyFrom 71 = .ok (.getfield 63, 3) := by decide +kernel
theorem dX1_copyFrom_74 : decode cX1_copyFrom 74 = .ok (.invokestatic 66, 3) := by decide +kernel
theorem dX1_copyFrom_77 : decode cX1_copyFrom 77 = .ok (.aload_n 1, 1) := by decide +kernel
theorem dX1_copyFrom_78 : decode cX1_copyFrom 78 = .ok (.getfield 22, 3) := by decide +kernel
theorem dX1_copyFrom_81 : decode cX1_copyFrom 81 = .ok (.aload_n 0, 1) := by decide +kernel
theorem dX1_copyFrom_82 : decode cX1_copyFrom 82 = .ok (.getfield 22, 3) := by decide +kernel
theorem dX1_copyFrom_85 : decode cX1_copyFrom 85 = .ok (.invokestatic 66, 3) := by decide +kernel
theorem dX1_copyFrom_88 : decode cX1_copyFrom 88 = .ok (.aload_n 0, 1) := by decide +kernel
theorem dX1_copyFrom_89 : decode cX1_copyFrom 89 = .ok (.getfield 28, 3) := by decide +kernel
theorem dX1_copyFrom_92 : decode cX1_copyFrom 92 = .ok (.aload_n 1, 1) := by decide +kernel
theorem dX1_copyFrom_93 : decode cX1_copyFrom 93 = .ok (.getfield 28, 3) := by decide +kernel
theorem dX1_copyFrom_96 : decode cX1_copyFrom 96 = .ok (.invokevirtual 70, 3) := by decide +kernel
theorem dX1_copyFrom_99 : decode cX1_copyFrom 99 = .ok (.aload_n 0, 1) := by decide +kernel
theorem dX1_copyFrom_100 : decode cX1_copyFrom 100 = .ok (.aload_n 1, 1) := by decide +kernel
theorem dX1_copyFrom_101 : decode cX1_copyFrom 101 = .ok (.getfield 32, 3) := by decide +kernel
theorem dX1_copyFrom_104 : decode cX1_copyFrom 104 = .ok (.putfield 32, 3) := by decide +kernel
theorem dX1_copyFrom_107 : decode cX1_copyFrom 107 = .ok (.aload_n 0, 1) := by decide +kernel
theorem dX1_copyFrom_108 : decode cX1_copyFrom 108 = .ok (.aload_n 1, 1) := by decide +kernel
theorem dX1_copyFrom_109 : decode cX1_copyFrom 109 = .ok (.getfield 74, 3) := by decide +kernel
theorem dX1_copyFrom_112 : decode cX1_copyFrom 112 = .ok (.putfield 74, 3) := by decide +kernel
theorem dX1_copyFrom_115 : decode cX1_copyFrom 115 = .ok (.aload_n 0, 1) := by decide +kernel
theorem dX1_copyFrom_116 : decode cX1_copyFrom 116 = .ok (.aload_n 1, 1) := by decide +kernel
theorem dX1_copyFrom_117 : decode cX1_copyFrom 117 = .ok (.getfield 77, 3) := by decide +kernel
theorem dX1_copyFrom_120 : decode cX1_copyFrom 120 = .ok (.putfield 77, 3) := by decide +kernel
theorem dX1_copyFrom_123 : decode cX1_copyFrom 123 = .ok (.aload_n 0, 1) := by decide +kernel
theorem dX1_copyFrom_124 : decode cX1_copyFrom 124 = .ok (.aload_n 1, 1) := by decide +kernel
theorem dX1_copyFrom_125 : decode cX1_copyFrom 125 = .ok (.getfield 80, 3) := by decide +kernel
theorem dX1_copyFrom_128 : decode cX1_copyFrom 128 = .ok (.putfield 80, 3) := by decide +kernel
theorem dX1_copyFrom_131 : decode cX1_copyFrom 131 = .ok (.aload_n 0, 1) := by decide +kernel
theorem dX1_copyFrom_132 : decode cX1_copyFrom 132 = .ok (.aload_n 1, 1) := by decide +kernel
theorem dX1_copyFrom_133 : decode cX1_copyFrom 133 = .ok (.getfield 83, 3) := by decide +kernel
theorem dX1_copyFrom_136 : decode cX1_copyFrom 136 = .ok (.putfield 83, 3) := by decide +kernel
theorem dX1_copyFrom_139 : decode cX1_copyFrom 139 = .ok (.return_, 1) := by decide +kernel
theorem dX1_pile_0 : decode cX1_pile 0 = .ok (.aload_n 0, 1) := by decide +kernel
theorem dX1_pile_1 : decode cX1_pile 1 = .ok (.getfield 36, 3) := by decide +kernel
theorem dX1_pile_4 : decode cX1_pile 4 = .ok (.iload_n 1, 1) := by decide +kernel
theorem dX1_pile_5 : decode cX1_pile 5 = .ok (.invokevirtual 86, 3) := by decide +kernel
theorem dX1_pile_8 : decode cX1_pile 8 = .ok (.ifCond .ne 4, 3) := by decide +kernel
theorem dX1_pile_11 : decode cX1_pile 11 = .ok (.return_, 1) := by decide +kernel
theorem dX1_pile_12 : decode cX1_pile 12 = .ok (.aload_n 0, 1) := by decide +kernel
theorem dX1_pile_13 : decode cX1_pile 13 = .ok (.getfield 45, 3) := by decide +kernel
theorem dX1_pile_16 : decode cX1_pile 16 = .ok (.iload_n 1, 1) := by decide +kernel
theorem dX1_pile_17 : decode cX1_pile 17 = .ok (.iload_n 2, 1) := by decide +kernel
theorem dX1_pile_18 : decode cX1_pile 18 = .ok (.iastore, 1) := by decide +kernel
theorem dX1_pile_19 : decode cX1_pile 19 = .ok (.aload_n 0, 1) := by decide +kernel
theorem dX1_pile_20 : decode cX1_pile 20 = .ok (.getfield 48, 3) := by decide +kernel
theorem dX1_pile_23 : decode cX1_pile 23 = .ok (.iload_n 1, 1) := by decide +kernel
theorem dX1_pile_24 : decode cX1_pile 24 = .ok (.iload_n 2, 1) := by decide +kernel
theorem dX1_pile_25 : decode cX1_pile 25 = .ok (.iastore, 1) := by decide +kernel
theorem dX1_pile_26 : decode cX1_pile 26 = .ok (.aload_n 0, 1) := by decide +kernel
theorem dX1_pile_27 : decode cX1_pile 27 = .ok (.iload_n 1, 1) := by decide +kernel
theorem dX1_pile_28 : decode cX1_pile 28 = .ok (.invokevirtual 90, 3) := by decide +kernel
theorem dX1_pile_31 : decode cX1_pile 31 = .ok (.aload_n 0, 1) := by decide +kernel
theorem dX1_pile_32 : decode cX1_pile 32 = .ok (.getfield 12, 3) := by decide +kernel
theorem dX1_pile_35 : decode cX1_pile 35 = .ok (.iload_n 1, 1) := by decide +kernel
theorem dX1_pile_36 : decode cX1_pile 36 = .ok (.invokevirtual 94, 3) := by decide +kernel
theorem dX1_pile_39 : decode cX1_pile 39 = .ok (.aload_n 0, 1) := by decide +kernel
theorem dX1_pile_40 : decode cX1_pile 40 = .ok (.invokevirtual 97, 3) := by decide +kernel
theorem dX1_pile_43 : decode cX1_pile 43 = .ok (.return_, 1) := by decide +kernel
theorem dX1_put_0 : decode cX1_put 0 = .ok (.aload_n 0, 1) := by decide +kernel
theorem dX1_put_1 : decode cX1_put 1 = .ok (.getfield 36, 3) := by decide +kernel
theorem dX1_put_4 : decode cX1_put 4 = .ok (.iload_n 1, 1) := by decide +kernel
theorem dX1_put_5 : decode cX1_put 5 = .ok (.invokevirtual 86, 3) := by decide +kernel
theorem dX1_put_8 : decode cX1_put 8 = .ok (.ifCond .ne 4, 3) := by decide +kernel
theorem dX1_put_11 : decode cX1_put 11 = .ok (.return_, 1) := by decide +kernel
theorem dX1_put_12 : decode cX1_put 12 = .ok (.iload_n 2, 1) := by decide +kernel
theorem dX1_put_13 : decode cX1_put 13 = .ok (.tableswitch 57 0 2 #[27, 37, 47], 27) := by decide +kernel
theorem dX1_put_40 : decode cX1_put 40 = .ok (.aload_n 0, 1) := by decide +kernel
theorem dX1_put_41 : decode cX1_put 41 = .ok (.getfield 51, 3) := by decide +kernel
theorem dX1_put_44 : decode cX1_put 44 = .ok (.iload_n 1, 1) := by decide +kernel
theorem dX1_put_45 : decode cX1_put 45 = .ok (.iload_n 3, 1) := by decide +kernel
theorem dX1_put_46 : decode cX1_put 46 = .ok (.iastore, 1) := by decide +kernel
theorem dX1_put_47 : decode cX1_put 47 = .ok (.goto 37, 3) := by decide +kernel
theorem dX1_put_50 : decode cX1_put 50 = .ok (.aload_n 0, 1) := by decide +kernel
theorem dX1_put_51 : decode cX1_put 51 = .ok (.getfield 54, 3) := by decide +kernel
theorem dX1_put_54 : decode cX1_put 54 = .ok (.iload_n 1, 1) := by decide +kernel
theorem dX1_put_55 : decode cX1_put 55 = .ok (.iload_n 3, 1) := by decide +kernel
theorem dX1_put_56 : decode cX1_put 56 = .ok (.iastore, 1) := by decide +kernel
theorem dX1_put_57 : decode cX1_put 57 = .ok (.goto 27, 3) := by decide +kernel
theorem dX1_put_60 : decode cX1_put 60 = .ok (.aload_n 0, 1) := by decide +kernel
theorem dX1_put_61 : decode cX1_put 61 = .ok (.getfield 57, 3) := by decide +kernel
theorem dX1_put_64 : decode cX1_put 64 = .ok (.iload_n 1, 1) := by decide +kernel
theorem dX1_put_65 : decode cX1_put 65 = .ok (.iload_n 3, 1) := by decide +kernel
theorem dX1_put_66 : decode cX1_put 66 = .ok (.iastore, 1) := by decide +kernel
theorem dX1_put_67 : decode cX1_put 67 = .ok (.goto 17, 3) := by decide +kernel
theorem dX1_put_70 : decode cX1_put 70 = .ok (.aload_n 0, 1) := by decide +kernel
theorem dX1_put_71 : decode cX1_put 71 = .ok (.getfield 60, 3) := by decide +kernel
theorem dX1_put_74 : decode cX1_put 74 = .ok (.iload_n 1, 1) := by decide +kernel
theorem dX1_put_75 : decode cX1_put 75 = .ok (.iload_n 3, 1) := by decide +kernel
theorem dX1_put_76 : decode cX1_put 76 = .ok (.iastore, 1) := by decide +kernel
theorem dX1_put_77 : decode cX1_put 77 = .ok (.aload_n 0, 1) := by decide +kernel
theorem dX1_put_78 : decode cX1_put 78 = .ok (.getfield 63, 3) := by decide +kernel
theorem dX1_put_81 : decode cX1_put 81 = .ok (.iload_n 1, 1) := by decide +kernel
theorem dX1_put_82 : decode cX1_put 82 = .ok (.iconst (-1), 1) := by decide +kernel
theorem dX1_put_83 : decode cX1_put 83 = .ok (.iastore, 1) := by decide +kernel
theorem dX1_put_84 : decode cX1_put 84 = .ok (.return_, 1) := by decide +kernel
theorem dX1_look_0 : decode cX1_look 0 = .ok (.aload_n 0, 1) := by decide +kernel
theorem dX1_look_1 : decode cX1_look 1 = .ok (.getfield 36, 3) := by decide +kernel
theorem dX1_look_4 : decode cX1_look 4 = .ok (.iload_n 1, 1) := by decide +kernel
theorem dX1_look_5 : decode cX1_look 5 = .ok (.invokevirtual 86, 3) := by decide +kernel
theorem dX1_look_8 : decode cX1_look 8 = .ok (.ifCond .ne 5, 3) := by decide +kernel
theorem dX1_look_11 : decode cX1_look 11 = .ok (.iconst (-1), 1) := by decide +kernel
theorem dX1_look_12 : decode cX1_look 12 = .ok (.ireturn, 1) := by decide +kernel
theorem dX1_look_13 : decode cX1_look 13 = .ok (.iload_n 2, 1) := by decide +kernel
theorem dX1_look_14 : decode cX1_look 14 = .ok (.tableswitch 114 0 9 #[54, 61, 68, 75, 82, 89, 96, 96, 96, 96], 54) := by decide +kernel
theorem dX1_look_68 : decode cX1_look 68 = .ok (.aload_n 0, 1) := by decide +kernel
theorem dX1_look_69 : decode cX1_look 69 = .ok (.getfield 45, 3) := by decide +kernel
theorem dX1_look_72 : decode cX1_look 72 = .ok (.iload_n 1, 1) := by decide +kernel
theorem dX1_look_73 : decode cX1_look 73 = .ok (.iaload, 1) := by decide +kernel
theorem dX1_look_74 : decode cX1_look 74 = .ok (.ireturn, 1) := by decide +kernel
theorem dX1_look_75 : decode cX1_look 75 = .ok (.aload_n 0, 1) := by decide +kernel
theorem dX1_look_76 : decode cX1_look 76 = .ok (.getfield 51, 3) := by decide +kernel
theorem dX1_look_79 : decode cX1_look 79 = .ok (.iload_n 1, 1) := by decide +kernel
theorem dX1_look_80 : decode cX1_look 80 = .ok (.iaload, 1) := by decide +kernel
theorem dX1_look_81 : decode cX1_look 81 = .ok (.ireturn, 1) := by decide +kernel
theorem dX1_look_82 : decode cX1_look 82 = .ok (.aload_n 0, 1) := by decide +kernel
theorem dX1_look_83 : decode cX1_look 83 = .ok (.getfield 54, 3) := by decide +kernel
theorem dX1_look_86 : decode cX1_look 86 = .ok (.iload_n 1, 1) := by decide +kernel
theorem dX1_look_87 : decode cX1_look 87 = .ok (.iaload, 1) := by decide +kernel
theorem dX1_look_88 : decode cX1_look 88 = .ok (.ireturn, 1) := by decide +kernel
theorem dX1_look_89 : decode cX1_look 89 = .ok (.aload_n 0, 1) := by decide +kernel
theorem dX1_look_90 : decode cX1_look 90 = .ok (.getfield 57, 3) := by decide +kernel
theorem dX1_look_93 : decode cX1_look 93 = .ok (.iload_n 1, 1) := by decide +kernel
theorem dX1_look_94 : decode cX1_look 94 = .ok (.iaload, 1) := by decide +kernel
theorem dX1_look_95 : decode cX1_look 95 = .ok (.ireturn, 1) := by decide +kernel
theorem dX1_look_96 : decode cX1_look 96 = .ok (.aload_n 0, 1) := by decide +kernel
theorem dX1_look_97 : decode cX1_look 97 = .ok (.getfield 60, 3) := by decide +kernel
theorem dX1_look_100 : decode cX1_look 100 = .ok (.iload_n 1, 1) := by decide +kernel
theorem dX1_look_101 : decode cX1_look 101 = .ok (.iaload, 1) := by decide +kernel
theorem dX1_look_102 : decode cX1_look 102 = .ok (.ireturn, 1) := by decide +kernel
theorem dX1_look_103 : decode cX1_look 103 = .ok (.aload_n 0, 1) := by decide +kernel
theorem dX1_look_104 : decode cX1_look 104 = .ok (.getfield 63, 3) := by decide +kernel
theorem dX1_look_107 : decode cX1_look 107 = .ok (.iload_n 1, 1) := by decide +kernel
theorem dX1_look_108 : decode cX1_look 108 = .ok (.iaload, 1) := by decide +kernel
theorem dX1_look_109 : decode cX1_look 109 = .ok (.ireturn, 1) := by decide +kernel
theorem dX1_look_110 : decode cX1_look 110 = .ok (.aload_n 0, 1) := by decide +kernel
theorem dX1_look_111 : decode cX1_look 111 = .ok (.iload_n 1, 1) := by decide +kernel
theorem dX1_look_112 : decode cX1_look 112 = .ok (.iload_n 2, 1) := by decide +kernel
theorem dX1_look_113 : decode cX1_look 113 = .ok (.bipush 6, 2) := by decide +kernel
theorem dX1_look_115 : decode cX1_look 115 = .ok (.isub, 1) := by decide +kernel
theorem dX1_look_116 : decode cX1_look 116 = .ok (.invokevirtual 100, 3) := by decide +kernel
theorem dX1_look_119 : decode cX1_look 119 = .ok (.ifCond .eq 7, 3) := by decide +kernel
theorem dX1_look_122 : decode cX1_look 122 = .ok (.iconst 1, 1) := by decide +kernel
theorem dX1_look_123 : decode cX1_look 123 = .ok (.goto 4, 3) := by decide +kernel
theorem dX1_look_126 : decode cX1_look 126 = .ok (.iconst 0, 1) := by decide +kernel
theorem dX1_look_127 : decode cX1_look 127 = .ok (.ireturn, 1) := by decide +kernel
theorem dX1_look_128 : decode cX1_look 128 = .ok (.iconst (-1), 1) := by decide +kernel
theorem dX1_look_129 : decode cX1_look 129 = .ok (.ireturn, 1) := by decide +kernel
theorem dX1_grains_0 : decode cX1_grains 0 = .ok (.iconst 0, 1) := by decide +kernel
theorem dX1_grains_1 : decode cX1_grains 1 = .ok (.istore_n 1, 1) := by decide +kernel
theorem dX1_grains_2 : decode cX1_grains 2 = .ok (.iconst 0, 1) := by decide +kernel
theorem dX1_grains_3 : decode cX1_grains 3 = .ok (.istore_n 2, 1) := by decide +kernel
theorem dX1_grains_4 : decode cX1_grains 4 = .ok (.iload_n 2, 1) := by decide +kernel
theorem dX1_grains_5 : decode cX1_grains 5 = .ok (.aload_n 0, 1) := by decide +kernel
theorem dX1_grains_6 : decode cX1_grains 6 = .ok (.getfield 45, 3) := by decide +kernel
theorem dX1_grains_9 : decode cX1_grains 9 = .ok (.arraylength, 1) := by decide +kernel
theorem dX1_grains_10 : decode cX1_grains 10 = .ok (.if_icmp .ge 18, 3) := by decide +kernel
theorem dX1_grains_13 : decode cX1_grains 13 = .ok (.iload_n 1, 1) := by decide +kernel
theorem dX1_grains_14 : decode cX1_grains 14 = .ok (.aload_n 0, 1) := by decide +kernel
theorem dX1_grains_15 : decode cX1_grains 15 = .ok (.getfield 45, 3) := by decide +kernel
theorem dX1_grains_18 : decode cX1_grains 18 = .ok (.iload_n 2, 1) := by decide +kernel
theorem dX1_grains_19 : decode cX1_grains 19 = .ok (.iaload, 1) := by decide +kernel
theorem dX1_grains_20 : decode cX1_grains 20 = .ok (.iadd, 1) := by decide +kernel
theorem dX1_grains_21 : decode cX1_grains 21 = .ok (.istore_n 1, 1) := by decide +kernel
theorem dX1_grains_22 : decode cX1_grains 22 = .ok (.iinc 2 1, 3) := by decide +kernel
theorem dX1_grains_25 : decode cX1_grains 25 = .ok (.goto (-21), 3) := by decide +kernel
theorem dX1_grains_28 : decode cX1_grains 28 = .ok (.iload_n 1, 1) := by decide +kernel
theorem dX1_grains_29 : decode cX1_grains 29 = .ok (.ireturn, 1) := by decide +kernel
theorem dX1_grainsOnHouses_0 : decode cX1_grainsOnHouses 0 = .ok (.iconst 0, 1) := by decide +kernel
theorem dX1_grainsOnHouses_1 : decode cX1_grainsOnHouses 1 = .ok (.istore_n 1, 1) := by decide +kernel
theorem dX1_grainsOnHouses_2 : decode cX1_grainsOnHouses 2 = .ok (.iconst 0, 1) := by decide +kernel
theorem dX1_grainsOnHouses_3 : decode cX1_grainsOnHouses 3 = .ok (.istore_n 2, 1) := by decide +kernel
theorem dX1_grainsOnHouses_4 : decode cX1_grainsOnHouses 4 = .ok (.iload_n 2, 1) := by decide +kernel
theorem dX1_grainsOnHouses_5 : decode cX1_grainsOnHouses 5 = .ok (.aload_n 0, 1) := by decide +kernel
theorem dX1_grainsOnHouses_6 : decode cX1_grainsOnHouses 6 = .ok (.getfield 45, 3) := by decide +kernel
theorem dX1_grainsOnHouses_9 : decode cX1_grainsOnHouses 9 = .ok (.arraylength, 1) := by decide +kernel
theorem dX1_grainsOnHouses_10 : decode cX1_grainsOnHouses 10 = .ok (.if_icmp .ge 27, 3) := by decide +kernel
theorem dX1_grainsOnHouses_13 : decode cX1_grainsOnHouses 13 = .ok (.aload_n 0, 1) := by decide +kernel
theorem dX1_grainsOnHouses_14 : decode cX1_grainsOnHouses 14 = .ok (.getfield 60, 3) := by decide +kernel
theorem dX1_grainsOnHouses_17 : decode cX1_grainsOnHouses 17 = .ok (.iload_n 2, 1) := by decide +kernel
theorem dX1_grainsOnHouses_18 : decode cX1_grainsOnHouses 18 = .ok (.iaload, 1) := by decide +kernel
theorem dX1_grainsOnHouses_19 : decode cX1_grainsOnHouses 19 = .ok (.ifCond .le 12, 3) := by decide +kernel
theorem dX1_grainsOnHouses_22 : decode cX1_grainsOnHouses 22 = .ok (.iload_n 1, 1) := by decide +kernel
theorem dX1_grainsOnHouses_23 : decode cX1_grainsOnHouses 23 = .ok (.aload_n 0, 1) := by decide +kernel
theorem dX1_grainsOnHouses_24 : decode cX1_grainsOnHouses 24 = .ok (.getfield 45, 3) := by decide +kernel
theorem dX1_grainsOnHouses_27 : decode cX1_grainsOnHouses 27 = .ok (.iload_n 2, 1) := by decide +kernel
theorem dX1_grainsOnHouses_28 : decode cX1_grainsOnHouses 28 = .ok (.iaload, 1) := by decide +kernel
theorem dX1_grainsOnHouses_29 : decode cX1_grainsOnHouses 29 = .ok (.iadd, 1) := by decide +kernel
theorem dX1_grainsOnHouses_30 : decode cX1_grainsOnHouses 30 = .ok (.istore_n 1, 1) := by decide +kernel
theorem dX1_grainsOnHouses_31 : decode cX1_grainsOnHouses 31 = .ok (.iinc 2 1, 3) := by decide +kernel
theorem dX1_grainsOnHouses_34 : decode cX1_grainsOnHouses 34 = .ok (.goto (-30), 3) := by decide +kernel
theorem dX1_grainsOnHouses_37 : decode cX1_grainsOnHouses 37 = .ok (.iload_n 1, 1) := by decide +kernel
theorem dX1_grainsOnHouses_38 : decode cX1_grainsOnHouses 38 = .ok (.ireturn, 1) := by decide +kernel
theorem dX1_cut_0 : decode cX1_cut 0 = .ok (.iconst 0, 1) := by decide +kernel
theorem dX1_cut_1 : decode cX1_cut 1 = .ok (.istore_n 2, 1) := by decide +kernel
theorem dX1_cut_2 : decode cX1_cut 2 = .ok (.iconst 0, 1) := by decide +kernel
theorem dX1_cut_3 : decode cX1_cut 3 = .ok (.istore_n 3, 1) := by decide +kernel
theorem dX1_cut_4 : decode cX1_cut 4 = .ok (.iload_n 3, 1) := by decide +kernel
theorem dX1_cut_5 : decode cX1_cut 5 = .ok (.aload_n 0, 1) := by decide +kernel
theorem dX1_cut_6 : decode cX1_cut 6 = .ok (.getfield 36, 3) := by decide +kernel
theorem dX1_cut_9 : decode cX1_cut 9 = .ok (.getfield 104, 3) := by decide +kernel
theorem dX1_cut_12 : decode cX1_cut 12 = .ok (.if_icmp .ge 85, 3) := by decide +kernel
theorem dX1_cut_15 : decode cX1_cut 15 = .ok (.iload_n 1, 1) := by decide +kernel
theorem dX1_cut_16 : decode cX1_cut 16 = .ok (.istore 4, 2) := by decide +kernel
theorem dX1_cut_18 : decode cX1_cut 18 = .ok (.iconst 0, 1) := by decide +kernel
theorem dX1_cut_19 : decode cX1_cut 19 = .ok (.istore 5, 2) := by decide +kernel
theorem dX1_cut_21 : decode cX1_cut 21 = .ok (.iload 5, 2) := by decide +kernel
theorem dX1_cut_23 : decode cX1_cut 23 = .ok (.aload_n 0, 1) := by decide +kernel
theorem dX1_cut_24 : decode cX1_cut 24 = .ok (.getfield 36, 3) := by decide +kernel
theorem dX1_cut_27 : decode cX1_cut 27 = .ok (.getfield 107, 3) := by decide +kernel
theorem dX1_cut_30 : decode cX1_cut 30 = .ok (.if_icmp .ge 61, 3) := by decide +kernel
theorem dX1_cut_33 : decode cX1_cut 33 = .ok (.iload_n 3, 1) := by decide +kernel
theorem dX1_cut_34 : decode cX1_cut 34 = .ok (.aload_n 0, 1) := by decide +kernel
theorem dX1_cut_35 : decode cX1_cut 35 = .ok (.getfield 36, 3) := by decide +kernel
theorem dX1_cut_38 : decode cX1_cut 38 = .ok (.getfield 107, 3) := by decide +kernel
theorem dX1_cut_41 : decode cX1_cut 41 = .ok (.imul, 1) := by decide +kernel
theorem dX1_cut_42 : decode cX1_cut 42 = .ok (.iload 5, 2) := by decide +kernel
theorem dX1_cut_44 : decode cX1_cut 44 = .ok (.iadd, 1) := by decide +kernel
theorem dX1_cut_45 : decode cX1_cut 45 = .ok (.istore 6, 2) := by decide +kernel
theorem dX1_cut_47 : decode cX1_cut 47 = .ok (.iload 4, 2) := by decide +kernel
theorem dX1_cut_49 : decode cX1_cut 49 = .ok (.aload_n 0, 1) := by decide +kernel
theorem dX1_cut_50 : decode cX1_cut 50 = .ok (.getfield 45, 3) := by decide +kernel
theorem dX1_cut_53 : decode cX1_cut 53 = .ok (.iload 6, 2) := by decide +kernel
theorem dX1_cut_55 : decode cX1_cut 55 = .ok (.iaload, 1) := by decide +kernel
theorem dX1_cut_56 : decode cX1_cut 56 = .ok (.invokestatic 110, 3) := by decide +kernel
theorem dX1_cut_59 : decode cX1_cut 59 = .ok (.istore 7, 2) := by decide +kernel
theorem dX1_cut_61 : decode cX1_cut 61 = .ok (.aload_n 0, 1) := by decide +kernel
theorem dX1_cut_62 : decode cX1_cut 62 = .ok (.getfield 45, 3) := by decide +kernel
theorem dX1_cut_65 : decode cX1_cut 65 = .ok (.iload 6, 2) := by decide +kernel
theorem dX1_cut_67 : decode cX1_cut 67 = .ok (.dup2, 1) := by decide +kernel
theorem dX1_cut_68 : decode cX1_cut 68 = .ok (.iaload, 1) := by decide +kernel
theorem dX1_cut_69 : decode cX1_cut 69 = .ok (.iload 7, 2) := by decide +kernel
theorem dX1_cut_71 : decode cX1_cut 71 = .ok (.isub, 1) := by decide +kernel
theorem dX1_cut_72 : decode cX1_cut 72 = .ok (.iastore, 1) := by decide +kernel
theorem dX1_cut_73 : decode cX1_cut 73 = .ok (.iload 4, 2) := by decide +kernel
theorem dX1_cut_75 : decode cX1_cut 75 = .ok (.iload 7, 2) := by decide +kernel
theorem dX1_cut_77 : decode cX1_cut 77 = .ok (.isub, 1) := by decide +kernel
theorem dX1_cut_78 : decode cX1_cut 78 = .ok (.istore 4, 2) := by decide +kernel
theorem dX1_cut_80 : decode cX1_cut 80 = .ok (.iload_n 2, 1) := by decide +kernel
theorem dX1_cut_81 : decode cX1_cut 81 = .ok (.iload 7, 2) := by decide +kernel
theorem dX1_cut_83 : decode cX1_cut 83 = .ok (.iadd, 1) := by decide +kernel
theorem dX1_cut_84 : decode cX1_cut 84 = .ok (.istore_n 2, 1) := by decide +kernel
theorem dX1_cut_85 : decode cX1_cut 85 = .ok (.iinc 5 1, 3) := by decide +kernel
theorem dX1_cut_88 : decode cX1_cut 88 = .ok (.goto (-67), 3) := by decide +kernel
theorem dX1_cut_91 : decode cX1_cut 91 = .ok (.iinc 3 1, 3) := by decide +kernel
theorem dX1_cut_94 : decode cX1_cut 94 = .ok (.goto (-90), 3) := by decide +kernel
theorem dX1_cut_97 : decode cX1_cut 97 = .ok (.aload_n 0, 1) := by decide +kernel
theorem dX1_cut_98 : decode cX1_cut 98 = .ok (.dup, 1) := by decide +kernel
theorem dX1_cut_99 : decode cX1_cut 99 = .ok (.getfield 77, 3) := by decide +kernel
theorem dX1_cut_102 : decode cX1_cut 102 = .ok (.iload_n 2, 1) := by decide +kernel
theorem dX1_cut_103 : decode cX1_cut 103 = .ok (.iadd, 1) := by decide +kernel
theorem dX1_cut_104 : decode cX1_cut 104 = .ok (.putfield 77, 3) := by decide +kernel
theorem dX1_cut_107 : decode cX1_cut 107 = .ok (.aload_n 0, 1) := by decide +kernel
theorem dX1_cut_108 : decode cX1_cut 108 = .ok (.invokevirtual 116, 3) := by decide +kernel
theorem dX1_cut_111 : decode cX1_cut 111 = .ok (.iload_n 2, 1) := by decide +kernel
theorem dX1_cut_112 : decode cX1_cut 112 = .ok (.ireturn, 1) := by decide +kernel
theorem dX1_settleAll_0 : decode cX1_settleAll 0 = .ok (.iconst 0, 1) := by decide +kernel
theorem dX1_settleAll_1 : decode cX1_settleAll 1 = .ok (.istore_n 1, 1) := by decide +kernel
theorem dX1_settleAll_2 : decode cX1_settleAll 2 = .ok (.iload_n 1, 1) := by decide +kernel
theorem dX1_settleAll_3 : decode cX1_settleAll 3 = .ok (.aload_n 0, 1) := by decide +kernel
theorem dX1_settleAll_4 : decode cX1_settleAll 4 = .ok (.getfield 45, 3) := by decide +kernel
theorem dX1_settleAll_7 : decode cX1_settleAll 7 = .ok (.arraylength, 1) := by decide +kernel
theorem dX1_settleAll_8 : decode cX1_settleAll 8 = .ok (.if_icmp .ge 17, 3) := by decide +kernel
theorem dX1_settleAll_11 : decode cX1_settleAll 11 = .ok (.aload_n 0, 1) := by decide +kernel
theorem dX1_settleAll_12 : decode cX1_settleAll 12 = .ok (.getfield 12, 3) := by decide +kernel
theorem dX1_settleAll_15 : decode cX1_settleAll 15 = .ok (.iload_n 1, 1) := by decide +kernel
theorem dX1_settleAll_16 : decode cX1_settleAll 16 = .ok (.invokevirtual 94, 3) := by decide +kernel
theorem dX1_settleAll_19 : decode cX1_settleAll 19 = .ok (.iinc 1 1, 3) := by decide +kernel
theorem dX1_settleAll_22 : decode cX1_settleAll 22 = .ok (.goto (-20), 3) := by decide +kernel
theorem dX1_settleAll_25 : decode cX1_settleAll 25 = .ok (.aload_n 0, 1) := by decide +kernel
theorem dX1_settleAll_26 : decode cX1_settleAll 26 = .ok (.invokevirtual 97, 3) := by decide +kernel
theorem dX1_settleAll_29 : decode cX1_settleAll 29 = .ok (.return_, 1) := by decide +kernel
theorem dX1_doubtAbove_0 : decode cX1_doubtAbove 0 = .ok (.iconst 0, 1) := by decide +kernel
theorem dX1_doubtAbove_1 : decode cX1_doubtAbove 1 = .ok (.istore_n 2, 1) := by decide +kernel
theorem dX1_doubtAbove_2 : decode cX1_doubtAbove 2 = .ok (.iload_n 2, 1) := by decide +kernel
theorem dX1_doubtAbove_3 : decode cX1_doubtAbove 3 = .ok (.iconst 4, 1) := by decide +kernel
theorem dX1_doubtAbove_4 : decode cX1_doubtAbove 4 = .ok (.if_icmp .ge 54, 3) := by decide +kernel
theorem dX1_doubtAbove_7 : decode cX1_doubtAbove 7 = .ok (.aload_n 0, 1) := by decide +kernel
theorem dX1_doubtAbove_8 : decode cX1_doubtAbove 8 = .ok (.getfield 36, 3) := by decide +kernel
theorem dX1_doubtAbove_11 : decode cX1_doubtAbove 11 = .ok (.iload_n 1, 1) := by decide +kernel
theorem dX1_doubtAbove_12 : decode cX1_doubtAbove 12 = .ok (.iload_n 2, 1) := by decide +kernel
theorem dX1_doubtAbove_13 : decode cX1_doubtAbove 13 = .ok (.invokevirtual 119, 3) := by decide +kernel
theorem dX1_doubtAbove_16 : decode cX1_doubtAbove 16 = .ok (.istore_n 3, 1) := by decide +kernel
theorem dX1_doubtAbove_17 : decode cX1_doubtAbove 17 = .ok (.iload_n 3, 1) := by decide +kernel
theorem dX1_doubtAbove_18 : decode cX1_doubtAbove 18 = .ok (.iconst (-1), 1) := by decide +kernel
theorem dX1_doubtAbove_19 : decode cX1_doubtAbove 19 = .ok (.if_icmp .eq 33, 3) := by decide +kernel
theorem dX1_doubtAbove_22 : decode cX1_doubtAbove 22 = .ok (.aload_n 0, 1) := by decide +kernel
theorem dX1_doubtAbove_23 : decode cX1_doubtAbove 23 = .ok (.getfield 45, 3) := by decide +kernel
theorem dX1_doubtAbove_26 : decode cX1_doubtAbove 26 = .ok (.iload_n 3, 1) := by decide +kernel
theorem dX1_doubtAbove_27 : decode cX1_doubtAbove 27 = .ok (.iaload, 1) := by decide +kernel
theorem dX1_doubtAbove_28 : decode cX1_doubtAbove 28 = .ok (.aload_n 0, 1) := by decide +kernel
theorem dX1_doubtAbove_29 : decode cX1_doubtAbove 29 = .ok (.getfield 45, 3) := by decide +kernel
theorem dX1_doubtAbove_32 : decode cX1_doubtAbove 32 = .ok (.iload_n 1, 1) := by decide +kernel
theorem dX1_doubtAbove_33 : decode cX1_doubtAbove 33 = .ok (.iaload, 1) := by decide +kernel
theorem dX1_doubtAbove_34 : decode cX1_doubtAbove 34 = .ok (.isub, 1) := by decide +kernel
theorem dX1_doubtAbove_35 : decode cX1_doubtAbove 35 = .ok (.aload_n 0, 1) := by decide +kernel
theorem dX1_doubtAbove_36 : decode cX1_doubtAbove 36 = .ok (.getfield 22, 3) := by decide +kernel
theorem dX1_doubtAbove_39 : decode cX1_doubtAbove 39 = .ok (.iconst 3, 1) := by decide +kernel
theorem dX1_doubtAbove_40 : decode cX1_doubtAbove 40 = .ok (.iaload, 1) := by decide +kernel
theorem dX1_doubtAbove_41 : decode cX1_doubtAbove 41 = .ok (.if_icmp .le 11, 3) := by decide +kernel
theorem dX1_doubtAbove_44 : decode cX1_doubtAbove 44 = .ok (.aload_n 0, 1) := by decide +kernel
theorem dX1_doubtAbove_45 : decode cX1_doubtAbove 45 = .ok (.getfield 12, 3) := by decide +kernel
theorem dX1_doubtAbove_48 : decode cX1_doubtAbove 48 = .ok (.iload_n 3, 1) := by decide +kernel
theorem dX1_doubtAbove_49 : decode cX1_doubtAbove 49 = .ok (.invokevirtual 94, 3) := by decide +kernel
theorem dX1_doubtAbove_52 : decode cX1_doubtAbove 52 = .ok (.iinc 2 1, 3) := by decide +kernel
theorem dX1_doubtAbove_55 : decode cX1_doubtAbove 55 = .ok (.goto (-53), 3) := by decide +kernel
theorem dX1_doubtAbove_58 : decode cX1_doubtAbove 58 = .ok (.return_, 1) := by decide +kernel
theorem dX1_raise_0 : decode cX1_raise 0 = .ok (.aload_n 0, 1) := by decide +kernel
theorem dX1_raise_1 : decode cX1_raise 1 = .ok (.getfield 36, 3) := by decide +kernel
theorem dX1_raise_4 : decode cX1_raise 4 = .ok (.iload_n 1, 1) := by decide +kernel
theorem dX1_raise_5 : decode cX1_raise 5 = .ok (.invokevirtual 86, 3) := by decide +kernel
theorem dX1_raise_8 : decode cX1_raise 8 = .ok (.ifCond .ne 4, 3) := by decide +kernel
theorem dX1_raise_11 : decode cX1_raise 11 = .ok (.return_, 1) := by decide +kernel
theorem dX1_raise_12 : decode cX1_raise 12 = .ok (.aload_n 0, 1) := by decide +kernel
theorem dX1_raise_13 : decode cX1_raise 13 = .ok (.getfield 45, 3) := by decide +kernel
theorem dX1_raise_16 : decode cX1_raise 16 = .ok (.iload_n 1, 1) := by decide +kernel
theorem dX1_raise_17 : decode cX1_raise 17 = .ok (.dup2, 1) := by decide +kernel
theorem dX1_raise_18 : decode cX1_raise 18 = .ok (.iaload, 1) := by decide +kernel
theorem dX1_raise_19 : decode cX1_raise 19 = .ok (.iconst 1, 1) := by decide +kernel
theorem dX1_raise_20 : decode cX1_raise 20 = .ok (.iadd, 1) := by decide +kernel
theorem dX1_raise_21 : decode cX1_raise 21 = .ok (.iastore, 1) := by decide +kernel
theorem dX1_raise_22 : decode cX1_raise 22 = .ok (.aload_n 0, 1) := by decide +kernel
theorem dX1_raise_23 : decode cX1_raise 23 = .ok (.getfield 12, 3) := by decide +kernel
theorem dX1_raise_26 : decode cX1_raise 26 = .ok (.iload_n 1, 1) := by decide +kernel
theorem dX1_raise_27 : decode cX1_raise 27 = .ok (.invokevirtual 94, 3) := by decide +kernel
theorem dX1_raise_30 : decode cX1_raise 30 = .ok (.aload_n 0, 1) := by decide +kernel
theorem dX1_raise_31 : decode cX1_raise 31 = .ok (.invokevirtual 97, 3) := by decide +kernel
theorem dX1_raise_34 : decode cX1_raise 34 = .ok (.return_, 1) := by decide +kernel
theorem dX1_lower_0 : decode cX1_lower 0 = .ok (.aload_n 0, 1) := by decide +kernel
theorem dX1_lower_1 : decode cX1_lower 1 = .ok (.getfield 36, 3) := by decide +kernel
theorem dX1_lower_4 : decode cX1_lower 4 = .ok (.iload_n 1, 1) := by decide +kernel
theorem dX1_lower_5 : decode cX1_lower 5 = .ok (.invokevirtual 86, 3) := by decide +kernel
theorem dX1_lower_8 : decode cX1_lower 8 = .ok (.ifCond .ne 4, 3) := by decide +kernel
theorem dX1_lower_11 : decode cX1_lower 11 = .ok (.return_, 1) := by decide +kernel
theorem dX1_lower_12 : decode cX1_lower 12 = .ok (.aload_n 0, 1) := by decide +kernel
theorem dX1_lower_13 : decode cX1_lower 13 = .ok (.getfield 45, 3) := by decide +kernel
theorem dX1_lower_16 : decode cX1_lower 16 = .ok (.iload_n 1, 1) := by decide +kernel
theorem dX1_lower_17 : decode cX1_lower 17 = .ok (.dup2, 1) := by decide +kernel
theorem dX1_lower_18 : decode cX1_lower 18 = .ok (.iaload, 1) := by decide +kernel
theorem dX1_lower_19 : decode cX1_lower 19 = .ok (.iload_n 2, 1) := by decide +kernel
theorem dX1_lower_20 : decode cX1_lower 20 = .ok (.aload_n 0, 1) := by decide +kernel
theorem dX1_lower_21 : decode cX1_lower 21 = .ok (.getfield 45, 3) := by decide +kernel
theorem dX1_lower_24 : decode cX1_lower 24 = .ok (.iload_n 1, 1) := by decide +kernel
theorem dX1_lower_25 : decode cX1_lower 25 = .ok (.iaload, 1) := by decide +kernel
theorem dX1_lower_26 : decode cX1_lower 26 = .ok (.invokestatic 110, 3) := by decide +kernel
theorem dX1_lower_29 : decode cX1_lower 29 = .ok (.isub, 1) := by decide +kernel
theorem dX1_lower_30 : decode cX1_lower 30 = .ok (.iastore, 1) := by decide +kernel
theorem dX1_lower_31 : decode cX1_lower 31 = .ok (.aload_n 0, 1) := by decide +kernel
theorem dX1_lower_32 : decode cX1_lower 32 = .ok (.iload_n 1, 1) := by decide +kernel
theorem dX1_lower_33 : decode cX1_lower 33 = .ok (.invokevirtual 90, 3) := by decide +kernel
theorem dX1_lower_36 : decode cX1_lower 36 = .ok (.aload_n 0, 1) := by decide +kernel
theorem dX1_lower_37 : decode cX1_lower 37 = .ok (.invokevirtual 97, 3) := by decide +kernel
theorem dX1_lower_40 : decode cX1_lower 40 = .ok (.return_, 1) := by decide +kernel
theorem dX1_settle_0 : decode cX1_settle 0 = .ok (.iconst 0, 1) := by decide +kernel
theorem dX1_settle_1 : decode cX1_settle 1 = .ok (.istore_n 1, 1) := by decide +kernel
theorem dX1_settle_2 : decode cX1_settle 2 = .ok (.iload_n 1, 1) := by decide +kernel
theorem dX1_settle_3 : decode cX1_settle 3 = .ok (.ldc 122, 2) := by decide +kernel
theorem dX1_settle_5 : decode cX1_settle 5 = .ok (.if_icmp .ge 112, 3) := by decide +kernel
theorem dX1_settle_8 : decode cX1_settle 8 = .ok (.aload_n 0, 1) := by decide +kernel
theorem dX1_settle_9 : decode cX1_settle 9 = .ok (.getfield 12, 3) := by decide +kernel
theorem dX1_settle_12 : decode cX1_settle 12 = .ok (.invokevirtual 123, 3) := by decide +kernel
theorem dX1_settle_15 : decode cX1_settle 15 = .ok (.istore_n 2, 1) := by decide +kernel
theorem dX1_settle_16 : decode cX1_settle 16 = .ok (.aload_n 0, 1) := by decide +kernel
theorem dX1_settle_17 : decode cX1_settle 17 = .ok (.getfield 36, 3) := by decide +kernel
theorem dX1_settle_20 : decode cX1_settle 20 = .ok (.iload_n 2, 1) := by decide +kernel
theorem dX1_settle_21 : decode cX1_settle 21 = .ok (.invokevirtual 86, 3) := by decide +kernel
theorem dX1_settle_24 : decode cX1_settle 24 = .ok (.ifCond .ne 4, 3) := by decide +kernel
theorem dX1_settle_27 : decode cX1_settle 27 = .ok (.return_, 1) := by decide +kernel
theorem dX1_settle_28 : decode cX1_settle 28 = .ok (.aload_n 0, 1) := by decide +kernel
theorem dX1_settle_29 : decode cX1_settle 29 = .ok (.iload_n 2, 1) := by decide +kernel
theorem dX1_settle_30 : decode cX1_settle 30 = .ok (.invokevirtual 127, 3) := by decide +kernel
theorem dX1_settle_33 : decode cX1_settle 33 = .ok (.istore_n 3, 1) := by decide +kernel
theorem dX1_settle_34 : decode cX1_settle 34 = .ok (.aload_n 0, 1) := by decide +kernel
theorem dX1_settle_35 : decode cX1_settle 35 = .ok (.getfield 36, 3) := by decide +kernel
theorem dX1_settle_38 : decode cX1_settle 38 = .ok (.iload_n 3, 1) := by decide +kernel
theorem dX1_settle_39 : decode cX1_settle 39 = .ok (.invokevirtual 86, 3) := by decide +kernel
theorem dX1_settle_42 : decode cX1_settle 42 = .ok (.ifCond .eq 61, 3) := by decide +kernel
theorem dX1_settle_45 : decode cX1_settle 45 = .ok (.aload_n 0, 1) := by decide +kernel
theorem dX1_settle_46 : decode cX1_settle 46 = .ok (.getfield 45, 3) := by decide +kernel
theorem dX1_settle_49 : decode cX1_settle 49 = .ok (.iload_n 2, 1) := by decide +kernel
theorem dX1_settle_50 : decode cX1_settle 50 = .ok (.iaload, 1) := by decide +kernel
theorem dX1_settle_51 : decode cX1_settle 51 = .ok (.aload_n 0, 1) := by decide +kernel
theorem dX1_settle_52 : decode cX1_settle 52 = .ok (.getfield 45, 3) := by decide +kernel
theorem dX1_settle_55 : decode cX1_settle 55 = .ok (.iload_n 3, 1) := by decide +kernel
theorem dX1_settle_56 : decode cX1_settle 56 = .ok (.iaload, 1) := by decide +kernel
theorem dX1_settle_57 : decode cX1_settle 57 = .ok (.isub, 1) := by decide +kernel
theorem dX1_settle_58 : decode cX1_settle 58 = .ok (.aload_n 0, 1) := by decide +kernel
theorem dX1_settle_59 : decode cX1_settle 59 = .ok (.getfield 22, 3) := by decide +kernel
theorem dX1_settle_62 : decode cX1_settle 62 = .ok (.iconst 3, 1) := by decide +kernel
theorem dX1_settle_63 : decode cX1_settle 63 = .ok (.iaload, 1) := by decide +kernel
theorem dX1_settle_64 : decode cX1_settle 64 = .ok (.if_icmp .le 39, 3) := by decide +kernel
theorem dX1_settle_67 : decode cX1_settle 67 = .ok (.aload_n 0, 1) := by decide +kernel
theorem dX1_settle_68 : decode cX1_settle 68 = .ok (.getfield 45, 3) := by decide +kernel
theorem dX1_settle_71 : decode cX1_settle 71 = .ok (.iload_n 2, 1) := by decide +kernel
theorem dX1_settle_72 : decode cX1_settle 72 = .ok (.dup2, 1) := by decide +kernel
theorem dX1_settle_73 : decode cX1_settle 73 = .ok (.iaload, 1) := by decide +kernel
theorem dX1_settle_74 : decode cX1_settle 74 = .ok (.iconst 1, 1) := by decide +kernel
theorem dX1_settle_75 : decode cX1_settle 75 = .ok (.isub, 1) := by decide +kernel
theorem dX1_settle_76 : decode cX1_settle 76 = .ok (.iastore, 1) := by decide +kernel
theorem dX1_settle_77 : decode cX1_settle 77 = .ok (.aload_n 0, 1) := by decide +kernel
theorem dX1_settle_78 : decode cX1_settle 78 = .ok (.getfield 45, 3) := by decide +kernel
theorem dX1_settle_81 : decode cX1_settle 81 = .ok (.iload_n 3, 1) := by decide +kernel
theorem dX1_settle_82 : decode cX1_settle 82 = .ok (.dup2, 1) := by decide +kernel
theorem dX1_settle_83 : decode cX1_settle 83 = .ok (.iaload, 1) := by decide +kernel
theorem dX1_settle_84 : decode cX1_settle 84 = .ok (.iconst 1, 1) := by decide +kernel
theorem dX1_settle_85 : decode cX1_settle 85 = .ok (.iadd, 1) := by decide +kernel
theorem dX1_settle_86 : decode cX1_settle 86 = .ok (.iastore, 1) := by decide +kernel
theorem dX1_settle_87 : decode cX1_settle 87 = .ok (.aload_n 0, 1) := by decide +kernel
theorem dX1_settle_88 : decode cX1_settle 88 = .ok (.iload_n 2, 1) := by decide +kernel
theorem dX1_settle_89 : decode cX1_settle 89 = .ok (.invokevirtual 90, 3) := by decide +kernel
theorem dX1_settle_92 : decode cX1_settle 92 = .ok (.aload_n 0, 1) := by decide +kernel
theorem dX1_settle_93 : decode cX1_settle 93 = .ok (.getfield 12, 3) := by decide +kernel
theorem dX1_settle_96 : decode cX1_settle 96 = .ok (.iload_n 3, 1) := by decide +kernel
theorem dX1_settle_97 : decode cX1_settle 97 = .ok (.invokevirtual 94, 3) := by decide +kernel
theorem dX1_settle_100 : decode cX1_settle 100 = .ok (.goto 11, 3) := by decide +kernel
theorem dX1_settle_103 : decode cX1_settle 103 = .ok (.aload_n 0, 1) := by decide +kernel
theorem dX1_settle_104 : decode cX1_settle 104 = .ok (.getfield 12, 3) := by decide +kernel
theorem dX1_settle_107 : decode cX1_settle 107 = .ok (.iload_n 2, 1) := by decide +kernel
theorem dX1_settle_108 : decode cX1_settle 108 = .ok (.invokevirtual 131, 3) := by decide +kernel
theorem dX1_settle_111 : decode cX1_settle 111 = .ok (.iinc 1 1, 3) := by decide +kernel
theorem dX1_settle_114 : decode cX1_settle 114 = .ok (.goto (-112), 3) := by decide +kernel
theorem dX1_settle_117 : decode cX1_settle 117 = .ok (.return_, 1) := by decide +kernel
theorem dX1_lowestBeside_0 : decode cX1_lowestBeside 0 = .ok (.iconst (-1), 1) := by decide +kernel
theorem dX1_lowestBeside_1 : decode cX1_lowestBeside 1 = .ok (.istore_n 2, 1) := by decide +kernel
theorem dX1_lowestBeside_2 : decode cX1_lowestBeside 2 = .ok (.iconst 0, 1) := by decide +kernel
theorem dX1_lowestBeside_3 : decode cX1_lowestBeside 3 = .ok (.istore_n 3, 1) := by decide +kernel
theorem dX1_lowestBeside_4 : decode cX1_lowestBeside 4 = .ok (.iload_n 3, 1) := by decide +kernel
theorem dX1_lowestBeside_5 : decode cX1_lowestBeside 5 = .ok (.iconst 4, 1) := by decide +kernel
theorem dX1_lowestBeside_6 : decode cX1_lowestBeside 6 = .ok (.if_icmp .ge 50, 3) := by decide +kernel
theorem dX1_lowestBeside_9 : decode cX1_lowestBeside 9 = .ok (.aload_n 0, 1) := by decide +kernel
theorem dX1_lowestBeside_10 : decode cX1_lowestBeside 10 = .ok (.getfield 36, 3) := by decide +kernel
theorem dX1_lowestBeside_13 : decode cX1_lowestBeside 13 = .ok (.iload_n 1, 1) := by decide +kernel
theorem dX1_lowestBeside_14 : decode cX1_lowestBeside 14 = .ok (.iload_n 3, 1) := by decide +kernel
theorem dX1_lowestBeside_15 : decode cX1_lowestBeside 15 = .ok (.invokevirtual 119, 3) := by decide +kernel
theorem dX1_lowestBeside_18 : decode cX1_lowestBeside 18 = .ok (.istore 4, 2) := by decide +kernel
theorem dX1_lowestBeside_20 : decode cX1_lowestBeside 20 = .ok (.iload 4, 2) := by decide +kernel
theorem dX1_lowestBeside_22 : decode cX1_lowestBeside 22 = .ok (.iconst (-1), 1) := by decide +kernel
theorem dX1_lowestBeside_23 : decode cX1_lowestBeside 23 = .ok (.if_icmp .eq 27, 3) := by decide +kernel
theorem dX1_lowestBeside_26 : decode cX1_lowestBeside 26 = .ok (.iload_n 2, 1) := by decide +kernel
theorem dX1_lowestBeside_27 : decode cX1_lowestBeside 27 = .ok (.iconst (-1), 1) := by decide +kernel
theorem dX1_lowestBeside_28 : decode cX1_lowestBeside 28 = .ok (.if_icmp .eq 19, 3) := by decide +kernel
theorem dX1_lowestBeside_31 : decode cX1_lowestBeside 31 = .ok (.aload_n 0, 1) := by decide +kernel
theorem dX1_lowestBeside_32 : decode cX1_lowestBeside 32 = .ok (.getfield 45, 3) := by decide +kernel
theorem dX1_lowestBeside_35 : decode cX1_lowestBeside 35 = .ok (.iload 4, 2) := by decide +kernel
theorem dX1_lowestBeside_37 : decode cX1_lowestBeside 37 = .ok (.iaload, 1) := by decide +kernel
theorem dX1_lowestBeside_38 : decode cX1_lowestBeside 38 = .ok (.aload_n 0, 1) := by decide +kernel
theorem dX1_lowestBeside_39 : decode cX1_lowestBeside 39 = .ok (.getfield 45, 3) := by decide +kernel
theorem dX1_lowestBeside_42 : decode cX1_lowestBeside 42 = .ok (.iload_n 2, 1) := by decide +kernel
theorem dX1_lowestBeside_43 : decode cX1_lowestBeside 43 = .ok (.iaload, 1) := by decide +kernel
theorem dX1_lowestBeside_44 : decode cX1_lowestBeside 44 = .ok (.if_icmp .ge 6, 3) := by decide +kernel
theorem dX1_lowestBeside_47 : decode cX1_lowestBeside 47 = .ok (.iload 4, 2) := by decide +kernel
theorem dX1_lowestBeside_49 : decode cX1_lowestBeside 49 = .ok (.istore_n 2, 1) := by decide +kernel
theorem dX1_lowestBeside_50 : decode cX1_lowestBeside 50 = .ok (.iinc 3 1, 3) := by decide +kernel
theorem dX1_lowestBeside_53 : decode cX1_lowestBeside 53 = .ok (.goto (-49), 3) := by decide +kernel
theorem dX1_lowestBeside_56 : decode cX1_lowestBeside 56 = .ok (.iload_n 2, 1) := by decide +kernel
theorem dX1_lowestBeside_57 : decode cX1_lowestBeside 57 = .ok (.ireturn, 1) := by decide +kernel
theorem dX1_isInShadow_0 : decode cX1_isInShadow 0 = .ok (.iload_n 2, 1) := by decide +kernel
theorem dX1_isInShadow_1 : decode cX1_isInShadow 1 = .ok (.iconst 1, 1) := by decide +kernel
theorem dX1_isInShadow_2 : decode cX1_isInShadow 2 = .ok (.ixor, 1) := by decide +kernel
theorem dX1_isInShadow_3 : decode cX1_isInShadow 3 = .ok (.istore_n 3, 1) := by decide +kernel
theorem dX1_isInShadow_4 : decode cX1_isInShadow 4 = .ok (.iload_n 1, 1) := by decide +kernel
theorem dX1_isInShadow_5 : decode cX1_isInShadow 5 = .ok (.istore 4, 2) := by decide +kernel
theorem dX1_isInShadow_7 : decode cX1_isInShadow 7 = .ok (.iconst 1, 1) := by decide +kernel
theorem dX1_isInShadow_8 : decode cX1_isInShadow 8 = .ok (.istore 5, 2) := by decide +kernel
theorem dX1_isInShadow_10 : decode cX1_isInShadow 10 = .ok (.iload 5, 2) := by decide +kernel
theorem dX1_isInShadow_12 : decode cX1_isInShadow 12 = .ok (.bipush 8, 2) := by decide +kernel
theorem dX1_isInShadow_14 : decode cX1_isInShadow 14 = .ok (.if_icmp .gt 50, 3) := by decide +kernel
theorem dX1_isInShadow_17 : decode cX1_isInShadow 17 = .ok (.aload_n 0, 1) := by decide +kernel
theorem dX1_isInShadow_18 : decode cX1_isInShadow 18 = .ok (.getfield 36, 3) := by decide +kernel
theorem dX1_isInShadow_21 : decode cX1_isInShadow 21 = .ok (.iload 4, 2) := by decide +kernel
theorem dX1_isInShadow_23 : decode cX1_isInShadow 23 = .ok (.iload_n 3, 1) := by decide +kernel
theorem dX1_isInShadow_24 : decode cX1_isInShadow 24 = .ok (.invokevirtual 119, 3) := by decide +kernel
theorem dX1_isInShadow_27 : decode cX1_isInShadow 27 = .ok (.istore 4, 2) := by decide +kernel
theorem dX1_isInShadow_29 : decode cX1_isInShadow 29 = .ok (.iload 4, 2) := by decide +kernel
theorem dX1_isInShadow_31 : decode cX1_isInShadow 31 = .ok (.iconst (-1), 1) := by decide +kernel
theorem dX1_isInShadow_32 : decode cX1_isInShadow 32 = .ok (.if_icmp .ne 5, 3) := by decide +kernel
theorem dX1_isInShadow_35 : decode cX1_isInShadow 35 = .ok (.iconst 0, 1) := by decide +kernel
theorem dX1_isInShadow_36 : decode cX1_isInShadow 36 = .ok (.ireturn, 1) := by decide +kernel
theorem dX1_isInShadow_37 : decode cX1_isInShadow 37 = .ok (.aload_n 0, 1) := by decide +kernel
theorem dX1_isInShadow_38 : decode cX1_isInShadow 38 = .ok (.getfield 45, 3) := by decide +kernel
theorem dX1_isInShadow_41 : decode cX1_isInShadow 41 = .ok (.iload 4, 2) := by decide +kernel
theorem dX1_isInShadow_43 : decode cX1_isInShadow 43 = .ok (.iaload, 1) := by decide +kernel
theorem dX1_isInShadow_44 : decode cX1_isInShadow 44 = .ok (.aload_n 0, 1) := by decide +kernel
theorem dX1_isInShadow_45 : decode cX1_isInShadow 45 = .ok (.getfield 45, 3) := by decide +kernel
theorem dX1_isInShadow_48 : decode cX1_isInShadow 48 = .ok (.iload_n 1, 1) := by decide +kernel
theorem dX1_isInShadow_49 : decode cX1_isInShadow 49 = .ok (.iaload, 1) := by decide +kernel
theorem dX1_isInShadow_50 : decode cX1_isInShadow 50 = .ok (.isub, 1) := by decide +kernel
theorem dX1_isInShadow_51 : decode cX1_isInShadow 51 = .ok (.iload 5, 2) := by decide +kernel
theorem dX1_isInShadow_53 : decode cX1_isInShadow 53 = .ok (.if_icmp .lt 5, 3) := by decide +kernel
theorem dX1_isInShadow_56 : decode cX1_isInShadow 56 = .ok (.iconst 1, 1) := by decide +kernel
theorem dX1_isInShadow_57 : decode cX1_isInShadow 57 = .ok (.ireturn, 1) := by decide +kernel
theorem dX1_isInShadow_58 : decode cX1_isInShadow 58 = .ok (.iinc 5 1, 3) := by decide +kernel
theorem dX1_isInShadow_61 : decode cX1_isInShadow 61 = .ok (.goto (-51), 3) := by decide +kernel
theorem dX1_isInShadow_64 : decode cX1_isInShadow 64 = .ok (.iconst 0, 1) := by decide +kernel
theorem dX1_isInShadow_65 : decode cX1_isInShadow 65 = .ok (.ireturn, 1) := by decide +kernel
theorem dX1_draw_0 : decode cX1_draw 0 = .ok (.aload_n 0, 1) := by decide +kernel
theorem dX1_draw_1 : decode cX1_draw 1 = .ok (.aload_n 0, 1) := by decide +kernel
theorem dX1_draw_2 : decode cX1_draw 2 = .ok (.getfield 32, 3) := by decide +kernel
theorem dX1_draw_5 : decode cX1_draw 5 = .ok (.ldc 134, 2) := by decide +kernel
theorem dX1_draw_7 : decode cX1_draw 7 = .ok (.imul, 1) := by decide +kernel
theorem dX1_draw_8 : decode cX1_draw 8 = .ok (.sipush 12345, 3) := by decide +kernel
theorem dX1_draw_11 : decode cX1_draw 11 = .ok (.iadd, 1) := by decide +kernel
theorem dX1_draw_12 : decode cX1_draw 12 = .ok (.putfield 32, 3) := by decide +kernel
theorem dX1_draw_15 : decode cX1_draw 15 = .ok (.iload_n 1, 1) := by decide +kernel
theorem dX1_draw_16 : decode cX1_draw 16 = .ok (.ifCond .le 15, 3) := by decide +kernel
theorem dX1_draw_19 : decode cX1_draw 19 = .ok (.aload_n 0, 1) := by decide +kernel
theorem dX1_draw_20 : decode cX1_draw 20 = .ok (.getfield 32, 3) := by decide +kernel
theorem dX1_draw_23 : decode cX1_draw 23 = .ok (.bipush 16, 2) := by decide +kernel
theorem dX1_draw_25 : decode cX1_draw 25 = .ok (.iushr, 1) := by decide +kernel
theorem dX1_draw_26 : decode cX1_draw 26 = .ok (.iload_n 1, 1) := by decide +kernel
theorem dX1_draw_27 : decode cX1_draw 27 = .ok (.irem, 1) := by decide +kernel
theorem dX1_draw_28 : decode cX1_draw 28 = .ok (.goto 4, 3) := by decide +kernel
theorem dX1_draw_31 : decode cX1_draw 31 = .ok (.iconst 0, 1) := by decide +kernel
theorem dX1_draw_32 : decode cX1_draw 32 = .ok (.ireturn, 1) := by decide +kernel
theorem dX1_canPass_0 : decode cX1_canPass 0 = .ok (.iload_n 1, 1) := by decide +kernel
theorem dX1_canPass_1 : decode cX1_canPass 1 = .ok (.iconst 1, 1) := by decide +kernel
theorem dX1_canPass_2 : decode cX1_canPass 2 = .ok (.bipush 60, 2) := by decide +kernel
theorem dX1_canPass_4 : decode cX1_canPass 4 = .ok (.invokestatic 135, 3) := by decide +kernel
theorem dX1_canPass_7 : decode cX1_canPass 7 = .ok (.ifCond .eq 19, 3) := by decide +kernel
theorem dX1_canPass_10 : decode cX1_canPass 10 = .ok (.aload_n 0, 1) := by decide +kernel
theorem dX1_canPass_11 : decode cX1_canPass 11 = .ok (.getfield 74, 3) := by decide +kernel
theorem dX1_canPass_14 : decode cX1_canPass 14 = .ok (.iload_n 1, 1) := by decide +kernel
theorem dX1_canPass_15 : decode cX1_canPass 15 = .ok (.iadd, 1) := by decide +kernel
theorem dX1_canPass_16 : decode cX1_canPass 16 = .ok (.sipush 3000, 3) := by decide +kernel
theorem dX1_canPass_19 : decode cX1_canPass 19 = .ok (.if_icmp .gt 7, 3) := by decide +kernel
theorem dX1_canPass_22 : decode cX1_canPass 22 = .ok (.iconst 1, 1) := by decide +kernel
theorem dX1_canPass_23 : decode cX1_canPass 23 = .ok (.goto 4, 3) := by decide +kernel
theorem dX1_canPass_26 : decode cX1_canPass 26 = .ok (.iconst 0, 1) := by decide +kernel
theorem dX1_canPass_27 : decode cX1_canPass 27 = .ok (.ireturn, 1) := by decide +kernel
theorem dX1_pass_0 : decode cX1_pass 0 = .ok (.iconst 0, 1) := by decide +kernel
theorem dX1_pass_1 : decode cX1_pass 1 = .ok (.istore_n 2, 1) := by decide +kernel
theorem dX1_pass_2 : decode cX1_pass 2 = .ok (.iload_n 2, 1) := by decide +kernel
theorem dX1_pass_3 : decode cX1_pass 3 = .ok (.iload_n 1, 1) := by decide +kernel
theorem dX1_pass_4 : decode cX1_pass 4 = .ok (.if_icmp .ge 70, 3) := by decide +kernel
theorem dX1_pass_7 : decode cX1_pass 7 = .ok (.aload_n 0, 1) := by decide +kernel
theorem dX1_pass_8 : decode cX1_pass 8 = .ok (.getfield 28, 3) := by decide +kernel
theorem dX1_pass_11 : decode cX1_pass 11 = .ok (.invokevirtual 139, 3) := by decide +kernel
theorem dX1_pass_14 : decode cX1_pass 14 = .ok (.istore_n 3, 1) := by decide +kernel
theorem dX1_pass_15 : decode cX1_pass 15 = .ok (.iload_n 3, 1) := by decide +kernel
theorem dX1_pass_16 : decode cX1_pass 16 = .ok (.ifCond .ne 7, 3) := by decide +kernel
theorem dX1_pass_19 : decode cX1_pass 19 = .ok (.aload_n 0, 1) := by decide +kernel
theorem dX1_pass_20 : decode cX1_pass 20 = .ok (.invokevirtual 142, 3) := by decide +kernel
theorem dX1_pass_23 : decode cX1_pass 23 = .ok (.iload_n 3, 1) := by decide +kernel
theorem dX1_pass_24 : decode cX1_pass 24 = .ok (.iconst 4, 1) := by decide +kernel
theorem dX1_pass_25 : decode cX1_pass 25 = .ok (.if_icmp .eq 8, 3) := by decide +kernel
theorem dX1_pass_28 : decode cX1_pass 28 = .ok (.aload_n 0, 1) := by decide +kernel
theorem dX1_pass_29 : decode cX1_pass 29 = .ok (.iload_n 3, 1) := by decide +kernel
theorem dX1_pass_30 : decode cX1_pass 30 = .ok (.invokevirtual 145, 3) := by decide +kernel
theorem dX1_pass_33 : decode cX1_pass 33 = .ok (.aload_n 0, 1) := by decide +kernel
theorem dX1_pass_34 : decode cX1_pass 34 = .ok (.getfield 28, 3) := by decide +kernel
theorem dX1_pass_37 : decode cX1_pass 37 = .ok (.invokevirtual 148, 3) := by decide +kernel
theorem dX1_pass_40 : decode cX1_pass 40 = .ok (.aload_n 0, 1) := by decide +kernel
theorem dX1_pass_41 : decode cX1_pass 41 = .ok (.dup, 1) := by decide +kernel
theorem dX1_pass_42 : decode cX1_pass 42 = .ok (.getfield 74, 3) := by decide +kernel
theorem dX1_pass_45 : decode cX1_pass 45 = .ok (.iconst 1, 1) := by decide +kernel
theorem dX1_pass_46 : decode cX1_pass 46 = .ok (.iadd, 1) := by decide +kernel
theorem dX1_pass_47 : decode cX1_pass 47 = .ok (.putfield 74, 3) := by decide +kernel
theorem dX1_pass_50 : decode cX1_pass 50 = .ok (.aload_n 0, 1) := by decide +kernel
theorem dX1_pass_51 : decode cX1_pass 51 = .ok (.invokevirtual 151, 3) := by decide +kernel
theorem dX1_pass_54 : decode cX1_pass 54 = .ok (.aload_n 0, 1) := by decide +kernel
theorem dX1_pass_55 : decode cX1_pass 55 = .ok (.getfield 74, 3) := by decide +kernel
theorem dX1_pass_58 : decode cX1_pass 58 = .ok (.bipush 30, 2) := by decide +kernel
theorem dX1_pass_60 : decode cX1_pass 60 = .ok (.irem, 1) := by decide +kernel
theorem dX1_pass_61 : decode cX1_pass 61 = .ok (.ifCond .ne 7, 3) := by decide +kernel
theorem dX1_pass_64 : decode cX1_pass 64 = .ok (.aload_n 0, 1) := by decide +kernel
theorem dX1_pass_65 : decode cX1_pass 65 = .ok (.invokevirtual 154, 3) := by decide +kernel
theorem dX1_pass_68 : decode cX1_pass 68 = .ok (.iinc 2 1, 3) := by decide +kernel
theorem dX1_pass_71 : decode cX1_pass 71 = .ok (.goto (-69), 3) := by decide +kernel
theorem dX1_pass_74 : decode cX1_pass 74 = .ok (.return_, 1) := by decide +kernel
theorem dX1_bringSupply_0 : decode cX1_bringSupply 0 = .ok (.iconst 0, 1) := by decide +kernel
theorem dX1_bringSupply_1 : decode cX1_bringSupply 1 = .ok (.istore_n 1, 1) := by decide +kernel
theorem dX1_bringSupply_2 : decode cX1_bringSupply 2 = .ok (.iload_n 1, 1) := by decide +kernel
theorem dX1_bringSupply_3 : decode cX1_bringSupply 3 = .ok (.aload_n 0, 1) := by decide +kernel
theorem dX1_bringSupply_4 : decode cX1_bringSupply 4 = .ok (.getfield 22, 3) := by decide +kernel
theorem dX1_bringSupply_7 : decode cX1_bringSupply 7 = .ok (.iconst 4, 1) := by decide +kernel
theorem dX1_bringSupply_8 : decode cX1_bringSupply 8 = .ok (.iaload, 1) := by decide +kernel
theorem dX1_bringSupply_9 : decode cX1_bringSupply 9 = .ok (.if_icmp .ge 42, 3) := by decide +kernel
theorem dX1_bringSupply_12 : decode cX1_bringSupply 12 = .ok (.aload_n 0, 1) := by decide +kernel
theorem dX1_bringSupply_13 : decode cX1_bringSupply 13 = .ok (.dup, 1) := by decide +kernel
theorem dX1_bringSupply_14 : decode cX1_bringSupply 14 = .ok (.getfield 83, 3) := by decide +kernel
theorem dX1_bringSupply_17 : decode cX1_bringSupply 17 = .ok (.iconst 1, 1) := by decide +kernel
theorem dX1_bringSupply_18 : decode cX1_bringSupply 18 = .ok (.iadd, 1) := by decide +kernel
theorem dX1_bringSupply_19 : decode cX1_bringSupply 19 = .ok (.putfield 83, 3) := by decide +kernel
theorem dX1_bringSupply_22 : decode cX1_bringSupply 22 = .ok (.aload_n 0, 1) := by decide +kernel
theorem dX1_bringSupply_23 : decode cX1_bringSupply 23 = .ok (.aload_n 0, 1) := by decide +kernel
theorem dX1_bringSupply_24 : decode cX1_bringSupply 24 = .ok (.aload_n 0, 1) := by decide +kernel
theorem dX1_bringSupply_25 : decode cX1_bringSupply 25 = .ok (.getfield 36, 3) := by decide +kernel
theorem dX1_bringSupply_28 : decode cX1_bringSupply 28 = .ok (.getfield 104, 3) := by decide +kernel
theorem dX1_bringSupply_31 : decode cX1_bringSupply 31 = .ok (.invokevirtual 157, 3) := by decide +kernel
theorem dX1_bringSupply_34 : decode cX1_bringSupply 34 = .ok (.aload_n 0, 1) := by decide +kernel
theorem dX1_bringSupply_35 : decode cX1_bringSupply 35 = .ok (.getfield 36, 3) := by decide +kernel
theorem dX1_bringSupply_38 : decode cX1_bringSupply 38 = .ok (.getfield 107, 3) := by decide +kernel
theorem dX1_bringSupply_41 : decode cX1_bringSupply 41 = .ok (.imul, 1) := by decide +kernel
theorem dX1_bringSupply_42 : decode cX1_bringSupply 42 = .ok (.invokevirtual 160, 3) := by decide +kernel
theorem dX1_bringSupply_45 : decode cX1_bringSupply 45 = .ok (.iinc 1 1, 3) := by decide +kernel
theorem dX1_bringSupply_48 : decode cX1_bringSupply 48 = .ok (.goto (-46), 3) := by decide +kernel
theorem dX1_bringSupply_51 : decode cX1_bringSupply 51 = .ok (.return_, 1) := by decide +kernel
theorem dX1_blow_0 : decode cX1_blow 0 = .ok (.iconst 0, 1) := by decide +kernel
theorem dX1_blow_1 : decode cX1_blow 1 = .ok (.istore_n 2, 1) := by decide +kernel
theorem dX1_blow_2 : decode cX1_blow 2 = .ok (.iload_n 2, 1) := by decide +kernel
theorem dX1_blow_3 : decode cX1_blow 3 = .ok (.aload_n 0, 1) := by decide +kernel
theorem dX1_blow_4 : decode cX1_blow 4 = .ok (.getfield 45, 3) := by decide +kernel
theorem dX1_blow_7 : decode cX1_blow 7 = .ok (.arraylength, 1) := by decide +kernel
theorem dX1_blow_8 : decode cX1_blow 8 = .ok (.if_icmp .ge 62, 3) := by decide +kernel
theorem dX1_blow_11 : decode cX1_blow 11 = .ok (.aload_n 0, 1) := by decide +kernel
theorem dX1_blow_12 : decode cX1_blow 12 = .ok (.aload_n 0, 1) := by decide +kernel
theorem dX1_blow_13 : decode cX1_blow 13 = .ok (.getfield 45, 3) := by decide +kernel
theorem dX1_blow_16 : decode cX1_blow 16 = .ok (.arraylength, 1) := by decide +kernel
theorem dX1_blow_17 : decode cX1_blow 17 = .ok (.invokevirtual 157, 3) := by decide +kernel
theorem dX1_blow_20 : decode cX1_blow 20 = .ok (.istore_n 3, 1) := by decide +kernel
theorem dX1_blow_21 : decode cX1_blow 21 = .ok (.aload_n 0, 1) := by decide +kernel
theorem dX1_blow_22 : decode cX1_blow 22 = .ok (.iload_n 3, 1) := by decide +kernel
theorem dX1_blow_23 : decode cX1_blow 23 = .ok (.iload_n 1, 1) := by decide +kernel
theorem dX1_blow_24 : decode cX1_blow 24 = .ok (.invokevirtual 163, 3) := by decide +kernel
theorem dX1_blow_27 : decode cX1_blow 27 = .ok (.ifCond .eq 37, 3) := by decide +kernel
theorem dX1_blow_30 : decode cX1_blow 30 = .ok (.aload_n 0, 1) := by decide +kernel
theorem dX1_blow_31 : decode cX1_blow 31 = .ok (.iload_n 3, 1) := by decide +kernel
theorem dX1_blow_32 : decode cX1_blow 32 = .ok (.iconst 1, 1) := by decide +kernel
theorem dX1_blow_33 : decode cX1_blow 33 = .ok (.invokevirtual 166, 3) := by decide +kernel
theorem dX1_blow_36 : decode cX1_blow 36 = .ok (.aload_n 0, 1) := by decide +kernel
theorem dX1_blow_37 : decode cX1_blow 37 = .ok (.iload_n 3, 1) := by decide +kernel
theorem dX1_blow_38 : decode cX1_blow 38 = .ok (.iload_n 1, 1) := by decide +kernel
theorem dX1_blow_39 : decode cX1_blow 39 = .ok (.invokevirtual 170, 3) := by decide +kernel
theorem dX1_blow_42 : decode cX1_blow 42 = .ok (.istore 4, 2) := by decide +kernel
theorem dX1_blow_44 : decode cX1_blow 44 = .ok (.iload 4, 2) := by decide +kernel
theorem dX1_blow_46 : decode cX1_blow 46 = .ok (.iconst (-1), 1) := by decide +kernel
theorem dX1_blow_47 : decode cX1_blow 47 = .ok (.if_icmp .ne 11, 3) := by decide +kernel
theorem dX1_blow_50 : decode cX1_blow 50 = .ok (.aload_n 0, 1) := by decide +kernel
theorem dX1_blow_51 : decode cX1_blow 51 = .ok (.iload_n 1, 1) := by decide +kernel
theorem dX1_blow_52 : decode cX1_blow 52 = .ok (.invokevirtual 173, 3) := by decide +kernel
theorem dX1_blow_55 : decode cX1_blow 55 = .ok (.goto 9, 3) := by decide +kernel
theorem dX1_blow_58 : decode cX1_blow 58 = .ok (.aload_n 0, 1) := by decide +kernel
theorem dX1_blow_59 : decode cX1_blow 59 = .ok (.iload 4, 2) := by decide +kernel
theorem dX1_blow_61 : decode cX1_blow 61 = .ok (.invokevirtual 160, 3) := by decide +kernel
theorem dX1_blow_64 : decode cX1_blow 64 = .ok (.iinc 2 1, 3) := by decide +kernel
theorem dX1_blow_67 : decode cX1_blow 67 = .ok (.goto (-65), 3) := by decide +kernel
theorem dX1_blow_70 : decode cX1_blow 70 = .ok (.return_, 1) := by decide +kernel
theorem dX1_isLifted_0 : decode cX1_isLifted 0 = .ok (.aload_n 0, 1) := by decide +kernel
theorem dX1_isLifted_1 : decode cX1_isLifted 1 = .ok (.getfield 36, 3) := by decide +kernel
theorem dX1_isLifted_4 : decode cX1_isLifted 4 = .ok (.iload_n 1, 1) := by decide +kernel
theorem dX1_isLifted_5 : decode cX1_isLifted 5 = .ok (.invokevirtual 86, 3) := by decide +kernel
theorem dX1_isLifted_8 : decode cX1_isLifted 8 = .ok (.ifCond .eq 30, 3) := by decide +kernel
theorem dX1_isLifted_11 : decode cX1_isLifted 11 = .ok (.aload_n 0, 1) := by decide +kernel
theorem dX1_isLifted_12 : decode cX1_isLifted 12 = .ok (.getfield 45, 3) := by decide +kernel
theorem dX1_isLifted_15 : decode cX1_isLifted 15 = .ok (.iload_n 1, 1) := by decide +kernel
theorem dX1_isLifted_16 : decode cX1_isLifted 16 = .ok (.iaload, 1) := by decide +kernel
theorem dX1_isLifted_17 : decode cX1_isLifted 17 = .ok (.ifCond .eq 21, 3) := by decide +kernel
theorem dX1_isLifted_20 : decode cX1_isLifted 20 = .ok (.aload_n 0, 1) := by decide +kernel
theorem dX1_isLifted_21 : decode cX1_isLifted 21 = .ok (.getfield 60, 3) := by decide +kernel
theorem dX1_isLifted_24 : decode cX1_isLifted 24 = .ok (.iload_n 1, 1) := by decide +kernel
theorem dX1_isLifted_25 : decode cX1_isLifted 25 = .ok (.iaload, 1) := by decide +kernel
theorem dX1_isLifted_26 : decode cX1_isLifted 26 = .ok (.ifCond .gt 12, 3) := by decide +kernel
theorem dX1_isLifted_29 : decode cX1_isLifted 29 = .ok (.aload_n 0, 1) := by decide +kernel
theorem dX1_isLifted_30 : decode cX1_isLifted 30 = .ok (.iload_n 1, 1) := by decide +kernel
theorem dX1_isLifted_31 : decode cX1_isLifted 31 = .ok (.iload_n 2, 1) := by decide +kernel
theorem dX1_isLifted_32 : decode cX1_isLifted 32 = .ok (.invokevirtual 100, 3) := by decide +kernel
theorem dX1_isLifted_35 : decode cX1_isLifted 35 = .ok (.ifCond .eq 5, 3) := by decide +kernel
theorem dX1_isLifted_38 : decode cX1_isLifted 38 = .ok (.iconst 0, 1) := by decide +kernel
theorem dX1_isLifted_39 : decode cX1_isLifted 39 = .ok (.ireturn, 1) := by decide +kernel
theorem dX1_isLifted_40 : decode cX1_isLifted 40 = .ok (.aload_n 0, 1) := by decide +kernel
theorem dX1_isLifted_41 : decode cX1_isLifted 41 = .ok (.getfield 51, 3) := by decide +kernel
theorem dX1_isLifted_44 : decode cX1_isLifted 44 = .ok (.iload_n 1, 1) := by decide +kernel
theorem dX1_isLifted_45 : decode cX1_isLifted 45 = .ok (.iaload, 1) := by decide +kernel
theorem dX1_isLifted_46 : decode cX1_isLifted 46 = .ok (.ifCond .eq 18, 3) := by decide +kernel
theorem dX1_isLifted_49 : decode cX1_isLifted 49 = .ok (.aload_n 0, 1) := by decide +kernel
theorem dX1_isLifted_50 : decode cX1_isLifted 50 = .ok (.bipush 100, 2) := by decide +kernel
theorem dX1_isLifted_52 : decode cX1_isLifted 52 = .ok (.invokevirtual 157, 3) := by decide +kernel
theorem dX1_isLifted_55 : decode cX1_isLifted 55 = .ok (.aload_n 0, 1) := by decide +kernel
theorem dX1_isLifted_56 : decode cX1_isLifted 56 = .ok (.getfield 51, 3) := by decide +kernel
theorem dX1_isLifted_59 : decode cX1_isLifted 59 = .ok (.iload_n 1, 1) := by decide +kernel
theorem dX1_isLifted_60 : decode cX1_isLifted 60 = .ok (.iaload, 1) := by decide +kernel
theorem dX1_isLifted_61 : decode cX1_isLifted 61 = .ok (.if_icmp .lt 7, 3) := by decide +kernel
theorem dX1_isLifted_64 : decode cX1_isLifted 64 = .ok (.iconst 1, 1) := by decide +kernel
theorem dX1_isLifted_65 : decode cX1_isLifted 65 = .ok (.goto 4, 3) := by decide +kernel
theorem dX1_isLifted_68 : decode cX1_isLifted 68 = .ok (.iconst 0, 1) := by decide +kernel
theorem dX1_isLifted_69 : decode cX1_isLifted 69 = .ok (.ireturn, 1) := by decide +kernel
theorem dX1_landing_0 : decode cX1_landing 0 = .ok (.iload_n 1, 1) := by decide +kernel
theorem dX1_landing_1 : decode cX1_landing 1 = .ok (.istore_n 3, 1) := by decide +kernel
theorem dX1_landing_2 : decode cX1_landing 2 = .ok (.iconst 1, 1) := by decide +kernel
theorem dX1_landing_3 : decode cX1_landing 3 = .ok (.istore 4, 2) := by decide +kernel
theorem dX1_landing_5 : decode cX1_landing 5 = .ok (.iload 4, 2) := by decide +kernel
theorem dX1_landing_7 : decode cX1_landing 7 = .ok (.bipush 10, 2) := by decide +kernel
theorem dX1_landing_9 : decode cX1_landing 9 = .ok (.if_icmp .gt 39, 3) := by decide +kernel
theorem dX1_landing_12 : decode cX1_landing 12 = .ok (.aload_n 0, 1) := by decide +kernel
theorem dX1_landing_13 : decode cX1_landing 13 = .ok (.iload_n 3, 1) := by decide +kernel
theorem dX1_landing_14 : decode cX1_landing 14 = .ok (.iload_n 2, 1) := by decide +kernel
theorem dX1_landing_15 : decode cX1_landing 15 = .ok (.invokevirtual 176, 3) := by decide +kernel
theorem dX1_landing_18 : decode cX1_landing 18 = .ok (.istore_n 3, 1) := by decide +kernel
theorem dX1_landing_19 : decode cX1_landing 19 = .ok (.iload_n 3, 1) := by decide +kernel
theorem dX1_landing_20 : decode cX1_landing 20 = .ok (.iconst (-1), 1) := by decide +kernel
theorem dX1_landing_21 : decode cX1_landing 21 = .ok (.if_icmp .eq 19, 3) := by decide +kernel
theorem dX1_landing_24 : decode cX1_landing 24 = .ok (.iload 4, 2) := by decide +kernel
theorem dX1_landing_26 : decode cX1_landing 26 = .ok (.bipush 10, 2) := by decide +kernel
theorem dX1_landing_28 : decode cX1_landing 28 = .ok (.if_icmp .eq 12, 3) := by decide +kernel
theorem dX1_landing_31 : decode cX1_landing 31 = .ok (.aload_n 0, 1) := by decide +kernel
theorem dX1_landing_32 : decode cX1_landing 32 = .ok (.iload_n 3, 1) := by decide +kernel
theorem dX1_landing_33 : decode cX1_landing 33 = .ok (.iload_n 2, 1) := by decide +kernel
theorem dX1_landing_34 : decode cX1_landing 34 = .ok (.invokevirtual 179, 3) := by decide +kernel
theorem dX1_landing_37 : decode cX1_landing 37 = .ok (.ifCond .eq 5, 3) := by decide +kernel
theorem dX1_landing_40 : decode cX1_landing 40 = .ok (.iload_n 3, 1) := by decide +kernel
theorem dX1_landing_41 : decode cX1_landing 41 = .ok (.ireturn, 1) := by decide +kernel
theorem dX1_landing_42 : decode cX1_landing 42 = .ok (.iinc 4 1, 3) := by decide +kernel
theorem dX1_landing_45 : decode cX1_landing 45 = .ok (.goto (-40), 3) := by decide +kernel
theorem dX1_landing_48 : decode cX1_landing 48 = .ok (.iload_n 3, 1) := by decide +kernel
theorem dX1_landing_49 : decode cX1_landing 49 = .ok (.ireturn, 1) := by decide +kernel
theorem dX1_afterHop_0 : decode cX1_afterHop 0 = .ok (.iload_n 1, 1) := by decide +kernel
theorem dX1_afterHop_1 : decode cX1_afterHop 1 = .ok (.istore_n 3, 1) := by decide +kernel
theorem dX1_afterHop_2 : decode cX1_afterHop 2 = .ok (.iconst 0, 1) := by decide +kernel
theorem dX1_afterHop_3 : decode cX1_afterHop 3 = .ok (.istore 4, 2) := by decide +kernel
theorem dX1_afterHop_5 : decode cX1_afterHop 5 = .ok (.iload 4, 2) := by decide +kernel
theorem dX1_afterHop_7 : decode cX1_afterHop 7 = .ok (.aload_n 0, 1) := by decide +kernel
theorem dX1_afterHop_8 : decode cX1_afterHop 8 = .ok (.getfield 22, 3) := by decide +kernel
theorem dX1_afterHop_11 : decode cX1_afterHop 11 = .ok (.iconst 0, 1) := by decide +kernel
theorem dX1_afterHop_12 : decode cX1_afterHop 12 = .ok (.iaload, 1) := by decide +kernel
theorem dX1_afterHop_13 : decode cX1_afterHop 13 = .ok (.if_icmp .ge 19, 3) := by decide +kernel
theorem dX1_afterHop_16 : decode cX1_afterHop 16 = .ok (.aload_n 0, 1) := by decide +kernel
theorem dX1_afterHop_17 : decode cX1_afterHop 17 = .ok (.getfield 36, 3) := by decide +kernel
theorem dX1_afterHop_20 : decode cX1_afterHop 20 = .ok (.iload_n 3, 1) := by decide +kernel
theorem dX1_afterHop_21 : decode cX1_afterHop 21 = .ok (.iload_n 2, 1) := by decide +kernel
theorem dX1_afterHop_22 : decode cX1_afterHop 22 = .ok (.invokevirtual 119, 3) := by decide +kernel
theorem dX1_afterHop_25 : decode cX1_afterHop 25 = .ok (.istore_n 3, 1) := by decide +kernel
theorem dX1_afterHop_26 : decode cX1_afterHop 26 = .ok (.iinc 4 1, 3) := by decide +kernel
theorem dX1_afterHop_29 : decode cX1_afterHop 29 = .ok (.goto (-24), 3) := by decide +kernel
theorem dX1_afterHop_32 : decode cX1_afterHop 32 = .ok (.iload_n 3, 1) := by decide +kernel
theorem dX1_afterHop_33 : decode cX1_afterHop 33 = .ok (.ireturn, 1) := by decide +kernel
theorem dX1_isLaid_0 : decode cX1_isLaid 0 = .ok (.aload_n 0, 1) := by decide +kernel
theorem dX1_isLaid_1 : decode cX1_isLaid 1 = .ok (.iload_n 1, 1) := by decide +kernel
theorem dX1_isLaid_2 : decode cX1_isLaid 2 = .ok (.iload_n 2, 1) := by decide +kernel
theorem dX1_isLaid_3 : decode cX1_isLaid 3 = .ok (.invokevirtual 100, 3) := by decide +kernel
theorem dX1_isLaid_6 : decode cX1_isLaid 6 = .ok (.ifCond .ne 18, 3) := by decide +kernel
theorem dX1_isLaid_9 : decode cX1_isLaid 9 = .ok (.aload_n 0, 1) := by decide +kernel
theorem dX1_isLaid_10 : decode cX1_isLaid 10 = .ok (.getfield 45, 3) := by decide +kernel
theorem dX1_isLaid_13 : decode cX1_isLaid 13 = .ok (.iload_n 1, 1) := by decide +kernel
theorem dX1_isLaid_14 : decode cX1_isLaid 14 = .ok (.iaload, 1) := by decide +kernel
theorem dX1_isLaid_15 : decode cX1_isLaid 15 = .ok (.aload_n 0, 1) := by decide +kernel
theorem dX1_isLaid_16 : decode cX1_isLaid 16 = .ok (.getfield 54, 3) := by decide +kernel
theorem dX1_isLaid_19 : decode cX1_isLaid 19 = .ok (.iload_n 1, 1) := by decide +kernel
theorem dX1_isLaid_20 : decode cX1_isLaid 20 = .ok (.iaload, 1) := by decide +kernel
theorem dX1_isLaid_21 : decode cX1_isLaid 21 = .ok (.if_icmp .ge 5, 3) := by decide +kernel
theorem dX1_isLaid_24 : decode cX1_isLaid 24 = .ok (.iconst 1, 1) := by decide +kernel
theorem dX1_isLaid_25 : decode cX1_isLaid 25 = .ok (.ireturn, 1) := by decide +kernel
theorem dX1_isLaid_26 : decode cX1_isLaid 26 = .ok (.aload_n 0, 1) := by decide +kernel
theorem dX1_isLaid_27 : decode cX1_isLaid 27 = .ok (.bipush 100, 2) := by decide +kernel
theorem dX1_isLaid_29 : decode cX1_isLaid 29 = .ok (.invokevirtual 157, 3) := by decide +kernel
theorem dX1_isLaid_32 : decode cX1_isLaid 32 = .ok (.aload_n 0, 1) := by decide +kernel
theorem dX1_isLaid_33 : decode cX1_isLaid 33 = .ok (.getfield 45, 3) := by decide +kernel
theorem dX1_isLaid_36 : decode cX1_isLaid 36 = .ok (.iload_n 1, 1) := by decide +kernel
theorem dX1_isLaid_37 : decode cX1_isLaid 37 = .ok (.iaload, 1) := by decide +kernel
theorem dX1_isLaid_38 : decode cX1_isLaid 38 = .ok (.ifCond .ne 12, 3) := by decide +kernel
theorem dX1_isLaid_41 : decode cX1_isLaid 41 = .ok (.aload_n 0, 1) := by decide +kernel
theorem dX1_isLaid_42 : decode cX1_isLaid 42 = .ok (.getfield 22, 3) := by decide +kernel
theorem dX1_isLaid_45 : decode cX1_isLaid 45 = .ok (.iconst 2, 1) := by decide +kernel
theorem dX1_isLaid_46 : decode cX1_isLaid 46 = .ok (.iaload, 1) := by decide +kernel
theorem dX1_isLaid_47 : decode cX1_isLaid 47 = .ok (.goto 9, 3) := by decide +kernel
theorem dX1_isLaid_50 : decode cX1_isLaid 50 = .ok (.aload_n 0, 1) := by decide +kernel
theorem dX1_isLaid_51 : decode cX1_isLaid 51 = .ok (.getfield 22, 3) := by decide +kernel
theorem dX1_isLaid_54 : decode cX1_isLaid 54 = .ok (.iconst 1, 1) := by decide +kernel
theorem dX1_isLaid_55 : decode cX1_isLaid 55 = .ok (.iaload, 1) := by decide +kernel
theorem dX1_isLaid_56 : decode cX1_isLaid 56 = .ok (.if_icmp .ge 7, 3) := by decide +kernel
theorem dX1_isLaid_59 : decode cX1_isLaid 59 = .ok (.iconst 1, 1) := by decide +kernel
theorem dX1_isLaid_60 : decode cX1_isLaid 60 = .ok (.goto 4, 3) := by decide +kernel
theorem dX1_isLaid_63 : decode cX1_isLaid 63 = .ok (.iconst 0, 1) := by decide +kernel
theorem dX1_isLaid_64 : decode cX1_isLaid 64 = .ok (.ireturn, 1) := by decide +kernel
theorem dX1_lose_0 : decode cX1_lose 0 = .ok (.iload_n 1, 1) := by decide +kernel
theorem dX1_lose_1 : decode cX1_lose 1 = .ok (.ifCond .ne 16, 3) := by decide +kernel
theorem dX1_lose_4 : decode cX1_lose 4 = .ok (.aload_n 0, 1) := by decide +kernel
theorem dX1_lose_5 : decode cX1_lose 5 = .ok (.dup, 1) := by decide +kernel
theorem dX1_lose_6 : decode cX1_lose 6 = .ok (.getfield 80, 3) := by decide +kernel
theorem dX1_lose_9 : decode cX1_lose 9 = .ok (.iconst 1, 1) := by decide +kernel
theorem dX1_lose_10 : decode cX1_lose 10 = .ok (.iadd, 1) := by decide +kernel
theorem dX1_lose_11 : decode cX1_lose 11 = .ok (.putfield 80, 3) := by decide +kernel
theorem dX1_lose_14 : decode cX1_lose 14 = .ok (.goto 13, 3) := by decide +kernel
theorem dX1_lose_17 : decode cX1_lose 17 = .ok (.aload_n 0, 1) := by decide +kernel
theorem dX1_lose_18 : decode cX1_lose 18 = .ok (.dup, 1) := by decide +kernel
theorem dX1_lose_19 : decode cX1_lose 19 = .ok (.getfield 77, 3) := by decide +kernel
theorem dX1_lose_22 : decode cX1_lose 22 = .ok (.iconst 1, 1) := by decide +kernel
theorem dX1_lose_23 : decode cX1_lose 23 = .ok (.iadd, 1) := by decide +kernel
theorem dX1_lose_24 : decode cX1_lose 24 = .ok (.putfield 77, 3) := by decide +kernel
theorem dX1_lose_27 : decode cX1_lose 27 = .ok (.return_, 1) := by decide +kernel
theorem dX1_reachHouses_0 : decode cX1_reachHouses 0 = .ok (.iconst 0, 1) := by decide +kernel
theorem dX1_reachHouses_1 : decode cX1_reachHouses 1 = .ok (.istore_n 1, 1) := by decide +kernel
theorem dX1_reachHouses_2 : decode cX1_reachHouses 2 = .ok (.iload_n 1, 1) := by decide +kernel
theorem dX1_reachHouses_3 : decode cX1_reachHouses 3 = .ok (.aload_n 0, 1) := by decide +kernel
theorem dX1_reachHouses_4 : decode cX1_reachHouses 4 = .ok (.getfield 45, 3) := by decide +kernel
theorem dX1_reachHouses_7 : decode cX1_reachHouses 7 = .ok (.arraylength, 1) := by decide +kernel
theorem dX1_reachHouses_8 : decode cX1_reachHouses 8 = .ok (.if_icmp .ge 53, 3) := by decide +kernel
theorem dX1_reachHouses_11 : decode cX1_reachHouses 11 = .ok (.aload_n 0, 1) := by decide +kernel
theorem dX1_reachHouses_12 : decode cX1_reachHouses 12 = .ok (.getfield 60, 3) := by decide +kernel
theorem dX1_reachHouses_15 : decode cX1_reachHouses 15 = .ok (.iload_n 1, 1) := by decide +kernel
theorem dX1_reachHouses_16 : decode cX1_reachHouses 16 = .ok (.iaload, 1) := by decide +kernel
