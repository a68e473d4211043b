theorem dX6_init_0 : decode cX6_init 0 = .ok (.aload_n 0, 1) := by decide +kernel
theorem dX6_init_1 : decode cX6_init 1 = .ok (.invokespecial 1, 3) := by decide +kernel
theorem dX6_init_4 : decode cX6_init 4 = .ok (.aload_n 0, 1) := by decide +kernel
theorem dX6_init_5 : decode cX6_init 5 = .ok (.iconst 1, 1) := by decide +kernel
theorem dX6_init_6 : decode cX6_init 6 = .ok (.putfield 7, 3) := by decide +kernel
theorem dX6_init_9 : decode cX6_init 9 = .ok (.aload_n 0, 1) := by decide +kernel
theorem dX6_init_10 : decode cX6_init 10 = .ok (.iconst 1, 1) := by decide +kernel
theorem dX6_init_11 : decode cX6_init 11 = .ok (.putfield 13, 3) := by decide +kernel
theorem dX6_init_14 : decode cX6_init 14 = .ok (.aload_n 0, 1) := by decide +kernel
theorem dX6_init_15 : decode cX6_init 15 = .ok (.iconst 1, 1) := by decide +kernel
theorem dX6_init_16 : decode cX6_init 16 = .ok (.putfield 17, 3) := by decide +kernel
theorem dX6_init_19 : decode cX6_init 19 = .ok (.aload_n 0, 1) := by decide +kernel
theorem dX6_init_20 : decode cX6_init 20 = .ok (.bipush 40, 2) := by decide +kernel
theorem dX6_init_22 : decode cX6_init 22 = .ok (.newarray .int, 2) := by decide +kernel
theorem dX6_init_24 : decode cX6_init 24 = .ok (.putfield 20, 3) := by decide +kernel
theorem dX6_init_27 : decode cX6_init 27 = .ok (.aload_n 0, 1) := by decide +kernel
theorem dX6_init_28 : decode cX6_init 28 = .ok (.bipush 40, 2) := by decide +kernel
theorem dX6_init_30 : decode cX6_init 30 = .ok (.newarray .int, 2) := by decide +kernel
theorem dX6_init_32 : decode cX6_init 32 = .ok (.putfield 24, 3) := by decide +kernel
theorem dX6_init_35 : decode cX6_init 35 = .ok (.aload_n 0, 1) := by decide +kernel
theorem dX6_init_36 : decode cX6_init 36 = .ok (.bipush 40, 2) := by decide +kernel
theorem dX6_init_38 : decode cX6_init 38 = .ok (.newarray .int, 2) := by decide +kernel
theorem dX6_init_40 : decode cX6_init 40 = .ok (.putfield 27, 3) := by decide +kernel
theorem dX6_init_43 : decode cX6_init 43 = .ok (.aload_n 0, 1) := by decide +kernel
theorem dX6_init_44 : decode cX6_init 44 = .ok (.bipush 40, 2) := by decide +kernel
theorem dX6_init_46 : decode cX6_init 46 = .ok (.newarray .int, 2) := by decide +kernel
theorem dX6_init_48 : decode cX6_init 48 = .ok (.putfield 30, 3) := by decide +kernel
theorem dX6_init_51 : decode cX6_init 51 = .ok (.aload_n 0, 1) := by decide +kernel
theorem dX6_init_52 : decode cX6_init 52 = .ok (.bipush 40, 2) := by decide +kernel
theorem dX6_init_54 : decode cX6_init 54 = .ok (.newarray .long, 2) := by decide +kernel
theorem dX6_init_56 : decode cX6_init 56 = .ok (.putfield 33, 3) := by decide +kernel
theorem dX6_init_59 : decode cX6_init 59 = .ok (.aload_n 0, 1) := by decide +kernel
theorem dX6_init_60 : decode cX6_init 60 = .ok (.bipush 40, 2) := by decide +kernel
theorem dX6_init_62 : decode cX6_init 62 = .ok (.newarray .boolean, 2) := by decide +kernel
theorem dX6_init_64 : decode cX6_init 64 = .ok (.putfield 37, 3) := by decide +kernel
theorem dX6_init_67 : decode cX6_init 67 = .ok (.aload_n 0, 1) := by decide +kernel
theorem dX6_init_68 : decode cX6_init 68 = .ok (.bipush 40, 2) := by decide +kernel
theorem dX6_init_70 : decode cX6_init 70 = .ok (.newarray .long, 2) := by decide +kernel
theorem dX6_init_72 : decode cX6_init 72 = .ok (.putfield 41, 3) := by decide +kernel
theorem dX6_init_75 : decode cX6_init 75 = .ok (.aload_n 0, 1) := by decide +kernel
theorem dX6_init_76 : decode cX6_init 76 = .ok (.bipush 40, 2) := by decide +kernel
theorem dX6_init_78 : decode cX6_init 78 = .ok (.newarray .boolean, 2) := by decide +kernel
theorem dX6_init_80 : decode cX6_init 80 = .ok (.putfield 44, 3) := by decide +kernel
theorem dX6_init_83 : decode cX6_init 83 = .ok (.aload_n 0, 1) := by decide +kernel
theorem dX6_init_84 : decode cX6_init 84 = .ok (.bipush 40, 2) := by decide +kernel
theorem dX6_init_86 : decode cX6_init 86 = .ok (.newarray .boolean, 2) := by decide +kernel
theorem dX6_init_88 : decode cX6_init 88 = .ok (.putfield 47, 3) := by decide +kernel
theorem dX6_init_91 : decode cX6_init 91 = .ok (.aload_n 0, 1) := by decide +kernel
theorem dX6_init_92 : decode cX6_init 92 = .ok (.sipush 320, 3) := by decide +kernel
theorem dX6_init_95 : decode cX6_init 95 = .ok (.newarray .int, 2) := by decide +kernel
theorem dX6_init_97 : decode cX6_init 97 = .ok (.putfield 50, 3) := by decide +kernel
theorem dX6_init_100 : decode cX6_init 100 = .ok (.aload_n 0, 1) := by decide +kernel
theorem dX6_init_101 : decode cX6_init 101 = .ok (.sipush 320, 3) := by decide +kernel
theorem dX6_init_104 : decode cX6_init 104 = .ok (.newarray .int, 2) := by decide +kernel
theorem dX6_init_106 : decode cX6_init 106 = .ok (.putfield 53, 3) := by decide +kernel
theorem dX6_init_109 : decode cX6_init 109 = .ok (.aload_n 0, 1) := by decide +kernel
theorem dX6_init_110 : decode cX6_init 110 = .ok (.bipush 10, 2) := by decide +kernel
theorem dX6_init_112 : decode cX6_init 112 = .ok (.newarray .int, 2) := by decide +kernel
theorem dX6_init_114 : decode cX6_init 114 = .ok (.putfield 56, 3) := by decide +kernel
theorem dX6_init_117 : decode cX6_init 117 = .ok (.aload_n 0, 1) := by decide +kernel
theorem dX6_init_118 : decode cX6_init 118 = .ok (.bipush 10, 2) := by decide +kernel
theorem dX6_init_120 : decode cX6_init 120 = .ok (.newarray .int, 2) := by decide +kernel
theorem dX6_init_122 : decode cX6_init 122 = .ok (.putfield 59, 3) := by decide +kernel
theorem dX6_init_125 : decode cX6_init 125 = .ok (.aload_n 0, 1) := by decide +kernel
theorem dX6_init_126 : decode cX6_init 126 = .ok (.bipush 10, 2) := by decide +kernel
theorem dX6_init_128 : decode cX6_init 128 = .ok (.newarray .boolean, 2) := by decide +kernel
theorem dX6_init_130 : decode cX6_init 130 = .ok (.putfield 62, 3) := by decide +kernel
theorem dX6_init_133 : decode cX6_init 133 = .ok (.aload_n 0, 1) := by decide +kernel
theorem dX6_init_134 : decode cX6_init 134 = .ok (.bipush 10, 2) := by decide +kernel
theorem dX6_init_136 : decode cX6_init 136 = .ok (.newarray .int, 2) := by decide +kernel
theorem dX6_init_138 : decode cX6_init 138 = .ok (.putfield 65, 3) := by decide +kernel
theorem dX6_init_141 : decode cX6_init 141 = .ok (.aload_n 0, 1) := by decide +kernel
theorem dX6_init_142 : decode cX6_init 142 = .ok (.bipush 10, 2) := by decide +kernel
theorem dX6_init_144 : decode cX6_init 144 = .ok (.newarray .int, 2) := by decide +kernel
theorem dX6_init_146 : decode cX6_init 146 = .ok (.putfield 68, 3) := by decide +kernel
theorem dX6_init_149 : decode cX6_init 149 = .ok (.aload_n 0, 1) := by decide +kernel
theorem dX6_init_150 : decode cX6_init 150 = .ok (.bipush 60, 2) := by decide +kernel
theorem dX6_init_152 : decode cX6_init 152 = .ok (.newarray .int, 2) := by decide +kernel
theorem dX6_init_154 : decode cX6_init 154 = .ok (.putfield 71, 3) := by decide +kernel
theorem dX6_init_157 : decode cX6_init 157 = .ok (.aload_n 0, 1) := by decide +kernel
theorem dX6_init_158 : decode cX6_init 158 = .ok (.bipush 60, 2) := by decide +kernel
theorem dX6_init_160 : decode cX6_init 160 = .ok (.newarray .int, 2) := by decide +kernel
theorem dX6_init_162 : decode cX6_init 162 = .ok (.putfield 74, 3) := by decide +kernel
theorem dX6_init_165 : decode cX6_init 165 = .ok (.aload_n 0, 1) := by decide +kernel
theorem dX6_init_166 : decode cX6_init 166 = .ok (.sipush 1000, 3) := by decide +kernel
theorem dX6_init_169 : decode cX6_init 169 = .ok (.newarray .int, 2) := by decide +kernel
theorem dX6_init_171 : decode cX6_init 171 = .ok (.putfield 77, 3) := by decide +kernel
theorem dX6_init_174 : decode cX6_init 174 = .ok (.aload_n 0, 1) := by decide +kernel
theorem dX6_init_175 : decode cX6_init 175 = .ok (.iconst (-1), 1) := by decide +kernel
theorem dX6_init_176 : decode cX6_init 176 = .ok (.putfield 80, 3) := by decide +kernel
theorem dX6_init_179 : decode cX6_init 179 = .ok (.return_, 1) := by decide +kernel
theorem dX6_thrown_0 : decode cX6_thrown 0 = .ok (.aload_n 0, 1) := by decide +kernel
theorem dX6_thrown_1 : decode cX6_thrown 1 = .ok (.getfield 83, 3) := by decide +kernel
theorem dX6_thrown_4 : decode cX6_thrown 4 = .ok (.ireturn, 1) := by decide +kernel
theorem dX6_find_0 : decode cX6_find 0 = .ok (.iconst 0, 1) := by decide +kernel
theorem dX6_find_1 : decode cX6_find 1 = .ok (.istore_n 2, 1) := by decide +kernel
theorem dX6_find_2 : decode cX6_find 2 = .ok (.iload_n 2, 1) := by decide +kernel
theorem dX6_find_3 : decode cX6_find 3 = .ok (.aload_n 0, 1) := by decide +kernel
theorem dX6_find_4 : decode cX6_find 4 = .ok (.getfield 86, 3) := by decide +kernel
theorem dX6_find_7 : decode cX6_find 7 = .ok (.if_icmp .ge 21, 3) := by decide +kernel
theorem dX6_find_10 : decode cX6_find 10 = .ok (.aload_n 0, 1) := by decide +kernel
theorem dX6_find_11 : decode cX6_find 11 = .ok (.getfield 20, 3) := by decide +kernel
theorem dX6_find_14 : decode cX6_find 14 = .ok (.iload_n 2, 1) := by decide +kernel
theorem dX6_find_15 : decode cX6_find 15 = .ok (.iaload, 1) := by decide +kernel
theorem dX6_find_16 : decode cX6_find 16 = .ok (.iload_n 1, 1) := by decide +kernel
theorem dX6_find_17 : decode cX6_find 17 = .ok (.if_icmp .ne 5, 3) := by decide +kernel
theorem dX6_find_20 : decode cX6_find 20 = .ok (.iload_n 2, 1) := by decide +kernel
theorem dX6_find_21 : decode cX6_find 21 = .ok (.ireturn, 1) := by decide +kernel
theorem dX6_find_22 : decode cX6_find 22 = .ok (.iinc 2 1, 3) := by decide +kernel
theorem dX6_find_25 : decode cX6_find 25 = .ok (.goto (-23), 3) := by decide +kernel
theorem dX6_find_28 : decode cX6_find 28 = .ok (.iconst (-1), 1) := by decide +kernel
theorem dX6_find_29 : decode cX6_find 29 = .ok (.ireturn, 1) := by decide +kernel
theorem dX6_isIn_0 : decode cX6_isIn 0 = .ok (.lload_n 0, 1) := by decide +kernel
theorem dX6_isIn_1 : decode cX6_isIn 1 = .ok (.lload_n 2, 1) := by decide +kernel
theorem dX6_isIn_2 : decode cX6_isIn 2 = .ok (.lcmp, 1) := by decide +kernel
theorem dX6_isIn_3 : decode cX6_isIn 3 = .ok (.ifCond .lt 14, 3) := by decide +kernel
theorem dX6_isIn_6 : decode cX6_isIn 6 = .ok (.lload_n 0, 1) := by decide +kernel
theorem dX6_isIn_7 : decode cX6_isIn 7 = .ok (.lload 4, 2) := by decide +kernel
theorem dX6_isIn_9 : decode cX6_isIn 9 = .ok (.lcmp, 1) := by decide +kernel
theorem dX6_isIn_10 : decode cX6_isIn 10 = .ok (.ifCond .gt 7, 3) := by decide +kernel
theorem dX6_isIn_13 : decode cX6_isIn 13 = .ok (.iconst 1, 1) := by decide +kernel
theorem dX6_isIn_14 : decode cX6_isIn 14 = .ok (.goto 4, 3) := by decide +kernel
theorem dX6_isIn_17 : decode cX6_isIn 17 = .ok (.iconst 0, 1) := by decide +kernel
theorem dX6_isIn_18 : decode cX6_isIn 18 = .ok (.ireturn, 1) := by decide +kernel
theorem dX6_add_0 : decode cX6_add 0 = .ok (.aload_n 0, 1) := by decide +kernel
theorem dX6_add_1 : decode cX6_add 1 = .ok (.getfield 20, 3) := by decide +kernel
theorem dX6_add_4 : decode cX6_add 4 = .ok (.aload_n 0, 1) := by decide +kernel
theorem dX6_add_5 : decode cX6_add 5 = .ok (.getfield 86, 3) := by decide +kernel
theorem dX6_add_8 : decode cX6_add 8 = .ok (.iload_n 1, 1) := by decide +kernel
theorem dX6_add_9 : decode cX6_add 9 = .ok (.iastore, 1) := by decide +kernel
theorem dX6_add_10 : decode cX6_add 10 = .ok (.aload_n 0, 1) := by decide +kernel
theorem dX6_add_11 : decode cX6_add 11 = .ok (.getfield 24, 3) := by decide +kernel
theorem dX6_add_14 : decode cX6_add 14 = .ok (.aload_n 0, 1) := by decide +kernel
theorem dX6_add_15 : decode cX6_add 15 = .ok (.getfield 86, 3) := by decide +kernel
theorem dX6_add_18 : decode cX6_add 18 = .ok (.iload_n 2, 1) := by decide +kernel
theorem dX6_add_19 : decode cX6_add 19 = .ok (.iastore, 1) := by decide +kernel
theorem dX6_add_20 : decode cX6_add 20 = .ok (.aload_n 0, 1) := by decide +kernel
theorem dX6_add_21 : decode cX6_add 21 = .ok (.getfield 27, 3) := by decide +kernel
theorem dX6_add_24 : decode cX6_add 24 = .ok (.aload_n 0, 1) := by decide +kernel
theorem dX6_add_25 : decode cX6_add 25 = .ok (.getfield 86, 3) := by decide +kernel
theorem dX6_add_28 : decode cX6_add 28 = .ok (.iload_n 3, 1) := by decide +kernel
theorem dX6_add_29 : decode cX6_add 29 = .ok (.iastore, 1) := by decide +kernel
theorem dX6_add_30 : decode cX6_add 30 = .ok (.aload_n 0, 1) := by decide +kernel
theorem dX6_add_31 : decode cX6_add 31 = .ok (.getfield 30, 3) := by decide +kernel
theorem dX6_add_34 : decode cX6_add 34 = .ok (.aload_n 0, 1) := by decide +kernel
theorem dX6_add_35 : decode cX6_add 35 = .ok (.getfield 86, 3) := by decide +kernel
theorem dX6_add_38 : decode cX6_add 38 = .ok (.iload 4, 2) := by decide +kernel
theorem dX6_add_40 : decode cX6_add 40 = .ok (.iastore, 1) := by decide +kernel
theorem dX6_add_41 : decode cX6_add 41 = .ok (.aload_n 0, 1) := by decide +kernel
theorem dX6_add_42 : decode cX6_add 42 = .ok (.dup, 1) := by decide +kernel
theorem dX6_add_43 : decode cX6_add 43 = .ok (.getfield 86, 3) := by decide +kernel
theorem dX6_add_46 : decode cX6_add 46 = .ok (.iconst 1, 1) := by decide +kernel
theorem dX6_add_47 : decode cX6_add 47 = .ok (.iadd, 1) := by decide +kernel
theorem dX6_add_48 : decode cX6_add 48 = .ok (.putfield 86, 3) := by decide +kernel
theorem dX6_add_51 : decode cX6_add 51 = .ok (.aload_n 0, 1) := by decide +kernel
theorem dX6_add_52 : decode cX6_add 52 = .ok (.getfield 86, 3) := by decide +kernel
theorem dX6_add_55 : decode cX6_add 55 = .ok (.ireturn, 1) := by decide +kernel
theorem dX6_identifier_0 : decode cX6_identifier 0 = .ok (.aload_n 0, 1) := by decide +kernel
theorem dX6_identifier_1 : decode cX6_identifier 1 = .ok (.iconst 0, 1) := by decide +kernel
theorem dX6_identifier_2 : decode cX6_identifier 2 = .ok (.putfield 83, 3) := by decide +kernel
theorem dX6_identifier_5 : decode cX6_identifier 5 = .ok (.iload_n 1, 1) := by decide +kernel
theorem dX6_identifier_6 : decode cX6_identifier 6 = .ok (.i2l, 1) := by decide +kernel
theorem dX6_identifier_7 : decode cX6_identifier 7 = .ok (.lconst 0, 1) := by decide +kernel
theorem dX6_identifier_8 : decode cX6_identifier 8 = .ok (.ldc2_w 89, 3) := by decide +kernel
theorem dX6_identifier_11 : decode cX6_identifier 11 = .ok (.invokestatic 91, 3) := by decide +kernel
theorem dX6_identifier_14 : decode cX6_identifier 14 = .ok (.ifCond .eq 40, 3) := by decide +kernel
theorem dX6_identifier_17 : decode cX6_identifier 17 = .ok (.iload_n 2, 1) := by decide +kernel
theorem dX6_identifier_18 : decode cX6_identifier 18 = .ok (.i2l, 1) := by decide +kernel
theorem dX6_identifier_19 : decode cX6_identifier 19 = .ok (.lconst 1, 1) := by decide +kernel
theorem dX6_identifier_20 : decode cX6_identifier 20 = .ok (.ldc2_w 95, 3) := by decide +kernel
theorem dX6_identifier_23 : decode cX6_identifier 23 = .ok (.invokestatic 91, 3) := by decide +kernel
theorem dX6_identifier_26 : decode cX6_identifier 26 = .ok (.ifCond .eq 28, 3) := by decide +kernel
theorem dX6_identifier_29 : decode cX6_identifier 29 = .ok (.iload_n 3, 1) := by decide +kernel
theorem dX6_identifier_30 : decode cX6_identifier 30 = .ok (.i2l, 1) := by decide +kernel
theorem dX6_identifier_31 : decode cX6_identifier 31 = .ok (.lconst 1, 1) := by decide +kernel
theorem dX6_identifier_32 : decode cX6_identifier 32 = .ok (.ldc2_w 97, 3) := by decide +kernel
theorem dX6_identifier_35 : decode cX6_identifier 35 = .ok (.invokestatic 91, 3) := by decide +kernel
theorem dX6_identifier_38 : decode cX6_identifier 38 = .ok (.ifCond .eq 16, 3) := by decide +kernel
theorem dX6_identifier_41 : decode cX6_identifier 41 = .ok (.iload 4, 2) := by decide +kernel
theorem dX6_identifier_43 : decode cX6_identifier 43 = .ok (.i2l, 1) := by decide +kernel
theorem dX6_identifier_44 : decode cX6_identifier 44 = .ok (.lconst 0, 1) := by decide +kernel
theorem dX6_identifier_45 : decode cX6_identifier 45 = .ok (.ldc2_w 97, 3) := by decide +kernel
theorem dX6_identifier_48 : decode cX6_identifier 48 = .ok (.invokestatic 91, 3) := by decide +kernel
theorem dX6_identifier_51 : decode cX6_identifier 51 = .ok (.ifCond .ne 6, 3) := by decide +kernel
theorem dX6_identifier_54 : decode cX6_identifier 54 = .ok (.bipush (-2), 2) := by decide +kernel
theorem dX6_identifier_56 : decode cX6_identifier 56 = .ok (.ireturn, 1) := by decide +kernel
theorem dX6_identifier_57 : decode cX6_identifier 57 = .ok (.aload_n 0, 1) := by decide +kernel
theorem dX6_identifier_58 : decode cX6_identifier 58 = .ok (.iload_n 1, 1) := by decide +kernel
theorem dX6_identifier_59 : decode cX6_identifier 59 = .ok (.invokevirtual 99, 3) := by decide +kernel
theorem dX6_identifier_62 : decode cX6_identifier 62 = .ok (.ifCond .lt 6, 3) := by decide +kernel
theorem dX6_identifier_65 : decode cX6_identifier 65 = .ok (.bipush (-3), 2) := by decide +kernel
theorem dX6_identifier_67 : decode cX6_identifier 67 = .ok (.ireturn, 1) := by decide +kernel
theorem dX6_identifier_68 : decode cX6_identifier 68 = .ok (.aload_n 0, 1) := by decide +kernel
theorem dX6_identifier_69 : decode cX6_identifier 69 = .ok (.getfield 86, 3) := by decide +kernel
theorem dX6_identifier_72 : decode cX6_identifier 72 = .ok (.bipush 40, 2) := by decide +kernel
theorem dX6_identifier_74 : decode cX6_identifier 74 = .ok (.if_icmp .ne 8, 3) := by decide +kernel
theorem dX6_identifier_77 : decode cX6_identifier 77 = .ok (.bipush (-4), 2) := by decide +kernel
theorem dX6_identifier_79 : decode cX6_identifier 79 = .ok (.goto 12, 3) := by decide +kernel
theorem dX6_identifier_82 : decode cX6_identifier 82 = .ok (.aload_n 0, 1) := by decide +kernel
theorem dX6_identifier_83 : decode cX6_identifier 83 = .ok (.iload_n 1, 1) := by decide +kernel
theorem dX6_identifier_84 : decode cX6_identifier 84 = .ok (.iload_n 2, 1) := by decide +kernel
theorem dX6_identifier_85 : decode cX6_identifier 85 = .ok (.iload_n 3, 1) := by decide +kernel
theorem dX6_identifier_86 : decode cX6_identifier 86 = .ok (.iload 4, 2) := by decide +kernel
theorem dX6_identifier_88 : decode cX6_identifier 88 = .ok (.invokevirtual 103, 3) := by decide +kernel
theorem dX6_identifier_91 : decode cX6_identifier 91 = .ok (.ireturn, 1) := by decide +kernel
theorem dX6_dynamic_0 : decode cX6_dynamic 0 = .ok (.aload_n 0, 1) := by decide +kernel
theorem dX6_dynamic_1 : decode cX6_dynamic 1 = .ok (.iconst 0, 1) := by decide +kernel
theorem dX6_dynamic_2 : decode cX6_dynamic 2 = .ok (.putfield 83, 3) := by decide +kernel
theorem dX6_dynamic_5 : decode cX6_dynamic 5 = .ok (.aload_n 0, 1) := by decide +kernel
theorem dX6_dynamic_6 : decode cX6_dynamic 6 = .ok (.iload_n 2, 1) := by decide +kernel
theorem dX6_dynamic_7 : decode cX6_dynamic 7 = .ok (.invokevirtual 99, 3) := by decide +kernel
theorem dX6_dynamic_10 : decode cX6_dynamic 10 = .ok (.istore 4, 2) := by decide +kernel
theorem dX6_dynamic_12 : decode cX6_dynamic 12 = .ok (.iload 4, 2) := by decide +kernel
theorem dX6_dynamic_14 : decode cX6_dynamic 14 = .ok (.ifCond .ge 5, 3) := by decide +kernel
theorem dX6_dynamic_17 : decode cX6_dynamic 17 = .ok (.iconst (-1), 1) := by decide +kernel
theorem dX6_dynamic_18 : decode cX6_dynamic 18 = .ok (.ireturn, 1) := by decide +kernel
theorem dX6_dynamic_19 : decode cX6_dynamic 19 = .ok (.iload_n 1, 1) := by decide +kernel
theorem dX6_dynamic_20 : decode cX6_dynamic 20 = .ok (.i2l, 1) := by decide +kernel
theorem dX6_dynamic_21 : decode cX6_dynamic 21 = .ok (.lconst 0, 1) := by decide +kernel
theorem dX6_dynamic_22 : decode cX6_dynamic 22 = .ok (.ldc2_w 89, 3) := by decide +kernel
theorem dX6_dynamic_25 : decode cX6_dynamic 25 = .ok (.invokestatic 91, 3) := by decide +kernel
theorem dX6_dynamic_28 : decode cX6_dynamic 28 = .ok (.ifCond .eq 20, 3) := by decide +kernel
theorem dX6_dynamic_31 : decode cX6_dynamic 31 = .ok (.iload_n 3, 1) := by decide +kernel
theorem dX6_dynamic_32 : decode cX6_dynamic 32 = .ok (.i2l, 1) := by decide +kernel
theorem dX6_dynamic_33 : decode cX6_dynamic 33 = .ok (.lconst 1, 1) := by decide +kernel
theorem dX6_dynamic_34 : decode cX6_dynamic 34 = .ok (.aload_n 0, 1) := by decide +kernel
theorem dX6_dynamic_35 : decode cX6_dynamic 35 = .ok (.getfield 24, 3) := by decide +kernel
theorem dX6_dynamic_38 : decode cX6_dynamic 38 = .ok (.iload 4, 2) := by decide +kernel
theorem dX6_dynamic_40 : decode cX6_dynamic 40 = .ok (.iaload, 1) := by decide +kernel
theorem dX6_dynamic_41 : decode cX6_dynamic 41 = .ok (.i2l, 1) := by decide +kernel
theorem dX6_dynamic_42 : decode cX6_dynamic 42 = .ok (.invokestatic 91, 3) := by decide +kernel
theorem dX6_dynamic_45 : decode cX6_dynamic 45 = .ok (.ifCond .ne 6, 3) := by decide +kernel
theorem dX6_dynamic_48 : decode cX6_dynamic 48 = .ok (.bipush (-2), 2) := by decide +kernel
theorem dX6_dynamic_50 : decode cX6_dynamic 50 = .ok (.ireturn, 1) := by decide +kernel
theorem dX6_dynamic_51 : decode cX6_dynamic 51 = .ok (.aload_n 0, 1) := by decide +kernel
theorem dX6_dynamic_52 : decode cX6_dynamic 52 = .ok (.iload_n 1, 1) := by decide +kernel
theorem dX6_dynamic_53 : decode cX6_dynamic 53 = .ok (.invokevirtual 99, 3) := by decide +kernel
theorem dX6_dynamic_56 : decode cX6_dynamic 56 = .ok (.istore 5, 2) := by decide +kernel
theorem dX6_dynamic_58 : decode cX6_dynamic 58 = .ok (.iload 5, 2) := by decide +kernel
theorem dX6_dynamic_60 : decode cX6_dynamic 60 = .ok (.ifCond .lt 13, 3) := by decide +kernel
theorem dX6_dynamic_63 : decode cX6_dynamic 63 = .ok (.aload_n 0, 1) := by decide +kernel
theorem dX6_dynamic_64 : decode cX6_dynamic 64 = .ok (.getfield 47, 3) := by decide +kernel
theorem dX6_dynamic_67 : decode cX6_dynamic 67 = .ok (.iload 5, 2) := by decide +kernel
theorem dX6_dynamic_69 : decode cX6_dynamic 69 = .ok (.baload, 1) := by decide +kernel
theorem dX6_dynamic_70 : decode cX6_dynamic 70 = .ok (.ifCond .eq 13, 3) := by decide +kernel
theorem dX6_dynamic_73 : decode cX6_dynamic 73 = .ok (.aload_n 0, 1) := by decide +kernel
theorem dX6_dynamic_74 : decode cX6_dynamic 74 = .ok (.getfield 47, 3) := by decide +kernel
theorem dX6_dynamic_77 : decode cX6_dynamic 77 = .ok (.iload 4, 2) := by decide +kernel
theorem dX6_dynamic_79 : decode cX6_dynamic 79 = .ok (.baload, 1) := by decide +kernel
theorem dX6_dynamic_80 : decode cX6_dynamic 80 = .ok (.ifCond .eq 6, 3) := by decide +kernel
theorem dX6_dynamic_83 : decode cX6_dynamic 83 = .ok (.bipush (-3), 2) := by decide +kernel
theorem dX6_dynamic_85 : decode cX6_dynamic 85 = .ok (.ireturn, 1) := by decide +kernel
theorem dX6_dynamic_86 : decode cX6_dynamic 86 = .ok (.iload 5, 2) := by decide +kernel
theorem dX6_dynamic_88 : decode cX6_dynamic 88 = .ok (.ifCond .ge 7, 3) := by decide +kernel
theorem dX6_dynamic_91 : decode cX6_dynamic 91 = .ok (.iconst 0, 1) := by decide +kernel
theorem dX6_dynamic_92 : decode cX6_dynamic 92 = .ok (.goto 10, 3) := by decide +kernel
theorem dX6_dynamic_95 : decode cX6_dynamic 95 = .ok (.aload_n 0, 1) := by decide +kernel
theorem dX6_dynamic_96 : decode cX6_dynamic 96 = .ok (.getfield 24, 3) := by decide +kernel
theorem dX6_dynamic_99 : decode cX6_dynamic 99 = .ok (.iload 5, 2) := by decide +kernel
theorem dX6_dynamic_101 : decode cX6_dynamic 101 = .ok (.iaload, 1) := by decide +kernel
theorem dX6_dynamic_102 : decode cX6_dynamic 102 = .ok (.istore 6, 2) := by decide +kernel
theorem dX6_dynamic_104 : decode cX6_dynamic 104 = .ok (.iload 6, 2) := by decide +kernel
theorem dX6_dynamic_106 : decode cX6_dynamic 106 = .ok (.iload_n 3, 1) := by decide +kernel
theorem dX6_dynamic_107 : decode cX6_dynamic 107 = .ok (.iadd, 1) := by decide +kernel
theorem dX6_dynamic_108 : decode cX6_dynamic 108 = .ok (.bipush 8, 2) := by decide +kernel
theorem dX6_dynamic_110 : decode cX6_dynamic 110 = .ok (.if_icmp .gt 17, 3) := by decide +kernel
theorem dX6_dynamic_113 : decode cX6_dynamic 113 = .ok (.iload 5, 2) := by decide +kernel
theorem dX6_dynamic_115 : decode cX6_dynamic 115 = .ok (.ifCond .ge 15, 3) := by decide +kernel
theorem dX6_dynamic_118 : decode cX6_dynamic 118 = .ok (.aload_n 0, 1) := by decide +kernel
theorem dX6_dynamic_119 : decode cX6_dynamic 119 = .ok (.getfield 86, 3) := by decide +kernel
theorem dX6_dynamic_122 : decode cX6_dynamic 122 = .ok (.bipush 40, 2) := by decide +kernel
theorem dX6_dynamic_124 : decode cX6_dynamic 124 = .ok (.if_icmp .ne 6, 3) := by decide +kernel
theorem dX6_dynamic_127 : decode cX6_dynamic 127 = .ok (.bipush (-4), 2) := by decide +kernel
theorem dX6_dynamic_129 : decode cX6_dynamic 129 = .ok (.ireturn, 1) := by decide +kernel
theorem dX6_dynamic_130 : decode cX6_dynamic 130 = .ok (.iload 5, 2) := by decide +kernel
theorem dX6_dynamic_132 : decode cX6_dynamic 132 = .ok (.ifCond .ge 27, 3) := by decide +kernel
theorem dX6_dynamic_135 : decode cX6_dynamic 135 = .ok (.aload_n 0, 1) := by decide +kernel
theorem dX6_dynamic_136 : decode cX6_dynamic 136 = .ok (.getfield 86, 3) := by decide +kernel
theorem dX6_dynamic_139 : decode cX6_dynamic 139 = .ok (.istore 5, 2) := by decide +kernel
theorem dX6_dynamic_141 : decode cX6_dynamic 141 = .ok (.aload_n 0, 1) := by decide +kernel
theorem dX6_dynamic_142 : decode cX6_dynamic 142 = .ok (.iload_n 1, 1) := by decide +kernel
theorem dX6_dynamic_143 : decode cX6_dynamic 143 = .ok (.iconst 0, 1) := by decide +kernel
theorem dX6_dynamic_144 : decode cX6_dynamic 144 = .ok (.iconst 1, 1) := by decide +kernel
theorem dX6_dynamic_145 : decode cX6_dynamic 145 = .ok (.iconst 0, 1) := by decide +kernel
theorem dX6_dynamic_146 : decode cX6_dynamic 146 = .ok (.invokevirtual 103, 3) := by decide +kernel
theorem dX6_dynamic_149 : decode cX6_dynamic 149 = .ok (.istore 7, 2) := by decide +kernel
theorem dX6_dynamic_151 : decode cX6_dynamic 151 = .ok (.aload_n 0, 1) := by decide +kernel
theorem dX6_dynamic_152 : decode cX6_dynamic 152 = .ok (.getfield 47, 3) := by decide +kernel
theorem dX6_dynamic_155 : decode cX6_dynamic 155 = .ok (.iload 5, 2) := by decide +kernel
theorem dX6_dynamic_157 : decode cX6_dynamic 157 = .ok (.iconst 1, 1) := by decide +kernel
theorem dX6_dynamic_158 : decode cX6_dynamic 158 = .ok (.bastore, 1) := by decide +kernel
theorem dX6_dynamic_159 : decode cX6_dynamic 159 = .ok (.iconst 0, 1) := by decide +kernel
theorem dX6_dynamic_160 : decode cX6_dynamic 160 = .ok (.istore 7, 2) := by decide +kernel
theorem dX6_dynamic_162 : decode cX6_dynamic 162 = .ok (.iload 7, 2) := by decide +kernel
theorem dX6_dynamic_164 : decode cX6_dynamic 164 = .ok (.iload_n 3, 1) := by decide +kernel
theorem dX6_dynamic_165 : decode cX6_dynamic 165 = .ok (.if_icmp .ge 45, 3) := by decide +kernel
theorem dX6_dynamic_168 : decode cX6_dynamic 168 = .ok (.aload_n 0, 1) := by decide +kernel
theorem dX6_dynamic_169 : decode cX6_dynamic 169 = .ok (.getfield 50, 3) := by decide +kernel
theorem dX6_dynamic_172 : decode cX6_dynamic 172 = .ok (.bipush 8, 2) := by decide +kernel
theorem dX6_dynamic_174 : decode cX6_dynamic 174 = .ok (.iload 5, 2) := by decide +kernel
theorem dX6_dynamic_176 : decode cX6_dynamic 176 = .ok (.imul, 1) := by decide +kernel
theorem dX6_dynamic_177 : decode cX6_dynamic 177 = .ok (.iload 6, 2) := by decide +kernel
theorem dX6_dynamic_179 : decode cX6_dynamic 179 = .ok (.iadd, 1) := by decide +kernel
theorem dX6_dynamic_180 : decode cX6_dynamic 180 = .ok (.iload 7, 2) := by decide +kernel
theorem dX6_dynamic_182 : decode cX6_dynamic 182 = .ok (.iadd, 1) := by decide +kernel
theorem dX6_dynamic_183 : decode cX6_dynamic 183 = .ok (.iload 4, 2) := by decide +kernel
theorem dX6_dynamic_185 : decode cX6_dynamic 185 = .ok (.iastore, 1) := by decide +kernel
theorem dX6_dynamic_186 : decode cX6_dynamic 186 = .ok (.aload_n 0, 1) := by decide +kernel
theorem dX6_dynamic_187 : decode cX6_dynamic 187 = .ok (.getfield 53, 3) := by decide +kernel
theorem dX6_dynamic_190 : decode cX6_dynamic 190 = .ok (.bipush 8, 2) := by decide +kernel
theorem dX6_dynamic_192 : decode cX6_dynamic 192 = .ok (.iload 5, 2) := by decide +kernel
theorem dX6_dynamic_194 : decode cX6_dynamic 194 = .ok (.imul, 1) := by decide +kernel
theorem dX6_dynamic_195 : decode cX6_dynamic 195 = .ok (.iload 6, 2) := by decide +kernel
theorem dX6_dynamic_197 : decode cX6_dynamic 197 = .ok (.iadd, 1) := by decide +kernel
theorem dX6_dynamic_198 : decode cX6_dynamic 198 = .ok (.iload 7, 2) := by decide +kernel
theorem dX6_dynamic_200 : decode cX6_dynamic 200 = .ok (.iadd, 1) := by decide +kernel
theorem dX6_dynamic_201 : decode cX6_dynamic 201 = .ok (.iload 7, 2) := by decide +kernel
theorem dX6_dynamic_203 : decode cX6_dynamic 203 = .ok (.iastore, 1) := by decide +kernel
theorem dX6_dynamic_204 : decode cX6_dynamic 204 = .ok (.iinc 7 1, 3) := by decide +kernel
theorem dX6_dynamic_207 : decode cX6_dynamic 207 = .ok (.goto (-45), 3) := by decide +kernel
theorem dX6_dynamic_210 : decode cX6_dynamic 210 = .ok (.aload_n 0, 1) := by decide +kernel
theorem dX6_dynamic_211 : decode cX6_dynamic 211 = .ok (.getfield 24, 3) := by decide +kernel
theorem dX6_dynamic_214 : decode cX6_dynamic 214 = .ok (.iload 5, 2) := by decide +kernel
theorem dX6_dynamic_216 : decode cX6_dynamic 216 = .ok (.iload 6, 2) := by decide +kernel
theorem dX6_dynamic_218 : decode cX6_dynamic 218 = .ok (.iload_n 3, 1) := by decide +kernel
theorem dX6_dynamic_219 : decode cX6_dynamic 219 = .ok (.iadd, 1) := by decide +kernel
theorem dX6_dynamic_220 : decode cX6_dynamic 220 = .ok (.iastore, 1) := by decide +kernel
theorem dX6_dynamic_221 : decode cX6_dynamic 221 = .ok (.aload_n 0, 1) := by decide +kernel
theorem dX6_dynamic_222 : decode cX6_dynamic 222 = .ok (.getfield 24, 3) := by decide +kernel
theorem dX6_dynamic_225 : decode cX6_dynamic 225 = .ok (.iload 5, 2) := by decide +kernel
theorem dX6_dynamic_227 : decode cX6_dynamic 227 = .ok (.iaload, 1) := by decide +kernel
theorem dX6_dynamic_228 : decode cX6_dynamic 228 = .ok (.ireturn, 1) := by decide +kernel
theorem dX6_routine_0 : decode cX6_routine 0 = .ok (.aload_n 0, 1) := by decide +kernel
theorem dX6_routine_1 : decode cX6_routine 1 = .ok (.iconst 0, 1) := by decide +kernel
theorem dX6_routine_2 : decode cX6_routine 2 = .ok (.putfield 83, 3) := by decide +kernel
theorem dX6_routine_5 : decode cX6_routine 5 = .ok (.iload_n 1, 1) := by decide +kernel
theorem dX6_routine_6 : decode cX6_routine 6 = .ok (.i2l, 1) := by decide +kernel
theorem dX6_routine_7 : decode cX6_routine 7 = .ok (.lconst 0, 1) := by decide +kernel
theorem dX6_routine_8 : decode cX6_routine 8 = .ok (.ldc2_w 89, 3) := by decide +kernel
theorem dX6_routine_11 : decode cX6_routine 11 = .ok (.invokestatic 91, 3) := by decide +kernel
theorem dX6_routine_14 : decode cX6_routine 14 = .ok (.ifCond .eq 15, 3) := by decide +kernel
theorem dX6_routine_17 : decode cX6_routine 17 = .ok (.iload_n 2, 1) := by decide +kernel
theorem dX6_routine_18 : decode cX6_routine 18 = .ok (.i2l, 1) := by decide +kernel
theorem dX6_routine_19 : decode cX6_routine 19 = .ok (.lconst 0, 1) := by decide +kernel
theorem dX6_routine_20 : decode cX6_routine 20 = .ok (.ldc2_w 107, 3) := by decide +kernel
theorem dX6_routine_23 : decode cX6_routine 23 = .ok (.invokestatic 91, 3) := by decide +kernel
theorem dX6_routine_26 : decode cX6_routine 26 = .ok (.ifCond .ne 6, 3) := by decide +kernel
theorem dX6_routine_29 : decode cX6_routine 29 = .ok (.bipush (-2), 2) := by decide +kernel
theorem dX6_routine_31 : decode cX6_routine 31 = .ok (.ireturn, 1) := by decide +kernel
theorem dX6_routine_32 : decode cX6_routine 32 = .ok (.iconst 0, 1) := by decide +kernel
theorem dX6_routine_33 : decode cX6_routine 33 = .ok (.istore_n 3, 1) := by decide +kernel
theorem dX6_routine_34 : decode cX6_routine 34 = .ok (.iload_n 3, 1) := by decide +kernel
theorem dX6_routine_35 : decode cX6_routine 35 = .ok (.aload_n 0, 1) := by decide +kernel
theorem dX6_routine_36 : decode cX6_routine 36 = .ok (.getfield 109, 3) := by decide +kernel
theorem dX6_routine_39 : decode cX6_routine 39 = .ok (.if_icmp .ge 22, 3) := by decide +kernel
theorem dX6_routine_42 : decode cX6_routine 42 = .ok (.aload_n 0, 1) := by decide +kernel
theorem dX6_routine_43 : decode cX6_routine 43 = .ok (.getfield 56, 3) := by decide +kernel
theorem dX6_routine_46 : decode cX6_routine 46 = .ok (.iload_n 3, 1) := by decide +kernel
theorem dX6_routine_47 : decode cX6_routine 47 = .ok (.iaload, 1) := by decide +kernel
theorem dX6_routine_48 : decode cX6_routine 48 = .ok (.iload_n 1, 1) := by decide +kernel
theorem dX6_routine_49 : decode cX6_routine 49 = .ok (.if_icmp .ne 6, 3) := by decide +kernel
theorem dX6_routine_52 : decode cX6_routine 52 = .ok (.bipush (-3), 2) := by decide +kernel
theorem dX6_routine_54 : decode cX6_routine 54 = .ok (.ireturn, 1) := by decide +kernel
theorem dX6_routine_55 : decode cX6_routine 55 = .ok (.iinc 3 1, 3) := by decide +kernel
theorem dX6_routine_58 : decode cX6_routine 58 = .ok (.goto (-24), 3) := by decide +kernel
theorem dX6_routine_61 : decode cX6_routine 61 = .ok (.aload_n 0, 1) := by decide +kernel
theorem dX6_routine_62 : decode cX6_routine 62 = .ok (.getfield 109, 3) := by decide +kernel
theorem dX6_routine_65 : decode cX6_routine 65 = .ok (.bipush 10, 2) := by decide +kernel
theorem dX6_routine_67 : decode cX6_routine 67 = .ok (.if_icmp .ne 6, 3) := by decide +kernel
theorem dX6_routine_70 : decode cX6_routine 70 = .ok (.bipush (-4), 2) := by decide +kernel
theorem dX6_routine_72 : decode cX6_routine 72 = .ok (.ireturn, 1) := by decide +kernel
theorem dX6_routine_73 : decode cX6_routine 73 = .ok (.aload_n 0, 1) := by decide +kernel
theorem dX6_routine_74 : decode cX6_routine 74 = .ok (.getfield 56, 3) := by decide +kernel
theorem dX6_routine_77 : decode cX6_routine 77 = .ok (.aload_n 0, 1) := by decide +kernel
theorem dX6_routine_78 : decode cX6_routine 78 = .ok (.getfield 109, 3) := by decide +kernel
theorem dX6_routine_81 : decode cX6_routine 81 = .ok (.iload_n 1, 1) := by decide +kernel
theorem dX6_routine_82 : decode cX6_routine 82 = .ok (.iastore, 1) := by decide +kernel
theorem dX6_routine_83 : decode cX6_routine 83 = .ok (.aload_n 0, 1) := by decide +kernel
theorem dX6_routine_84 : decode cX6_routine 84 = .ok (.getfield 59, 3) := by decide +kernel
theorem dX6_routine_87 : decode cX6_routine 87 = .ok (.aload_n 0, 1) := by decide +kernel
theorem dX6_routine_88 : decode cX6_routine 88 = .ok (.getfield 109, 3) := by decide +kernel
theorem dX6_routine_91 : decode cX6_routine 91 = .ok (.iload_n 2, 1) := by decide +kernel
theorem dX6_routine_92 : decode cX6_routine 92 = .ok (.iastore, 1) := by decide +kernel
theorem dX6_routine_93 : decode cX6_routine 93 = .ok (.aload_n 0, 1) := by decide +kernel
theorem dX6_routine_94 : decode cX6_routine 94 = .ok (.dup, 1) := by decide +kernel
theorem dX6_routine_95 : decode cX6_routine 95 = .ok (.getfield 109, 3) := by decide +kernel
theorem dX6_routine_98 : decode cX6_routine 98 = .ok (.iconst 1, 1) := by decide +kernel
theorem dX6_routine_99 : decode cX6_routine 99 = .ok (.iadd, 1) := by decide +kernel
theorem dX6_routine_100 : decode cX6_routine 100 = .ok (.putfield 109, 3) := by decide +kernel
theorem dX6_routine_103 : decode cX6_routine 103 = .ok (.aload_n 0, 1) := by decide +kernel
theorem dX6_routine_104 : decode cX6_routine 104 = .ok (.getfield 109, 3) := by decide +kernel
theorem dX6_routine_107 : decode cX6_routine 107 = .ok (.ireturn, 1) := by decide +kernel
theorem dX6_condition_0 : decode cX6_condition 0 = .ok (.aload_n 0, 1) := by decide +kernel
theorem dX6_condition_1 : decode cX6_condition 1 = .ok (.iconst 0, 1) := by decide +kernel
theorem dX6_condition_2 : decode cX6_condition 2 = .ok (.putfield 83, 3) := by decide +kernel
theorem dX6_condition_5 : decode cX6_condition 5 = .ok (.iload_n 1, 1) := by decide +kernel
theorem dX6_condition_6 : decode cX6_condition 6 = .ok (.i2l, 1) := by decide +kernel
theorem dX6_condition_7 : decode cX6_condition 7 = .ok (.lconst 0, 1) := by decide +kernel
theorem dX6_condition_8 : decode cX6_condition 8 = .ok (.lconst 1, 1) := by decide +kernel
theorem dX6_condition_9 : decode cX6_condition 9 = .ok (.invokestatic 91, 3) := by decide +kernel
theorem dX6_condition_12 : decode cX6_condition 12 = .ok (.ifCond .ne 5, 3) := by decide +kernel
theorem dX6_condition_15 : decode cX6_condition 15 = .ok (.iconst (-1), 1) := by decide +kernel
theorem dX6_condition_16 : decode cX6_condition 16 = .ok (.ireturn, 1) := by decide +kernel
theorem dX6_condition_17 : decode cX6_condition 17 = .ok (.iload_n 1, 1) := by decide +kernel
theorem dX6_condition_18 : decode cX6_condition 18 = .ok (.ifCond .ne 11, 3) := by decide +kernel
theorem dX6_condition_21 : decode cX6_condition 21 = .ok (.aload_n 0, 1) := by decide +kernel
theorem dX6_condition_22 : decode cX6_condition 22 = .ok (.iload_n 2, 1) := by decide +kernel
theorem dX6_condition_23 : decode cX6_condition 23 = .ok (.putfield 13, 3) := by decide +kernel
theorem dX6_condition_26 : decode cX6_condition 26 = .ok (.goto 8, 3) := by decide +kernel
theorem dX6_condition_29 : decode cX6_condition 29 = .ok (.aload_n 0, 1) := by decide +kernel
theorem dX6_condition_30 : decode cX6_condition 30 = .ok (.iload_n 2, 1) := by decide +kernel
theorem dX6_condition_31 : decode cX6_condition 31 = .ok (.putfield 17, 3) := by decide +kernel
theorem dX6_condition_34 : decode cX6_condition 34 = .ok (.aload_n 0, 1) := by decide +kernel
theorem dX6_condition_35 : decode cX6_condition 35 = .ok (.getfield 13, 3) := by decide +kernel
theorem dX6_condition_38 : decode cX6_condition 38 = .ok (.ifCond .eq 14, 3) := by decide +kernel
theorem dX6_condition_41 : decode cX6_condition 41 = .ok (.aload_n 0, 1) := by decide +kernel
theorem dX6_condition_42 : decode cX6_condition 42 = .ok (.getfield 17, 3) := by decide +kernel
theorem dX6_condition_45 : decode cX6_condition 45 = .ok (.ifCond .eq 7, 3) := by decide +kernel
theorem dX6_condition_48 : decode cX6_condition 48 = .ok (.iconst 1, 1) := by decide +kernel
theorem dX6_condition_49 : decode cX6_condition 49 = .ok (.goto 4, 3) := by decide +kernel
theorem dX6_condition_52 : decode cX6_condition 52 = .ok (.iconst 0, 1) := by decide +kernel
theorem dX6_condition_53 : decode cX6_condition 53 = .ok (.ireturn, 1) := by decide +kernel
theorem dX6_rights_0 : decode cX6_rights 0 = .ok (.aload_n 0, 1) := by decide +kernel
theorem dX6_rights_1 : decode cX6_rights 1 = .ok (.iconst 0, 1) := by decide +kernel
theorem dX6_rights_2 : decode cX6_rights 2 = .ok (.putfield 83, 3) := by decide +kernel
theorem dX6_rights_5 : decode cX6_rights 5 = .ok (.iload_n 1, 1) := by decide +kernel
theorem dX6_rights_6 : decode cX6_rights 6 = .ok (.i2l, 1) := by decide +kernel
theorem dX6_rights_7 : decode cX6_rights 7 = .ok (.lconst 0, 1) := by decide +kernel
theorem dX6_rights_8 : decode cX6_rights 8 = .ok (.ldc2_w 97, 3) := by decide +kernel
theorem dX6_rights_11 : decode cX6_rights 11 = .ok (.invokestatic 91, 3) := by decide +kernel
theorem dX6_rights_14 : decode cX6_rights 14 = .ok (.ifCond .ne 6, 3) := by decide +kernel
theorem dX6_rights_17 : decode cX6_rights 17 = .ok (.bipush (-2), 2) := by decide +kernel
theorem dX6_rights_19 : decode cX6_rights 19 = .ok (.ireturn, 1) := by decide +kernel
theorem dX6_rights_20 : decode cX6_rights 20 = .ok (.aload_n 0, 1) := by decide +kernel
theorem dX6_rights_21 : decode cX6_rights 21 = .ok (.getfield 112, 3) := by decide +kernel
theorem dX6_rights_24 : decode cX6_rights 24 = .ok (.istore_n 2, 1) := by decide +kernel
theorem dX6_rights_25 : decode cX6_rights 25 = .ok (.aload_n 0, 1) := by decide +kernel
theorem dX6_rights_26 : decode cX6_rights 26 = .ok (.iload_n 1, 1) := by decide +kernel
theorem dX6_rights_27 : decode cX6_rights 27 = .ok (.putfield 112, 3) := by decide +kernel
theorem dX6_rights_30 : decode cX6_rights 30 = .ok (.iload_n 2, 1) := by decide +kernel
theorem dX6_rights_31 : decode cX6_rights 31 = .ok (.ireturn, 1) := by decide +kernel
theorem dX6_control_0 : decode cX6_control 0 = .ok (.aload_n 0, 1) := by decide +kernel
theorem dX6_control_1 : decode cX6_control 1 = .ok (.iconst 0, 1) := by decide +kernel
theorem dX6_control_2 : decode cX6_control 2 = .ok (.putfield 83, 3) := by decide +kernel
theorem dX6_control_5 : decode cX6_control 5 = .ok (.aload_n 0, 1) := by decide +kernel
theorem dX6_control_6 : decode cX6_control 6 = .ok (.iload_n 1, 1) := by decide +kernel
theorem dX6_control_7 : decode cX6_control 7 = .ok (.invokevirtual 99, 3) := by decide +kernel
theorem dX6_control_10 : decode cX6_control 10 = .ok (.istore 5, 2) := by decide +kernel
theorem dX6_control_12 : decode cX6_control 12 = .ok (.iload 5, 2) := by decide +kernel
theorem dX6_control_14 : decode cX6_control 14 = .ok (.ifCond .ge 5, 3) := by decide +kernel
theorem dX6_control_17 : decode cX6_control 17 = .ok (.iconst (-1), 1) := by decide +kernel
theorem dX6_control_18 : decode cX6_control 18 = .ok (.ireturn, 1) := by decide +kernel
theorem dX6_control_19 : decode cX6_control 19 = .ok (.iload_n 2, 1) := by decide +kernel
theorem dX6_control_20 : decode cX6_control 20 = .ok (.i2l, 1) := by decide +kernel
theorem dX6_control_21 : decode cX6_control 21 = .ok (.lconst 0, 1) := by decide +kernel
theorem dX6_control_22 : decode cX6_control 22 = .ok (.lconst 1, 1) := by decide +kernel
theorem dX6_control_23 : decode cX6_control 23 = .ok (.invokestatic 91, 3) := by decide +kernel
theorem dX6_control_26 : decode cX6_control 26 = .ok (.ifCond .ne 6, 3) := by decide +kernel
theorem dX6_control_29 : decode cX6_control 29 = .ok (.bipush (-2), 2) := by decide +kernel
theorem dX6_control_31 : decode cX6_control 31 = .ok (.ireturn, 1) := by decide +kernel
theorem dX6_control_32 : decode cX6_control 32 = .ok (.aload_n 0, 1) := by decide +kernel
theorem dX6_control_33 : decode cX6_control 33 = .ok (.getfield 47, 3) := by decide +kernel
theorem dX6_control_36 : decode cX6_control 36 = .ok (.iload 5, 2) := by decide +kernel
theorem dX6_control_38 : decode cX6_control 38 = .ok (.baload, 1) := by decide +kernel
theorem dX6_control_39 : decode cX6_control 39 = .ok (.ifCond .eq 6, 3) := by decide +kernel
theorem dX6_control_42 : decode cX6_control 42 = .ok (.bipush (-3), 2) := by decide +kernel
theorem dX6_control_44 : decode cX6_control 44 = .ok (.ireturn, 1) := by decide +kernel
theorem dX6_control_45 : decode cX6_control 45 = .ok (.iload_n 2, 1) := by decide +kernel
theorem dX6_control_46 : decode cX6_control 46 = .ok (.ifCond .ne 14, 3) := by decide +kernel
theorem dX6_control_49 : decode cX6_control 49 = .ok (.aload_n 0, 1) := by decide +kernel
theorem dX6_control_50 : decode cX6_control 50 = .ok (.getfield 33, 3) := by decide +kernel
theorem dX6_control_53 : decode cX6_control 53 = .ok (.iload 5, 2) := by decide +kernel
theorem dX6_control_55 : decode cX6_control 55 = .ok (.lload_n 3, 1) := by decide +kernel
theorem dX6_control_56 : decode cX6_control 56 = .ok (.lastore, 1) := by decide +kernel
theorem dX6_control_57 : decode cX6_control 57 = .ok (.goto 21, 3) := by decide +kernel
theorem dX6_control_60 : decode cX6_control 60 = .ok (.aload_n 0, 1) := by decide +kernel
theorem dX6_control_61 : decode cX6_control 61 = .ok (.getfield 44, 3) := by decide +kernel
theorem dX6_control_64 : decode cX6_control 64 = .ok (.iload 5, 2) := by decide +kernel
theorem dX6_control_66 : decode cX6_control 66 = .ok (.lload_n 3, 1) := by decide +kernel
theorem dX6_control_67 : decode cX6_control 67 = .ok (.lconst 0, 1) := by decide +kernel
theorem dX6_control_68 : decode cX6_control 68 = .ok (.lcmp, 1) := by decide +kernel
theorem dX6_control_69 : decode cX6_control 69 = .ok (.ifCond .ne 7, 3) := by decide +kernel
theorem dX6_control_72 : decode cX6_control 72 = .ok (.iconst 1, 1) := by decide +kernel
theorem dX6_control_73 : decode cX6_control 73 = .ok (.goto 4, 3) := by decide +kernel
theorem dX6_control_76 : decode cX6_control 76 = .ok (.iconst 0, 1) := by decide +kernel
theorem dX6_control_77 : decode cX6_control 77 = .ok (.bastore, 1) := by decide +kernel
theorem dX6_control_78 : decode cX6_control 78 = .ok (.iconst 1, 1) := by decide +kernel
theorem dX6_control_79 : decode cX6_control 79 = .ok (.ireturn, 1) := by decide +kernel
theorem dX6_pending_0 : decode cX6_pending 0 = .ok (.aload_n 0, 1) := by decide +kernel
theorem dX6_pending_1 : decode cX6_pending 1 = .ok (.iconst 0, 1) := by decide +kernel
theorem dX6_pending_2 : decode cX6_pending 2 = .ok (.putfield 83, 3) := by decide +kernel
theorem dX6_pending_5 : decode cX6_pending 5 = .ok (.iload_n 1, 1) := by decide +kernel
theorem dX6_pending_6 : decode cX6_pending 6 = .ok (.i2l, 1) := by decide +kernel
theorem dX6_pending_7 : decode cX6_pending 7 = .ok (.lconst 0, 1) := by decide +kernel
theorem dX6_pending_8 : decode cX6_pending 8 = .ok (.ldc2_w 115, 3) := by decide +kernel
theorem dX6_pending_11 : decode cX6_pending 11 = .ok (.invokestatic 91, 3) := by decide +kernel
theorem dX6_pending_14 : decode cX6_pending 14 = .ok (.ifCond .ne 6, 3) := by decide +kernel
theorem dX6_pending_17 : decode cX6_pending 17 = .ok (.bipush (-2), 2) := by decide +kernel
theorem dX6_pending_19 : decode cX6_pending 19 = .ok (.ireturn, 1) := by decide +kernel
theorem dX6_pending_20 : decode cX6_pending 20 = .ok (.aload_n 0, 1) := by decide +kernel
theorem dX6_pending_21 : decode cX6_pending 21 = .ok (.getfield 117, 3) := by decide +kernel
theorem dX6_pending_24 : decode cX6_pending 24 = .ok (.istore_n 2, 1) := by decide +kernel
theorem dX6_pending_25 : decode cX6_pending 25 = .ok (.aload_n 0, 1) := by decide +kernel
theorem dX6_pending_26 : decode cX6_pending 26 = .ok (.iload_n 1, 1) := by decide +kernel
theorem dX6_pending_27 : decode cX6_pending 27 = .ok (.putfield 117, 3) := by decide +kernel
theorem dX6_pending_30 : decode cX6_pending 30 = .ok (.iload_n 2, 1) := by decide +kernel
theorem dX6_pending_31 : decode cX6_pending 31 = .ok (.ireturn, 1) := by decide +kernel
theorem dX6_octet_0 : decode cX6_octet 0 = .ok (.aload_n 0, 1) := by decide +kernel
theorem dX6_octet_1 : decode cX6_octet 1 = .ok (.getfield 47, 3) := by decide +kernel
theorem dX6_octet_4 : decode cX6_octet 4 = .ok (.iload_n 1, 1) := by decide +kernel
theorem dX6_octet_5 : decode cX6_octet 5 = .ok (.baload, 1) := by decide +kernel
theorem dX6_octet_6 : decode cX6_octet 6 = .ok (.ifCond .eq 17, 3) := by decide +kernel
theorem dX6_octet_9 : decode cX6_octet 9 = .ok (.aload_n 0, 1) := by decide +kernel
theorem dX6_octet_10 : decode cX6_octet 10 = .ok (.getfield 50, 3) := by decide +kernel
theorem dX6_octet_13 : decode cX6_octet 13 = .ok (.bipush 8, 2) := by decide +kernel
theorem dX6_octet_15 : decode cX6_octet 15 = .ok (.iload_n 1, 1) := by decide +kernel
theorem dX6_octet_16 : decode cX6_octet 16 = .ok (.imul, 1) := by decide +kernel
theorem dX6_octet_17 : decode cX6_octet 17 = .ok (.iload_n 2, 1) := by decide +kernel
theorem dX6_octet_18 : decode cX6_octet 18 = .ok (.iadd, 1) := by decide +kernel
theorem dX6_octet_19 : decode cX6_octet 19 = .ok (.iaload, 1) := by decide +kernel
theorem dX6_octet_20 : decode cX6_octet 20 = .ok (.goto 4, 3) := by decide +kernel
theorem dX6_octet_23 : decode cX6_octet 23 = .ok (.iload_n 1, 1) := by decide +kernel
theorem dX6_octet_24 : decode cX6_octet 24 = .ok (.istore_n 3, 1) := by decide +kernel
theorem dX6_octet_25 : decode cX6_octet 25 = .ok (.aload_n 0, 1) := by decide +kernel
theorem dX6_octet_26 : decode cX6_octet 26 = .ok (.getfield 47, 3) := by decide +kernel
theorem dX6_octet_29 : decode cX6_octet 29 = .ok (.iload_n 1, 1) := by decide +kernel
theorem dX6_octet_30 : decode cX6_octet 30 = .ok (.baload, 1) := by decide +kernel
theorem dX6_octet_31 : decode cX6_octet 31 = .ok (.ifCond .eq 17, 3) := by decide +kernel
theorem dX6_octet_34 : decode cX6_octet 34 = .ok (.aload_n 0, 1) := by decide +kernel
theorem dX6_octet_35 : decode cX6_octet 35 = .ok (.getfield 53, 3) := by decide +kernel
theorem dX6_octet_38 : decode cX6_octet 38 = .ok (.bipush 8, 2) := by decide +kernel
theorem dX6_octet_40 : decode cX6_octet 40 = .ok (.iload_n 1, 1) := by decide +kernel
theorem dX6_octet_41 : decode cX6_octet 41 = .ok (.imul, 1) := by decide +kernel
theorem dX6_octet_42 : decode cX6_octet 42 = .ok (.iload_n 2, 1) := by decide +kernel
theorem dX6_octet_43 : decode cX6_octet 43 = .ok (.iadd, 1) := by decide +kernel
theorem dX6_octet_44 : decode cX6_octet 44 = .ok (.iaload, 1) := by decide +kernel
theorem dX6_octet_45 : decode cX6_octet 45 = .ok (.goto 4, 3) := by decide +kernel
theorem dX6_octet_48 : decode cX6_octet 48 = .ok (.iload_n 2, 1) := by decide +kernel
theorem dX6_octet_49 : decode cX6_octet 49 = .ok (.istore 4, 2) := by decide +kernel
theorem dX6_octet_51 : decode cX6_octet 51 = .ok (.aload_n 0, 1) := by decide +kernel
theorem dX6_octet_52 : decode cX6_octet 52 = .ok (.getfield 37, 3) := by decide +kernel
theorem dX6_octet_55 : decode cX6_octet 55 = .ok (.iload_n 3, 1) := by decide +kernel
theorem dX6_octet_56 : decode cX6_octet 56 = .ok (.baload, 1) := by decide +kernel
theorem dX6_octet_57 : decode cX6_octet 57 = .ok (.ifCond .eq 12, 3) := by decide +kernel
theorem dX6_octet_60 : decode cX6_octet 60 = .ok (.aload_n 0, 1) := by decide +kernel
theorem dX6_octet_61 : decode cX6_octet 61 = .ok (.getfield 41, 3) := by decide +kernel
theorem dX6_octet_64 : decode cX6_octet 64 = .ok (.iload_n 3, 1) := by decide +kernel
theorem dX6_octet_65 : decode cX6_octet 65 = .ok (.laload, 1) := by decide +kernel
theorem dX6_octet_66 : decode cX6_octet 66 = .ok (.goto 9, 3) := by decide +kernel
theorem dX6_octet_69 : decode cX6_octet 69 = .ok (.aload_n 0, 1) := by decide +kernel
theorem dX6_octet_70 : decode cX6_octet 70 = .ok (.getfield 33, 3) := by decide +kernel
theorem dX6_octet_73 : decode cX6_octet 73 = .ok (.iload_n 3, 1) := by decide +kernel
theorem dX6_octet_74 : decode cX6_octet 74 = .ok (.laload, 1) := by decide +kernel
theorem dX6_octet_75 : decode cX6_octet 75 = .ok (.lstore 5, 2) := by decide +kernel
theorem dX6_octet_77 : decode cX6_octet 77 = .ok (.lload 5, 2) := by decide +kernel
theorem dX6_octet_79 : decode cX6_octet 79 = .ok (.bipush 8, 2) := by decide +kernel
theorem dX6_octet_81 : decode cX6_octet 81 = .ok (.aload_n 0, 1) := by decide +kernel
theorem dX6_octet_82 : decode cX6_octet 82 = .ok (.getfield 24, 3) := by decide +kernel
theorem dX6_octet_85 : decode cX6_octet 85 = .ok (.iload_n 3, 1) := by decide +kernel
theorem dX6_octet_86 : decode cX6_octet 86 = .ok (.iaload, 1) := by decide +kernel
theorem dX6_octet_87 : decode cX6_octet 87 = .ok (.iconst 1, 1) := by decide +kernel
theorem dX6_octet_88 : decode cX6_octet 88 = .ok (.isub, 1) := by decide +kernel
theorem dX6_octet_89 : decode cX6_octet 89 = .ok (.iload 4, 2) := by decide +kernel
theorem dX6_octet_91 : decode cX6_octet 91 = .ok (.isub, 1) := by decide +kernel
theorem dX6_octet_92 : decode cX6_octet 92 = .ok (.imul, 1) := by decide +kernel
theorem dX6_octet_93 : decode cX6_octet 93 = .ok (.lshr, 1) := by decide +kernel
theorem dX6_octet_94 : decode cX6_octet 94 = .ok (.l2i, 1) := by decide +kernel
theorem dX6_octet_95 : decode cX6_octet 95 = .ok (.sipush 255, 3) := by decide +kernel
theorem dX6_octet_98 : decode cX6_octet 98 = .ok (.iand, 1) := by decide +kernel
theorem dX6_octet_99 : decode cX6_octet 99 = .ok (.ireturn, 1) := by decide +kernel
theorem dX6_valueOf_0 : decode cX6_valueOf 0 = .ok (.lconst 0, 1) := by decide +kernel
theorem dX6_valueOf_1 : decode cX6_valueOf 1 = .ok (.lstore_n 2, 1) := by decide +kernel
theorem dX6_valueOf_2 : decode cX6_valueOf 2 = .ok (.iconst 0, 1) := by decide +kernel
theorem dX6_valueOf_3 : decode cX6_valueOf 3 = .ok (.istore 4, 2) := by decide +kernel
theorem dX6_valueOf_5 : decode cX6_valueOf 5 = .ok (.iload 4, 2) := by decide +kernel
theorem dX6_valueOf_7 : decode cX6_valueOf 7 = .ok (.aload_n 0, 1) := by decide +kernel
theorem dX6_valueOf_8 : decode cX6_valueOf 8 = .ok (.getfield 24, 3) := by decide +kernel
theorem dX6_valueOf_11 : decode cX6_valueOf 11 = .ok (.iload_n 1, 1) := by decide +kernel
theorem dX6_valueOf_12 : decode cX6_valueOf 12 = .ok (.iaload, 1) := by decide +kernel
theorem dX6_valueOf_13 : decode cX6_valueOf 13 = .ok (.if_icmp .ge 23, 3) := by decide +kernel
theorem dX6_valueOf_16 : decode cX6_valueOf 16 = .ok (.lload_n 2, 1) := by decide +kernel
theorem dX6_valueOf_17 : decode cX6_valueOf 17 = .ok (.bipush 8, 2) := by decide +kernel
theorem dX6_valueOf_19 : decode cX6_valueOf 19 = .ok (.lshl, 1) := by decide +kernel
theorem dX6_valueOf_20 : decode cX6_valueOf 20 = .ok (.aload_n 0, 1) := by decide +kernel
theorem dX6_valueOf_21 : decode cX6_valueOf 21 = .ok (.iload_n 1, 1) := by decide +kernel
theorem dX6_valueOf_22 : decode cX6_valueOf 22 = .ok (.iload 4, 2) := by decide +kernel
theorem dX6_valueOf_24 : decode cX6_valueOf 24 = .ok (.invokevirtual 120, 3) := by decide +kernel
theorem dX6_valueOf_27 : decode cX6_valueOf 27 = .ok (.i2l, 1) := by decide +kernel
theorem dX6_valueOf_28 : decode cX6_valueOf 28 = .ok (.lor, 1) := by decide +kernel
theorem dX6_valueOf_29 : decode cX6_valueOf 29 = .ok (.lstore_n 2, 1) := by decide +kernel
theorem dX6_valueOf_30 : decode cX6_valueOf 30 = .ok (.iinc 4 1, 3) := by decide +kernel
theorem dX6_valueOf_33 : decode cX6_valueOf 33 = .ok (.goto (-28), 3) := by decide +kernel
theorem dX6_valueOf_36 : decode cX6_valueOf 36 = .ok (.lload_n 2, 1) := by decide +kernel
theorem dX6_valueOf_37 : decode cX6_valueOf 37 = .ok (.lreturn, 1) := by decide +kernel
theorem dX6_value_0 : decode cX6_value 0 = .ok (.aload_n 0, 1) := by decide +kernel
theorem dX6_value_1 : decode cX6_value 1 = .ok (.iconst 0, 1) := by decide +kernel
theorem dX6_value_2 : decode cX6_value 2 = .ok (.putfield 83, 3) := by decide +kernel
theorem dX6_value_5 : decode cX6_value 5 = .ok (.aload_n 0, 1) := by decide +kernel
theorem dX6_value_6 : decode cX6_value 6 = .ok (.iload_n 1, 1) := by decide +kernel
theorem dX6_value_7 : decode cX6_value 7 = .ok (.invokevirtual 99, 3) := by decide +kernel
theorem dX6_value_10 : decode cX6_value 10 = .ok (.istore_n 2, 1) := by decide +kernel
theorem dX6_value_11 : decode cX6_value 11 = .ok (.iload_n 2, 1) := by decide +kernel
theorem dX6_value_12 : decode cX6_value 12 = .ok (.ifCond .ge 7, 3) := by decide +kernel
theorem dX6_value_15 : decode cX6_value 15 = .ok (.lconst 0, 1) := by decide +kernel
theorem dX6_value_16 : decode cX6_value 16 = .ok (.goto 8, 3) := by decide +kernel
theorem dX6_value_19 : decode cX6_value 19 = .ok (.aload_n 0, 1) := by decide +kernel
theorem dX6_value_20 : decode cX6_value 20 = .ok (.iload_n 2, 1) := by decide +kernel
theorem dX6_value_21 : decode cX6_value 21 = .ok (.invokevirtual 124, 3) := by decide +kernel
theorem dX6_value_24 : decode cX6_value 24 = .ok (.lreturn, 1) := by decide +kernel
theorem dX6_told_0 : decode cX6_told 0 = .ok (.aload_n 0, 1) := by decide +kernel
theorem dX6_told_1 : decode cX6_told 1 = .ok (.getfield 74, 3) := by decide +kernel
theorem dX6_told_4 : decode cX6_told 4 = .ok (.iload_n 1, 1) := by decide +kernel
theorem dX6_told_5 : decode cX6_told 5 = .ok (.iaload, 1) := by decide +kernel
theorem dX6_told_6 : decode cX6_told 6 = .ok (.bipush 8, 2) := by decide +kernel
theorem dX6_told_8 : decode cX6_told 8 = .ok (.ishl, 1) := by decide +kernel
theorem dX6_told_9 : decode cX6_told 9 = .ok (.aload_n 0, 1) := by decide +kernel
theorem dX6_told_10 : decode cX6_told 10 = .ok (.getfield 74, 3) := by decide +kernel
theorem dX6_told_13 : decode cX6_told 13 = .ok (.iload_n 1, 1) := by decide +kernel
theorem dX6_told_14 : decode cX6_told 14 = .ok (.iconst 1, 1) := by decide +kernel
theorem dX6_told_15 : decode cX6_told 15 = .ok (.iadd, 1) := by decide +kernel
theorem dX6_told_16 : decode cX6_told 16 = .ok (.iaload, 1) := by decide +kernel
theorem dX6_told_17 : decode cX6_told 17 = .ok (.ior, 1) := by decide +kernel
theorem dX6_told_18 : decode cX6_told 18 = .ok (.ireturn, 1) := by decide +kernel
theorem dX6_number_0 : decode cX6_number 0 = .ok (.lconst 0, 1) := by decide +kernel
theorem dX6_number_1 : decode cX6_number 1 = .ok (.lstore_n 3, 1) := by decide +kernel
theorem dX6_number_2 : decode cX6_number 2 = .ok (.iconst 0, 1) := by decide +kernel
theorem dX6_number_3 : decode cX6_number 3 = .ok (.istore 5, 2) := by decide +kernel
theorem dX6_number_5 : decode cX6_number 5 = .ok (.iload 5, 2) := by decide +kernel
theorem dX6_number_7 : decode cX6_number 7 = .ok (.iload_n 2, 1) := by decide +kernel
theorem dX6_number_8 : decode cX6_number 8 = .ok (.if_icmp .ge 25, 3) := by decide +kernel
theorem dX6_number_11 : decode cX6_number 11 = .ok (.lload_n 3, 1) := by decide +kernel
theorem dX6_number_12 : decode cX6_number 12 = .ok (.bipush 8, 2) := by decide +kernel
theorem dX6_number_14 : decode cX6_number 14 = .ok (.lshl, 1) := by decide +kernel
theorem dX6_number_15 : decode cX6_number 15 = .ok (.aload_n 0, 1) := by decide +kernel
theorem dX6_number_16 : decode cX6_number 16 = .ok (.getfield 74, 3) := by decide +kernel
theorem dX6_number_19 : decode cX6_number 19 = .ok (.iload_n 1, 1) := by decide +kernel
theorem dX6_number_20 : decode cX6_number 20 = .ok (.iload 5, 2) := by decide +kernel
theorem dX6_number_22 : decode cX6_number 22 = .ok (.iadd, 1) := by decide +kernel
theorem dX6_number_23 : decode cX6_number 23 = .ok (.iaload, 1) := by decide +kernel
theorem dX6_number_24 : decode cX6_number 24 = .ok (.i2l, 1) := by decide +kernel
theorem dX6_number_25 : decode cX6_number 25 = .ok (.lor, 1) := by decide +kernel
theorem dX6_number_26 : decode cX6_number 26 = .ok (.lstore_n 3, 1) := by decide +kernel
theorem dX6_number_27 : decode cX6_number 27 = .ok (.iinc 5 1, 3) := by decide +kernel
theorem dX6_number_30 : decode cX6_number 30 = .ok (.goto (-25), 3) := by decide +kernel
theorem dX6_number_33 : decode cX6_number 33 = .ok (.lload_n 3, 1) := by decide +kernel
theorem dX6_number_34 : decode cX6_number 34 = .ok (.lreturn, 1) := by decide +kernel
theorem dX6_say_0 : decode cX6_say 0 = .ok (.aload_n 0, 1) := by decide +kernel
theorem dX6_say_1 : decode cX6_say 1 = .ok (.getfield 77, 3) := by decide +kernel
theorem dX6_say_4 : decode cX6_say 4 = .ok (.aload_n 0, 1) := by decide +kernel
theorem dX6_say_5 : decode cX6_say 5 = .ok (.getfield 128, 3) := by decide +kernel
theorem dX6_say_8 : decode cX6_say 8 = .ok (.iload_n 1, 1) := by decide +kernel
theorem dX6_say_9 : decode cX6_say 9 = .ok (.sipush 255, 3) := by decide +kernel
theorem dX6_say_12 : decode cX6_say 12 = .ok (.iand, 1) := by decide +kernel
theorem dX6_say_13 : decode cX6_say 13 = .ok (.iastore, 1) := by decide +kernel
theorem dX6_say_14 : decode cX6_say 14 = .ok (.aload_n 0, 1) := by decide +kernel
theorem dX6_say_15 : decode cX6_say 15 = .ok (.dup, 1) := by decide +kernel
theorem dX6_say_16 : decode cX6_say 16 = .ok (.getfield 128, 3) := by decide +kernel
theorem dX6_say_19 : decode cX6_say 19 = .ok (.iconst 1, 1) := by decide +kernel
theorem dX6_say_20 : decode cX6_say 20 = .ok (.iadd, 1) := by decide +kernel
theorem dX6_say_21 : decode cX6_say 21 = .ok (.putfield 128, 3) := by decide +kernel
theorem dX6_say_24 : decode cX6_say 24 = .ok (.return_, 1) := by decide +kernel
theorem dX6_threeSaid_0 : decode cX6_threeSaid 0 = .ok (.aload_n 0, 1) := by decide +kernel
theorem dX6_threeSaid_1 : decode cX6_threeSaid 1 = .ok (.iload_n 1, 1) := by decide +kernel
theorem dX6_threeSaid_2 : decode cX6_threeSaid 2 = .ok (.invokevirtual 131, 3) := by decide +kernel
theorem dX6_threeSaid_5 : decode cX6_threeSaid 5 = .ok (.aload_n 0, 1) := by decide +kernel
theorem dX6_threeSaid_6 : decode cX6_threeSaid 6 = .ok (.iload_n 2, 1) := by decide +kernel
theorem dX6_threeSaid_7 : decode cX6_threeSaid 7 = .ok (.invokevirtual 131, 3) := by decide +kernel
theorem dX6_threeSaid_10 : decode cX6_threeSaid 10 = .ok (.aload_n 0, 1) := by decide +kernel
theorem dX6_threeSaid_11 : decode cX6_threeSaid 11 = .ok (.iload_n 3, 1) := by decide +kernel
theorem dX6_threeSaid_12 : decode cX6_threeSaid 12 = .ok (.invokevirtual 131, 3) := by decide +kernel
theorem dX6_threeSaid_15 : decode cX6_threeSaid 15 = .ok (.return_, 1) := by decide +kernel
theorem dX6_ends_0 : decode cX6_ends 0 = .ok (.iconst 0, 1) := by decide +kernel
theorem dX6_ends_1 : decode cX6_ends 1 = .ok (.istore_n 2, 1) := by decide +kernel
theorem dX6_ends_2 : decode cX6_ends 2 = .ok (.iload_n 2, 1) := by decide +kernel
theorem dX6_ends_3 : decode cX6_ends 3 = .ok (.aload_n 0, 1) := by decide +kernel
theorem dX6_ends_4 : decode cX6_ends 4 = .ok (.getfield 86, 3) := by decide +kernel
theorem dX6_ends_7 : decode cX6_ends 7 = .ok (.if_icmp .ge 16, 3) := by decide +kernel
theorem dX6_ends_10 : decode cX6_ends 10 = .ok (.aload_n 0, 1) := by decide +kernel
theorem dX6_ends_11 : decode cX6_ends 11 = .ok (.getfield 37, 3) := by decide +kernel
theorem dX6_ends_14 : decode cX6_ends 14 = .ok (.iload_n 2, 1) := by decide +kernel
theorem dX6_ends_15 : decode cX6_ends 15 = .ok (.iconst 0, 1) := by decide +kernel
theorem dX6_ends_16 : decode cX6_ends 16 = .ok (.bastore, 1) := by decide +kernel
theorem dX6_ends_17 : decode cX6_ends 17 = .ok (.iinc 2 1, 3) := by decide +kernel
theorem dX6_ends_20 : decode cX6_ends 20 = .ok (.goto (-18), 3) := by decide +kernel
theorem dX6_ends_23 : decode cX6_ends 23 = .ok (.aload_n 0, 1) := by decide +kernel
theorem dX6_ends_24 : decode cX6_ends 24 = .ok (.iconst 0, 1) := by decide +kernel
theorem dX6_ends_25 : decode cX6_ends 25 = .ok (.putfield 135, 3) := by decide +kernel
theorem dX6_ends_28 : decode cX6_ends 28 = .ok (.aload_n 0, 1) := by decide +kernel
theorem dX6_ends_29 : decode cX6_ends 29 = .ok (.iconst 0, 1) := by decide +kernel
theorem dX6_ends_30 : decode cX6_ends 30 = .ok (.putfield 112, 3) := by decide +kernel
theorem dX6_ends_33 : decode cX6_ends 33 = .ok (.aload_n 0, 1) := by decide +kernel
theorem dX6_ends_34 : decode cX6_ends 34 = .ok (.iload_n 1, 1) := by decide +kernel
theorem dX6_ends_35 : decode cX6_ends 35 = .ok (.putfield 7, 3) := by decide +kernel
theorem dX6_ends_38 : decode cX6_ends 38 = .ok (.return_, 1) := by decide +kernel
theorem dX6_isHere_0 : decode cX6_isHere 0 = .ok (.iload_n 1, 1) := by decide +kernel
theorem dX6_isHere_1 : decode cX6_isHere 1 = .ok (.ifCond .lt 20, 3) := by decide +kernel
theorem dX6_isHere_4 : decode cX6_isHere 4 = .ok (.aload_n 0, 1) := by decide +kernel
theorem dX6_isHere_5 : decode cX6_isHere 5 = .ok (.getfield 27, 3) := by decide +kernel
theorem dX6_isHere_8 : decode cX6_isHere 8 = .ok (.iload_n 1, 1) := by decide +kernel
theorem dX6_isHere_9 : decode cX6_isHere 9 = .ok (.iaload, 1) := by decide +kernel
theorem dX6_isHere_10 : decode cX6_isHere 10 = .ok (.aload_n 0, 1) := by decide +kernel
theorem dX6_isHere_11 : decode cX6_isHere 11 = .ok (.getfield 7, 3) := by decide +kernel
theorem dX6_isHere_14 : decode cX6_isHere 14 = .ok (.if_icmp .gt 7, 3) := by decide +kernel
theorem dX6_isHere_17 : decode cX6_isHere 17 = .ok (.iconst 1, 1) := by decide +kernel
theorem dX6_isHere_18 : decode cX6_isHere 18 = .ok (.goto 4, 3) := by decide +kernel
theorem dX6_isHere_21 : decode cX6_isHere 21 = .ok (.iconst 0, 1) := by decide +kernel
theorem dX6_isHere_22 : decode cX6_isHere 22 = .ok (.ireturn, 1) := by decide +kernel
theorem dX6_served_0 : decode cX6_served 0 = .ok (.aload_n 0, 1) := by decide +kernel
theorem dX6_served_1 : decode cX6_served 1 = .ok (.getfield 138, 3) := by decide +kernel
theorem dX6_served_4 : decode cX6_served 4 = .ok (.iconst 1, 1) := by decide +kernel
theorem dX6_served_5 : decode cX6_served 5 = .ok (.isub, 1) := by decide +kernel
theorem dX6_served_6 : decode cX6_served 6 = .ok (.istore_n 1, 1) := by decide +kernel
theorem dX6_served_7 : decode cX6_served 7 = .ok (.iload_n 1, 1) := by decide +kernel
theorem dX6_served_8 : decode cX6_served 8 = .ok (.ifCond .le 15, 3) := by decide +kernel
theorem dX6_served_11 : decode cX6_served 11 = .ok (.aload_n 0, 1) := by decide +kernel
theorem dX6_served_12 : decode cX6_served 12 = .ok (.getfield 74, 3) := by decide +kernel
theorem dX6_served_15 : decode cX6_served 15 = .ok (.iconst 1, 1) := by decide +kernel
theorem dX6_served_16 : decode cX6_served 16 = .ok (.iaload, 1) := by decide +kernel
theorem dX6_served_17 : decode cX6_served 17 = .ok (.bipush 127, 2) := by decide +kernel
theorem dX6_served_19 : decode cX6_served 19 = .ok (.iand, 1) := by decide +kernel
theorem dX6_served_20 : decode cX6_served 20 = .ok (.goto 4, 3) := by decide +kernel
theorem dX6_served_23 : decode cX6_served 23 = .ok (.iconst (-1), 1) := by decide +kernel
theorem dX6_served_24 : decode cX6_served 24 = .ok (.istore_n 2, 1) := by decide +kernel
theorem dX6_served_25 : decode cX6_served 25 = .ok (.aload_n 0, 1) := by decide +kernel
theorem dX6_served_26 : decode cX6_served 26 = .ok (.getfield 74, 3) := by decide +kernel
theorem dX6_served_29 : decode cX6_served 29 = .ok (.iconst 0, 1) := by decide +kernel
theorem dX6_served_30 : decode cX6_served 30 = .ok (.iaload, 1) := by decide +kernel
theorem dX6_served_31 : decode cX6_served 31 = .ok (.lookupswitch 463 #[(16, 89), (17, 173), (34, 278), (46, 284), (47, 290), (49, 296), (52, 303), (54, 394), (55, 400), (62, 145)], 89) := by decide +kernel
theorem dX6_served_120 : decode cX6_served 120 = .ok (.iload_n 1, 1) := by decide +kernel
theorem dX6_served_121 : decode cX6_served 121 = .ok (.iconst 1, 1) := by decide +kernel
theorem dX6_served_122 : decode cX6_served 122 = .ok (.if_icmp .eq 6, 3) := by decide +kernel
theorem dX6_served_125 : decode cX6_served 125 = .ok (.bipush 19, 2) := by decide +kernel
theorem dX6_served_127 : decode cX6_served 127 = .ok (.ireturn, 1) := by decide +kernel
theorem dX6_served_128 : decode cX6_served 128 = .ok (.iload_n 2, 1) := by decide +kernel
theorem dX6_served_129 : decode cX6_served 129 = .ok (.i2l, 1) := by decide +kernel
theorem dX6_served_130 : decode cX6_served 130 = .ok (.lconst 1, 1) := by decide +kernel
theorem dX6_served_131 : decode cX6_served 131 = .ok (.ldc2_w 97, 3) := by decide +kernel
theorem dX6_served_134 : decode cX6_served 134 = .ok (.invokestatic 91, 3) := by decide +kernel
theorem dX6_served_137 : decode cX6_served 137 = .ok (.ifCond .ne 6, 3) := by decide +kernel
theorem dX6_served_140 : decode cX6_served 140 = .ok (.bipush 18, 2) := by decide +kernel
theorem dX6_served_142 : decode cX6_served 142 = .ok (.ireturn, 1) := by decide +kernel
theorem dX6_served_143 : decode cX6_served 143 = .ok (.iload_n 2, 1) := by decide +kernel
theorem dX6_served_144 : decode cX6_served 144 = .ok (.iconst 3, 1) := by decide +kernel
theorem dX6_served_145 : decode cX6_served 145 = .ok (.if_icmp .ne 13, 3) := by decide +kernel
theorem dX6_served_148 : decode cX6_served 148 = .ok (.aload_n 0, 1) := by decide +kernel
theorem dX6_served_149 : decode cX6_served 149 = .ok (.getfield 13, 3) := by decide +kernel
theorem dX6_served_152 : decode cX6_served 152 = .ok (.ifCond .ne 6, 3) := by decide +kernel
theorem dX6_served_155 : decode cX6_served 155 = .ok (.bipush 34, 2) := by decide +kernel
theorem dX6_served_157 : decode cX6_served 157 = .ok (.ireturn, 1) := by decide +kernel
theorem dX6_served_158 : decode cX6_served 158 = .ok (.aload_n 0, 1) := by decide +kernel
theorem dX6_served_159 : decode cX6_served 159 = .ok (.iload_n 2, 1) := by decide +kernel
theorem dX6_served_160 : decode cX6_served 160 = .ok (.invokevirtual 141, 3) := by decide +kernel
theorem dX6_served_163 : decode cX6_served 163 = .ok (.aload_n 0, 1) := by decide +kernel
theorem dX6_served_164 : decode cX6_served 164 = .ok (.bipush 80, 2) := by decide +kernel
theorem dX6_served_166 : decode cX6_served 166 = .ok (.invokevirtual 131, 3) := by decide +kernel
theorem dX6_served_169 : decode cX6_served 169 = .ok (.aload_n 0, 1) := by decide +kernel
theorem dX6_served_170 : decode cX6_served 170 = .ok (.iload_n 2, 1) := by decide +kernel
theorem dX6_served_171 : decode cX6_served 171 = .ok (.invokevirtual 131, 3) := by decide +kernel
theorem dX6_served_174 : decode cX6_served 174 = .ok (.iconst 0, 1) := by decide +kernel
theorem dX6_served_175 : decode cX6_served 175 = .ok (.ireturn, 1) := by decide +kernel
theorem dX6_served_176 : decode cX6_served 176 = .ok (.iload_n 1, 1) := by decide +kernel
theorem dX6_served_177 : decode cX6_served 177 = .ok (.iconst 1, 1) := by decide +kernel
theorem dX6_served_178 : decode cX6_served 178 = .ok (.if_icmp .eq 6, 3) := by decide +kernel
theorem dX6_served_181 : decode cX6_served 181 = .ok (.bipush 19, 2) := by decide +kernel
theorem dX6_served_183 : decode cX6_served 183 = .ok (.ireturn, 1) := by decide +kernel
theorem dX6_served_184 : decode cX6_served 184 = .ok (.iload_n 2, 1) := by decide +kernel
theorem dX6_served_185 : decode cX6_served 185 = .ok (.ifCond .eq 6, 3) := by decide +kernel
theorem dX6_served_188 : decode cX6_served 188 = .ok (.bipush 18, 2) := by decide +kernel
theorem dX6_served_190 : decode cX6_served 190 = .ok (.ireturn, 1) := by decide +kernel
theorem dX6_served_191 : decode cX6_served 191 = .ok (.aload_n 0, 1) := by decide +kernel
theorem dX6_served_192 : decode cX6_served 192 = .ok (.bipush 126, 2) := by decide +kernel
theorem dX6_served_194 : decode cX6_served 194 = .ok (.invokevirtual 131, 3) := by decide +kernel
theorem dX6_served_197 : decode cX6_served 197 = .ok (.aload_n 0, 1) := by decide +kernel
theorem dX6_served_198 : decode cX6_served 198 = .ok (.iconst 0, 1) := by decide +kernel
theorem dX6_served_199 : decode cX6_served 199 = .ok (.invokevirtual 131, 3) := by decide +kernel
theorem dX6_served_202 : decode cX6_served 202 = .ok (.iconst 0, 1) := by decide +kernel
theorem dX6_served_203 : decode cX6_served 203 = .ok (.ireturn, 1) := by decide +kernel
theorem dX6_served_204 : decode cX6_served 204 = .ok (.iload_n 1, 1) := by decide +kernel
theorem dX6_served_205 : decode cX6_served 205 = .ok (.iconst 1, 1) := by decide +kernel
theorem dX6_served_206 : decode cX6_served 206 = .ok (.if_icmp .eq 6, 3) := by decide +kernel
theorem dX6_served_209 : decode cX6_served 209 = .ok (.bipush 19, 2) := by decide +kernel
theorem dX6_served_211 : decode cX6_served 211 = .ok (.ireturn, 1) := by decide +kernel
theorem dX6_served_212 : decode cX6_served 212 = .ok (.iload_n 2, 1) := by decide +kernel
theorem dX6_served_213 : decode cX6_served 213 = .ok (.iconst 1, 1) := by decide +kernel
theorem dX6_served_214 : decode cX6_served 214 = .ok (.if_icmp .eq 11, 3) := by decide +kernel
theorem dX6_served_217 : decode cX6_served 217 = .ok (.iload_n 2, 1) := by decide +kernel
theorem dX6_served_218 : decode cX6_served 218 = .ok (.iconst 3, 1) := by decide +kernel
theorem dX6_served_219 : decode cX6_served 219 = .ok (.if_icmp .eq 6, 3) := by decide +kernel
theorem dX6_served_222 : decode cX6_served 222 = .ok (.bipush 18, 2) := by decide +kernel
theorem dX6_served_224 : decode cX6_served 224 = .ok (.ireturn, 1) := by decide +kernel
theorem dX6_served_225 : decode cX6_served 225 = .ok (.aload_n 0, 1) := by decide +kernel
theorem dX6_served_226 : decode cX6_served 226 = .ok (.getfield 13, 3) := by decide +kernel
theorem dX6_served_229 : decode cX6_served 229 = .ok (.ifCond .ne 6, 3) := by decide +kernel
theorem dX6_served_232 : decode cX6_served 232 = .ok (.bipush 34, 2) := by decide +kernel
theorem dX6_served_234 : decode cX6_served 234 = .ok (.ireturn, 1) := by decide +kernel
theorem dX6_served_235 : decode cX6_served 235 = .ok (.aload_n 0, 1) := by decide +kernel
theorem dX6_served_236 : decode cX6_served 236 = .ok (.iconst 1, 1) := by decide +kernel
theorem dX6_served_237 : decode cX6_served 237 = .ok (.invokevirtual 141, 3) := by decide +kernel
theorem dX6_served_240 : decode cX6_served 240 = .ok (.iconst 0, 1) := by decide +kernel
theorem dX6_served_241 : decode cX6_served 241 = .ok (.istore_n 3, 1) := by decide +kernel
theorem dX6_served_242 : decode cX6_served 242 = .ok (.iload_n 3, 1) := by decide +kernel
theorem dX6_served_243 : decode cX6_served 243 = .ok (.bipush 10, 2) := by decide +kernel
theorem dX6_served_245 : decode cX6_served 245 = .ok (.if_icmp .ge 23, 3) := by decide +kernel
theorem dX6_served_248 : decode cX6_served 248 = .ok (.aload_n 0, 1) := by decide +kernel
theorem dX6_served_249 : decode cX6_served 249 = .ok (.getfield 62, 3) := by decide +kernel
theorem dX6_served_252 : decode cX6_served 252 = .ok (.iload_n 3, 1) := by decide +kernel
theorem dX6_served_253 : decode cX6_served 253 = .ok (.iconst 0, 1) := by decide +kernel
theorem dX6_served_254 : decode cX6_served 254 = .ok (.bastore, 1) := by decide +kernel
theorem dX6_served_255 : decode cX6_served 255 = .ok (.aload_n 0, 1) := by decide +kernel
theorem dX6_served_256 : decode cX6_served 256 = .ok (.getfield 65, 3) := by decide +kernel
theorem dX6_served_259 : decode cX6_served 259 = .ok (.iload_n 3, 1) := by decide +kernel
theorem dX6_served_260 : decode cX6_served 260 = .ok (.iconst 0, 1) := by decide +kernel
theorem dX6_served_261 : decode cX6_served 261 = .ok (.iastore, 1) := by decide +kernel
theorem dX6_served_262 : decode cX6_served 262 = .ok (.iinc 3 1, 3) := by decide +kernel
theorem dX6_served_265 : decode cX6_served 265 = .ok (.goto (-23), 3) := by decide +kernel
theorem dX6_served_268 : decode cX6_served 268 = .ok (.iconst 0, 1) := by decide +kernel
theorem dX6_served_269 : decode cX6_served 269 = .ok (.istore_n 3, 1) := by decide +kernel
theorem dX6_served_270 : decode cX6_served 270 = .ok (.iload_n 3, 1) := by decide +kernel
theorem dX6_served_271 : decode cX6_served 271 = .ok (.aload_n 0, 1) := by decide +kernel
theorem dX6_served_272 : decode cX6_served 272 = .ok (.getfield 86, 3) := by decide +kernel
theorem dX6_served_275 : decode cX6_served 275 = .ok (.if_icmp .ge 21, 3) := by decide +kernel
theorem dX6_served_278 : decode cX6_served 278 = .ok (.iload_n 2, 1) := by decide +kernel
theorem dX6_served_279 : decode cX6_served 279 = .ok (.iconst 1, 1) := by decide +kernel
theorem dX6_served_280 : decode cX6_served 280 = .ok (.if_icmp .ne 16, 3) := by decide +kernel
theorem dX6_served_283 : decode cX6_served 283 = .ok (.aload_n 0, 1) := by decide +kernel
theorem dX6_served_284 : decode cX6_served 284 = .ok (.getfield 33, 3) := by decide +kernel
theorem dX6_served_287 : decode cX6_served 287 = .ok (.iload_n 3, 1) := by decide +kernel
theorem dX6_served_288 : decode cX6_served 288 = .ok (.lconst 0, 1) := by decide +kernel
theorem dX6_served_289 : decode cX6_served 289 = .ok (.lastore, 1) := by decide +kernel
theorem dX6_served_290 : decode cX6_served 290 = .ok (.iinc 3 1, 3) := by decide +kernel
theorem dX6_served_293 : decode cX6_served 293 = .ok (.goto (-23), 3) := by decide +kernel
theorem dX6_served_296 : decode cX6_served 296 = .ok (.aload_n 0, 1) := by decide +kernel
theorem dX6_served_297 : decode cX6_served 297 = .ok (.bipush 81, 2) := by decide +kernel
theorem dX6_served_299 : decode cX6_served 299 = .ok (.invokevirtual 131, 3) := by decide +kernel
theorem dX6_served_302 : decode cX6_served 302 = .ok (.aload_n 0, 1) := by decide +kernel
theorem dX6_served_303 : decode cX6_served 303 = .ok (.iload_n 2, 1) := by decide +kernel
theorem dX6_served_304 : decode cX6_served 304 = .ok (.invokevirtual 131, 3) := by decide +kernel
theorem dX6_served_307 : decode cX6_served 307 = .ok (.iconst 0, 1) := by decide +kernel
theorem dX6_served_308 : decode cX6_served 308 = .ok (.ireturn, 1) := by decide +kernel
theorem dX6_served_309 : decode cX6_served 309 = .ok (.aload_n 0, 1) := by decide +kernel
theorem dX6_served_310 : decode cX6_served 310 = .ok (.iload_n 1, 1) := by decide +kernel
theorem dX6_served_311 : decode cX6_served 311 = .ok (.invokevirtual 144, 3) := by decide +kernel
theorem dX6_served_314 : decode cX6_served 314 = .ok (.ireturn, 1) := by decide +kernel
theorem dX6_served_315 : decode cX6_served 315 = .ok (.aload_n 0, 1) := by decide +kernel
theorem dX6_served_316 : decode cX6_served 316 = .ok (.iload_n 1, 1) := by decide +kernel
theorem dX6_served_317 : decode cX6_served 317 = .ok (.invokevirtual 147, 3) := by decide +kernel
theorem dX6_served_320 : decode cX6_served 320 = .ok (.ireturn, 1) := by decide +kernel
theorem dX6_served_321 : decode cX6_served 321 = .ok (.aload_n 0, 1) := by decide +kernel
theorem dX6_served_322 : decode cX6_served 322 = .ok (.iload_n 1, 1) := by decide +kernel
theorem dX6_served_323 : decode cX6_served 323 = .ok (.invokevirtual 150, 3) := by decide +kernel
theorem dX6_served_326 : decode cX6_served 326 = .ok (.ireturn, 1) := by decide +kernel
theorem dX6_served_327 : decode cX6_served 327 = .ok (.aload_n 0, 1) := by decide +kernel
theorem dX6_served_328 : decode cX6_served 328 = .ok (.iload_n 1, 1) := by decide +kernel
theorem dX6_served_329 : decode cX6_served 329 = .ok (.iload_n 2, 1) := by decide +kernel
theorem dX6_served_330 : decode cX6_served 330 = .ok (.invokevirtual 153, 3) := by decide +kernel
theorem dX6_served_333 : decode cX6_served 333 = .ok (.ireturn, 1) := by decide +kernel
theorem dX6_served_334 : decode cX6_served 334 = .ok (.aload_n 0, 1) := by decide +kernel
theorem dX6_served_335 : decode cX6_served 335 = .ok (.getfield 7, 3) := by decide +kernel
theorem dX6_served_338 : decode cX6_served 338 = .ok (.iconst 3, 1) := by decide +kernel
theorem dX6_served_339 : decode cX6_served 339 = .ok (.if_icmp .eq 6, 3) := by decide +kernel
theorem dX6_served_342 : decode cX6_served 342 = .ok (.bipush 127, 2) := by decide +kernel
theorem dX6_served_344 : decode cX6_served 344 = .ok (.ireturn, 1) := by decide +kernel
theorem dX6_served_345 : decode cX6_served 345 = .ok (.iload_n 1, 1) := by decide +kernel
theorem dX6_served_346 : decode cX6_served 346 = .ok (.iconst 2, 1) := by decide +kernel
theorem dX6_served_347 : decode cX6_served 347 = .ok (.if_icmp .eq 6, 3) := by decide +kernel
theorem dX6_served_350 : decode cX6_served 350 = .ok (.bipush 19, 2) := by decide +kernel
theorem dX6_served_352 : decode cX6_served 352 = .ok (.ireturn, 1) := by decide +kernel
theorem dX6_served_353 : decode cX6_served 353 = .ok (.aload_n 0, 1) := by decide +kernel
theorem dX6_served_354 : decode cX6_served 354 = .ok (.getfield 135, 3) := by decide +kernel
theorem dX6_served_357 : decode cX6_served 357 = .ok (.ifCond .eq 6, 3) := by decide +kernel
theorem dX6_served_360 : decode cX6_served 360 = .ok (.bipush 112, 2) := by decide +kernel
theorem dX6_served_362 : decode cX6_served 362 = .ok (.ireturn, 1) := by decide +kernel
theorem dX6_served_363 : decode cX6_served 363 = .ok (.aload_n 0, 1) := by decide +kernel
theorem dX6_served_364 : decode cX6_served 364 = .ok (.iconst 1, 1) := by decide +kernel
theorem dX6_served_365 : decode cX6_served 365 = .ok (.invokevirtual 156, 3) := by decide +kernel
theorem dX6_served_368 : decode cX6_served 368 = .ok (.i2l, 1) := by decide +kernel
theorem dX6_served_369 : decode cX6_served 369 = .ok (.lconst 1, 1) := by decide +kernel
theorem dX6_served_370 : decode cX6_served 370 = .ok (.ldc2_w 159, 3) := by decide +kernel
theorem dX6_served_373 : decode cX6_served 373 = .ok (.invokestatic 91, 3) := by decide +kernel
theorem dX6_served_376 : decode cX6_served 376 = .ok (.ifCond .ne 6, 3) := by decide +kernel
theorem dX6_served_379 : decode cX6_served 379 = .ok (.bipush 49, 2) := by decide +kernel
theorem dX6_served_381 : decode cX6_served 381 = .ok (.ireturn, 1) := by decide +kernel
theorem dX6_served_382 : decode cX6_served 382 = .ok (.aload_n 0, 1) := by decide +kernel
theorem dX6_served_383 : decode cX6_served 383 = .ok (.iconst 1, 1) := by decide +kernel
theorem dX6_served_384 : decode cX6_served 384 = .ok (.putfield 135, 3) := by decide +kernel
theorem dX6_served_387 : decode cX6_served 387 = .ok (.aload_n 0, 1) := by decide +kernel
theorem dX6_served_388 : decode cX6_served 388 = .ok (.aload_n 0, 1) := by decide +kernel
theorem dX6_served_389 : decode cX6_served 389 = .ok (.iconst 1, 1) := by decide +kernel
theorem dX6_served_390 : decode cX6_served 390 = .ok (.invokevirtual 156, 3) := by decide +kernel
theorem dX6_served_393 : decode cX6_served 393 = .ok (.putfield 161, 3) := by decide +kernel
theorem dX6_served_396 : decode cX6_served 396 = .ok (.aload_n 0, 1) := by decide +kernel
theorem dX6_served_397 : decode cX6_served 397 = .ok (.iconst 0, 1) := by decide +kernel
theorem dX6_served_398 : decode cX6_served 398 = .ok (.putfield 164, 3) := by decide +kernel
theorem dX6_served_401 : decode cX6_served 401 = .ok (.aload_n 0, 1) := by decide +kernel
theorem dX6_served_402 : decode cX6_served 402 = .ok (.iconst 0, 1) := by decide +kernel
theorem dX6_served_403 : decode cX6_served 403 = .ok (.putfield 167, 3) := by decide +kernel
theorem dX6_served_406 : decode cX6_served 406 = .ok (.aload_n 0, 1) := by decide +kernel
theorem dX6_served_407 : decode cX6_served 407 = .ok (.iconst 0, 1) := by decide +kernel
theorem dX6_served_408 : decode cX6_served 408 = .ok (.putfield 170, 3) := by decide +kernel
theorem dX6_served_411 : decode cX6_served 411 = .ok (.aload_n 0, 1) := by decide +kernel
theorem dX6_served_412 : decode cX6_served 412 = .ok (.bipush 116, 2) := by decide +kernel
theorem dX6_served_414 : decode cX6_served 414 = .ok (.invokevirtual 131, 3) := by decide +kernel
theorem dX6_served_417 : decode cX6_served 417 = .ok (.aload_n 0, 1) := by decide +kernel
theorem dX6_served_418 : decode cX6_served 418 = .ok (.bipush 8, 2) := by decide +kernel
theorem dX6_served_420 : decode cX6_served 420 = .ok (.invokevirtual 131, 3) := by decide +kernel
theorem dX6_served_423 : decode cX6_served 423 = .ok (.iconst 0, 1) := by decide +kernel
theorem dX6_served_424 : decode cX6_served 424 = .ok (.ireturn, 1) := by decide +kernel
theorem dX6_served_425 : decode cX6_served 425 = .ok (.aload_n 0, 1) := by decide +kernel
theorem dX6_served_426 : decode cX6_served 426 = .ok (.iload_n 1, 1) := by decide +kernel
theorem dX6_served_427 : decode cX6_served 427 = .ok (.invokevirtual 173, 3) := by decide +kernel
theorem dX6_served_430 : decode cX6_served 430 = .ok (.ireturn, 1) := by decide +kernel
theorem dX6_served_431 : decode cX6_served 431 = .ok (.aload_n 0, 1) := by decide +kernel
theorem dX6_served_432 : decode cX6_served 432 = .ok (.getfield 7, 3) := by decide +kernel
theorem dX6_served_435 : decode cX6_served 435 = .ok (.iconst 3, 1) := by decide +kernel
theorem dX6_served_436 : decode cX6_served 436 = .ok (.if_icmp .eq 6, 3) := by decide +kernel
theorem dX6_served_439 : decode cX6_served 439 = .ok (.bipush 127, 2) := by decide +kernel
theorem dX6_served_441 : decode cX6_served 441 = .ok (.ireturn, 1) := by decide +kernel
theorem dX6_served_442 : decode cX6_served 442 = .ok (.iload_n 1, 1) := by decide +kernel
theorem dX6_served_443 : decode cX6_served 443 = .ok (.ifCond .eq 6, 3) := by decide +kernel
theorem dX6_served_446 : decode cX6_served 446 = .ok (.bipush 19, 2) := by decide +kernel
theorem dX6_served_448 : decode cX6_served 448 = .ok (.ireturn, 1) := by decide +kernel
theorem dX6_served_449 : decode cX6_served 449 = .ok (.aload_n 0, 1) := by decide +kernel
theorem dX6_served_450 : decode cX6_served 450 = .ok (.getfield 135, 3) := by decide +kernel
theorem dX6_served_453 : decode cX6_served 453 = .ok (.ifCond .eq 14, 3) := by decide +kernel
theorem dX6_served_456 : decode cX6_served 456 = .ok (.aload_n 0, 1) := by decide +kernel
theorem dX6_served_457 : decode cX6_served 457 = .ok (.getfield 164, 3) := by decide +kernel
theorem dX6_served_460 : decode cX6_served 460 = .ok (.aload_n 0, 1) := by decide +kernel
theorem dX6_served_461 : decode cX6_served 461 = .ok (.getfield 161, 3) := by decide +kernel
theorem dX6_served_464 : decode cX6_served 464 = .ok (.if_icmp .ge 6, 3) := by decide +kernel
theorem dX6_served_467 : decode cX6_served 467 = .ok (.bipush 36, 2) := by decide +kernel
theorem dX6_served_469 : decode cX6_served 469 = .ok (.ireturn, 1) := by decide +kernel
theorem dX6_served_470 : decode cX6_served 470 = .ok (.aload_n 0, 1) := by decide +kernel
theorem dX6_served_471 : decode cX6_served 471 = .ok (.iconst 0, 1) := by decide +kernel
theorem dX6_served_472 : decode cX6_served 472 = .ok (.putfield 135, 3) := by decide +kernel
theorem dX6_served_475 : decode cX6_served 475 = .ok (.aload_n 0, 1) := by decide +kernel
theorem dX6_served_476 : decode cX6_served 476 = .ok (.bipush 119, 2) := by decide +kernel
theorem dX6_served_478 : decode cX6_served 478 = .ok (.aload_n 0, 1) := by decide +kernel
theorem dX6_served_479 : decode cX6_served 479 = .ok (.getfield 167, 3) := by decide +kernel
theorem dX6_served_482 : decode cX6_served 482 = .ok (.bipush 8, 2) := by decide +kernel
theorem dX6_served_484 : decode cX6_served 484 = .ok (.ishr, 1) := by decide +kernel
theorem dX6_served_485 : decode cX6_served 485 = .ok (.aload_n 0, 1) := by decide +kernel
theorem dX6_served_486 : decode cX6_served 486 = .ok (.getfield 167, 3) := by decide +kernel
theorem dX6_served_489 : decode cX6_served 489 = .ok (.invokevirtual 176, 3) := by decide +kernel
theorem dX6_served_492 : decode cX6_served 492 = .ok (.iconst 0, 1) := by decide +kernel
theorem dX6_served_493 : decode cX6_served 493 = .ok (.ireturn, 1) := by decide +kernel
theorem dX6_served_494 : decode cX6_served 494 = .ok (.bipush 17, 2) := by decide +kernel
theorem dX6_served_496 : decode cX6_served 496 = .ok (.ireturn, 1) := by decide +kernel
theorem dX6_read_0 : decode cX6_read 0 = .ok (.iload_n 1, 1) := by decide +kernel
theorem dX6_read_1 : decode cX6_read 1 = .ok (.iconst 2, 1) := by decide +kernel
theorem dX6_read_2 : decode cX6_read 2 = .ok (.if_icmp .lt 16, 3) := by decide +kernel
theorem dX6_read_5 : decode cX6_read 5 = .ok (.iload_n 1, 1) := by decide +kernel
theorem dX6_read_6 : decode cX6_read 6 = .ok (.bipush 8, 2) := by decide +kernel
theorem dX6_read_8 : decode cX6_read 8 = .ok (.if_icmp .gt 10, 3) := by decide +kernel
theorem dX6_read_11 : decode cX6_read 11 = .ok (.iload_n 1, 1) := by decide +kernel
theorem dX6_read_12 : decode cX6_read 12 = .ok (.iconst 2, 1) := by decide +kernel
theorem dX6_read_13 : decode cX6_read 13 = .ok (.irem, 1) := by decide +kernel
theorem dX6_read_14 : decode cX6_read 14 = .ok (.iconst 1, 1) := by decide +kernel
theorem dX6_read_15 : decode cX6_read 15 = .ok (.if_icmp .ne 6, 3) := by decide +kernel
theorem dX6_read_18 : decode cX6_read 18 = .ok (.bipush 19, 2) := by decide +kernel
theorem dX6_read_20 : decode cX6_read 20 = .ok (.ireturn, 1) := by decide +kernel
theorem dX6_read_21 : decode cX6_read 21 = .ok (.iconst 0, 1) := by decide +kernel
theorem dX6_read_22 : decode cX6_read 22 = .ok (.istore_n 2, 1) := by decide +kernel
theorem dX6_read_23 : decode cX6_read 23 = .ok (.iconst 1, 1) := by decide +kernel
theorem dX6_read_24 : decode cX6_read 24 = .ok (.istore_n 3, 1) := by decide +kernel
theorem dX6_read_25 : decode cX6_read 25 = .ok (.iconst 1, 1) := by decide +kernel
theorem dX6_read_26 : decode cX6_read 26 = .ok (.istore 4, 2) := by decide +kernel
theorem dX6_read_28 : decode cX6_read 28 = .ok (.iload 4, 2) := by decide +kernel
theorem dX6_read_30 : decode cX6_read 30 = .ok (.aload_n 0, 1) := by decide +kernel
theorem dX6_read_31 : decode cX6_read 31 = .ok (.getfield 138, 3) := by decide +kernel
theorem dX6_read_34 : decode cX6_read 34 = .ok (.if_icmp .ge 59, 3) := by decide +kernel
theorem dX6_read_37 : decode cX6_read 37 = .ok (.aload_n 0, 1) := by decide +kernel
theorem dX6_read_38 : decode cX6_read 38 = .ok (.aload_n 0, 1) := by decide +kernel
theorem dX6_read_39 : decode cX6_read 39 = .ok (.iload 4, 2) := by decide +kernel
theorem dX6_read_41 : decode cX6_read 41 = .ok (.invokevirtual 156, 3) := by decide +kernel
theorem dX6_read_44 : decode cX6_read 44 = .ok (.invokevirtual 99, 3) := by decide +kernel
theorem dX6_read_47 : decode cX6_read 47 = .ok (.istore 5, 2) := by decide +kernel
theorem dX6_read_49 : decode cX6_read 49 = .ok (.aload_n 0, 1) := by decide +kernel
theorem dX6_read_50 : decode cX6_read 50 = .ok (.iload 5, 2) := by decide +kernel
theorem dX6_read_52 : decode cX6_read 52 = .ok (.invokevirtual 180, 3) := by decide +kernel
theorem dX6_read_55 : decode cX6_read 55 = .ok (.ifCond .ne 6, 3) := by decide +kernel
theorem dX6_read_58 : decode cX6_read 58 = .ok (.goto 29, 3) := by decide +kernel
theorem dX6_read_61 : decode cX6_read 61 = .ok (.iconst 1, 1) := by decide +kernel
theorem dX6_read_62 : decode cX6_read 62 = .ok (.istore_n 2, 1) := by decide +kernel
theorem dX6_read_63 : decode cX6_read 63 = .ok (.iload_n 3, 1) := by decide +kernel
theorem dX6_read_64 : decode cX6_read 64 = .ok (.ifCond .eq 21, 3) := by decide +kernel
theorem dX6_read_67 : decode cX6_read 67 = .ok (.aload_n 0, 1) := by decide +kernel
theorem dX6_read_68 : decode cX6_read 68 = .ok (.getfield 30, 3) := by decide +kernel
theorem dX6_read_71 : decode cX6_read 71 = .ok (.iload 5, 2) := by decide +kernel
theorem dX6_read_73 : decode cX6_read 73 = .ok (.iaload, 1) := by decide +kernel
theorem dX6_read_74 : decode cX6_read 74 = .ok (.aload_n 0, 1) := by decide +kernel
theorem dX6_read_75 : decode cX6_read 75 = .ok (.getfield 112, 3) := by decide +kernel
theorem dX6_read_78 : decode cX6_read 78 = .ok (.if_icmp .gt 7, 3) := by decide +kernel
theorem dX6_read_81 : decode cX6_read 81 = .ok (.iconst 1, 1) := by decide +kernel
theorem dX6_read_82 : decode cX6_read 82 = .ok (.goto 4, 3) := by decide +kernel
theorem dX6_read_85 : decode cX6_read 85 = .ok (.iconst 0, 1) := by decide +kernel
theorem dX6_read_86 : decode cX6_read 86 = .ok (.istore_n 3, 1) := by decide +kernel
theorem dX6_read_87 : decode cX6_read 87 = .ok (.iinc 4 2, 3) := by decide +kernel
theorem dX6_read_90 : decode cX6_read 90 = .ok (.goto (-62), 3) := by decide +kernel
theorem dX6_read_93 : decode cX6_read 93 = .ok (.iload_n 2, 1) := by decide +kernel
theorem dX6_read_94 : decode cX6_read 94 = .ok (.ifCond .ne 6, 3) := by decide +kernel
theorem dX6_read_97 : decode cX6_read 97 = .ok (.bipush 49, 2) := by decide +kernel
theorem dX6_read_99 : decode cX6_read 99 = .ok (.ireturn, 1) := by decide +kernel
theorem dX6_read_100 : decode cX6_read 100 = .ok (.iload_n 3, 1) := by decide +kernel
theorem dX6_read_101 : decode cX6_read 101 = .ok (.ifCond .ne 6, 3) := by decide +kernel
theorem dX6_read_104 : decode cX6_read 104 = .ok (.bipush 51, 2) := by decide +kernel
theorem dX6_read_106 : decode cX6_read 106 = .ok (.ireturn, 1) := by decide +kernel
theorem dX6_read_107 : decode cX6_read 107 = .ok (.aload_n 0, 1) := by decide +kernel
theorem dX6_read_108 : decode cX6_read 108 = .ok (.bipush 98, 2) := by decide +kernel
theorem dX6_read_110 : decode cX6_read 110 = .ok (.invokevirtual 131, 3) := by decide +kernel
theorem dX6_read_113 : decode cX6_read 113 = .ok (.iconst 1, 1) := by decide +kernel
theorem dX6_read_114 : decode cX6_read 114 = .ok (.istore 4, 2) := by decide +kernel
theorem dX6_read_116 : decode cX6_read 116 = .ok (.iload 4, 2) := by decide +kernel
theorem dX6_read_118 : decode cX6_read 118 = .ok (.aload_n 0, 1) := by decide +kernel
theorem dX6_read_119 : decode cX6_read 119 = .ok (.getfield 138, 3) := by decide +kernel
theorem dX6_read_122 : decode cX6_read 122 = .ok (.if_icmp .ge 90, 3) := by decide +kernel
theorem dX6_read_125 : decode cX6_read 125 = .ok (.aload_n 0, 1) := by decide +kernel
theorem dX6_read_126 : decode cX6_read 126 = .ok (.aload_n 0, 1) := by decide +kernel
theorem dX6_read_127 : decode cX6_read 127 = .ok (.iload 4, 2) := by decide +kernel
theorem dX6_read_129 : decode cX6_read 129 = .ok (.invokevirtual 156, 3) := by decide +kernel
theorem dX6_read_132 : decode cX6_read 132 = .ok (.invokevirtual 99, 3) := by decide +kernel
theorem dX6_read_135 : decode cX6_read 135 = .ok (.istore 5, 2) := by decide +kernel
theorem dX6_read_137 : decode cX6_read 137 = .ok (.aload_n 0, 1) := by decide +kernel
theorem dX6_read_138 : decode cX6_read 138 = .ok (.iload 5, 2) := by decide +kernel
theorem dX6_read_140 : decode cX6_read 140 = .ok (.invokevirtual 180, 3) := by decide +kernel
theorem dX6_read_143 : decode cX6_read 143 = .ok (.ifCond .ne 6, 3) := by decide +kernel
theorem dX6_read_146 : decode cX6_read 146 = .ok (.goto 60, 3) := by decide +kernel
theorem dX6_read_149 : decode cX6_read 149 = .ok (.aload_n 0, 1) := by decide +kernel
theorem dX6_read_150 : decode cX6_read 150 = .ok (.aload_n 0, 1) := by decide +kernel
theorem dX6_read_151 : decode cX6_read 151 = .ok (.getfield 74, 3) := by decide +kernel
theorem dX6_read_154 : decode cX6_read 154 = .ok (.iload 4, 2) := by decide +kernel
theorem dX6_read_156 : decode cX6_read 156 = .ok (.iaload, 1) := by decide +kernel
theorem dX6_read_157 : decode cX6_read 157 = .ok (.invokevirtual 131, 3) := by decide +kernel
theorem dX6_read_160 : decode cX6_read 160 = .ok (.aload_n 0, 1) := by decide +kernel
theorem dX6_read_161 : decode cX6_read 161 = .ok (.aload_n 0, 1) := by decide +kernel
theorem dX6_read_162 : decode cX6_read 162 = .ok (.getfield 74, 3) := by decide +kernel
theorem dX6_read_165 : decode cX6_read 165 = .ok (.iload 4, 2) := by decide +kernel
theorem dX6_read_167 : decode cX6_read 167 = .ok (.iconst 1, 1) := by decide +kernel
theorem dX6_read_168 : decode cX6_read 168 = .ok (.iadd, 1) := by decide +kernel
theorem dX6_read_169 : decode cX6_read 169 = .ok (.iaload, 1) := by decide +kernel
theorem dX6_read_170 : decode cX6_read 170 = .ok (.invokevirtual 131, 3) := by decide +kernel
theorem dX6_read_173 : decode cX6_read 173 = .ok (.iconst 0, 1) := by decide +kernel
theorem dX6_read_174 : decode cX6_read 174 = .ok (.istore 6, 2) := by decide +kernel
theorem dX6_read_176 : decode cX6_read 176 = .ok (.iload 6, 2) := by decide +kernel
theorem dX6_read_178 : decode cX6_read 178 = .ok (.aload_n 0, 1) := by decide +kernel
theorem dX6_read_179 : decode cX6_read 179 = .ok (.getfield 24, 3) := by decide +kernel
theorem dX6_read_182 : decode cX6_read 182 = .ok (.iload 5, 2) := by decide +kernel
theorem dX6_read_184 : decode cX6_read 184 = .ok (.iaload, 1) := by decide +kernel
theorem dX6_read_185 : decode cX6_read 185 = .ok (.if_icmp .ge 21, 3) := by decide +kernel
theorem dX6_read_188 : decode cX6_read 188 = .ok (.aload_n 0, 1) := by decide +kernel
theorem dX6_read_189 : decode cX6_read 189 = .ok (.aload_n 0, 1) := by decide +kernel
theorem dX6_read_190 : decode cX6_read 190 = .ok (.iload 5, 2) := by decide +kernel
theorem dX6_read_192 : decode cX6_read 192 = .ok (.iload 6, 2) := by decide +kernel
theorem dX6_read_194 : decode cX6_read 194 = .ok (.invokevirtual 120, 3) := by decide +kernel
theorem dX6_read_197 : decode cX6_read 197 = .ok (.invokevirtual 131, 3) := by decide +kernel
theorem dX6_read_200 : decode cX6_read 200 = .ok (.iinc 6 1, 3) := by decide +kernel
theorem dX6_read_203 : decode cX6_read 203 = .ok (.goto (-27), 3) := by decide +kernel
theorem dX6_read_206 : decode cX6_read 206 = .ok (.iinc 4 2, 3) := by decide +kernel
theorem dX6_read_209 : decode cX6_read 209 = .ok (.goto (-93), 3) := by decide +kernel
theorem dX6_read_212 : decode cX6_read 212 = .ok (.iconst 0, 1) := by decide +kernel
theorem dX6_read_213 : decode cX6_read 213 = .ok (.ireturn, 1) := by decide +kernel
theorem dX6_write_0 : decode cX6_write 0 = .ok (.iload_n 1, 1) := by decide +kernel
theorem dX6_write_1 : decode cX6_write 1 = .ok (.iconst 3, 1) := by decide +kernel
theorem dX6_write_2 : decode cX6_write 2 = .ok (.if_icmp .ge 6, 3) := by decide +kernel
theorem dX6_write_5 : decode cX6_write 5 = .ok (.bipush 19, 2) := by decide +kernel
theorem dX6_write_7 : decode cX6_write 7 = .ok (.ireturn, 1) := by decide +kernel
theorem dX6_write_8 : decode cX6_write 8 = .ok (.aload_n 0, 1) := by decide +kernel
theorem dX6_write_9 : decode cX6_write 9 = .ok (.aload_n 0, 1) := by decide +kernel
theorem dX6_write_10 : decode cX6_write 10 = .ok (.iconst 1, 1) := by decide +kernel
theorem dX6_write_11 : decode cX6_write 11 = .ok (.invokevirtual 156, 3) := by decide +kernel
theorem dX6_write_14 : decode cX6_write 14 = .ok (.invokevirtual 99, 3) := by decide +kernel
theorem dX6_write_17 : decode cX6_write 17 = .ok (.istore_n 2, 1) := by decide +kernel
theorem dX6_write_18 : decode cX6_write 18 = .ok (.aload_n 0, 1) := by decide +kernel
theorem dX6_write_19 : decode cX6_write 19 = .ok (.iload_n 2, 1) := by decide +kernel
theorem dX6_write_20 : decode cX6_write 20 = .ok (.invokevirtual 180, 3) := by decide +kernel
theorem dX6_write_23 : decode cX6_write 23 = .ok (.ifCond .eq 21, 3) := by decide +kernel
theorem dX6_write_26 : decode cX6_write 26 = .ok (.aload_n 0, 1) := by decide +kernel
theorem dX6_write_27 : decode cX6_write 27 = .ok (.getfield 47, 3) := by decide +kernel
theorem dX6_write_30 : decode cX6_write 30 = .ok (.iload_n 2, 1) := by decide +kernel
theorem dX6_write_31 : decode cX6_write 31 = .ok (.baload, 1) := by decide +kernel
theorem dX6_write_32 : decode cX6_write 32 = .ok (.ifCond .ne 12, 3) := by decide +kernel
theorem dX6_write_35 : decode cX6_write 35 = .ok (.aload_n 0, 1) := by decide +kernel
theorem dX6_write_36 : decode cX6_write 36 = .ok (.getfield 44, 3) := by decide +kernel
theorem dX6_write_39 : decode cX6_write 39 = .ok (.iload_n 2, 1) := by decide +kernel
theorem dX6_write_40 : decode cX6_write 40 = .ok (.baload, 1) := by decide +kernel
theorem dX6_write_41 : decode cX6_write 41 = .ok (.ifCond .eq 6, 3) := by decide +kernel
theorem dX6_write_44 : decode cX6_write 44 = .ok (.bipush 49, 2) := by decide +kernel
theorem dX6_write_46 : decode cX6_write 46 = .ok (.ireturn, 1) := by decide +kernel
theorem dX6_write_47 : decode cX6_write 47 = .ok (.iload_n 1, 1) := by decide +kernel
theorem dX6_write_48 : decode cX6_write 48 = .ok (.iconst 2, 1) := by decide +kernel
theorem dX6_write_49 : decode cX6_write 49 = .ok (.isub, 1) := by decide +kernel
theorem dX6_write_50 : decode cX6_write 50 = .ok (.aload_n 0, 1) := by decide +kernel
theorem dX6_write_51 : decode cX6_write 51 = .ok (.getfield 24, 3) := by decide +kernel
theorem dX6_write_54 : decode cX6_write 54 = .ok (.iload_n 2, 1) := by decide +kernel
theorem dX6_write_55 : decode cX6_write 55 = .ok (.iaload, 1) := by decide +kernel
theorem dX6_write_56 : decode cX6_write 56 = .ok (.if_icmp .eq 6, 3) := by decide +kernel
theorem dX6_write_59 : decode cX6_write 59 = .ok (.bipush 19, 2) := by decide +kernel
theorem dX6_write_61 : decode cX6_write 61 = .ok (.ireturn, 1) := by decide +kernel
theorem dX6_write_62 : decode cX6_write 62 = .ok (.aload_n 0, 1) := by decide +kernel
theorem dX6_write_63 : decode cX6_write 63 = .ok (.getfield 30, 3) := by decide +kernel
theorem dX6_write_66 : decode cX6_write 66 = .ok (.iload_n 2, 1) := by decide +kernel
theorem dX6_write_67 : decode cX6_write 67 = .ok (.iaload, 1) := by decide +kernel
theorem dX6_write_68 : decode cX6_write 68 = .ok (.aload_n 0, 1) := by decide +kernel
theorem dX6_write_69 : decode cX6_write 69 = .ok (.getfield 112, 3) := by decide +kernel
theorem dX6_write_72 : decode cX6_write 72 = .ok (.if_icmp .le 6, 3) := by decide +kernel
theorem dX6_write_75 : decode cX6_write 75 = .ok (.bipush 51, 2) := by decide +kernel
theorem dX6_write_77 : decode cX6_write 77 = .ok (.ireturn, 1) := by decide +kernel
theorem dX6_write_78 : decode cX6_write 78 = .ok (.aload_n 0, 1) := by decide +kernel
theorem dX6_write_79 : decode cX6_write 79 = .ok (.getfield 13, 3) := by decide +kernel
theorem dX6_write_82 : decode cX6_write 82 = .ok (.ifCond .ne 6, 3) := by decide +kernel
theorem dX6_write_85 : decode cX6_write 85 = .ok (.bipush 34, 2) := by decide +kernel
theorem dX6_write_87 : decode cX6_write 87 = .ok (.ireturn, 1) := by decide +kernel
theorem dX6_write_88 : decode cX6_write 88 = .ok (.aload_n 0, 1) := by decide +kernel
theorem dX6_write_89 : decode cX6_write 89 = .ok (.getfield 33, 3) := by decide +kernel
theorem dX6_write_92 : decode cX6_write 92 = .ok (.iload_n 2, 1) := by decide +kernel
theorem dX6_write_93 : decode cX6_write 93 = .ok (.aload_n 0, 1) := by decide +kernel
theorem dX6_write_94 : decode cX6_write 94 = .ok (.iconst 3, 1) := by decide +kernel
theorem dX6_write_95 : decode cX6_write 95 = .ok (.aload_n 0, 1) := by decide +kernel
theorem dX6_write_96 : decode cX6_write 96 = .ok (.getfield 24, 3) := by decide +kernel
theorem dX6_write_99 : decode cX6_write 99 = .ok (.iload_n 2, 1) := by decide +kernel
theorem dX6_write_100 : decode cX6_write 100 = .ok (.iaload, 1) := by decide +kernel
theorem dX6_write_101 : decode cX6_write 101 = .ok (.invokevirtual 184, 3) := by decide +kernel
theorem dX6_write_104 : decode cX6_write 104 = .ok (.lastore, 1) := by decide +kernel
theorem dX6_write_105 : decode cX6_write 105 = .ok (.aload_n 0, 1) := by decide +kernel
theorem dX6_write_106 : decode cX6_write 106 = .ok (.bipush 110, 2) := by decide +kernel
theorem dX6_write_108 : decode cX6_write 108 = .ok (.aload_n 0, 1) := by decide +kernel
theorem dX6_write_109 : decode cX6_write 109 = .ok (.getfield 74, 3) := by decide +kernel
theorem dX6_write_112 : decode cX6_write 112 = .ok (.iconst 1, 1) := by decide +kernel
theorem dX6_write_113 : decode cX6_write 113 = .ok (.iaload, 1) := by decide +kernel
theorem dX6_write_114 : decode cX6_write 114 = .ok (.aload_n 0, 1) := by decide +kernel
theorem dX6_write_115 : decode cX6_write 115 = .ok (.getfield 74, 3) := by decide +kernel
theorem dX6_write_118 : decode cX6_write 118 = .ok (.iconst 2, 1) := by decide +kernel
theorem dX6_write_119 : decode cX6_write 119 = .ok (.iaload, 1) := by decide +kernel
theorem dX6_write_120 : decode cX6_write 120 = .ok (.invokevirtual 176, 3) := by decide +kernel
theorem dX6_write_123 : decode cX6_write 123 = .ok (.iconst 0, 1) := by decide +kernel
theorem dX6_write_124 : decode cX6_write 124 = .ok (.ireturn, 1) := by decide +kernel
theorem dX6_controls_0 : decode cX6_controls 0 = .ok (.aload_n 0, 1) := by decide +kernel
theorem dX6_controls_1 : decode cX6_controls 1 = .ok (.getfield 7, 3) := by decide +kernel
theorem dX6_controls_4 : decode cX6_controls 4 = .ok (.iconst 1, 1) := by decide +kernel
theorem dX6_controls_5 : decode cX6_controls 5 = .ok (.if_icmp .ne 6, 3) := by decide +kernel
theorem dX6_controls_8 : decode cX6_controls 8 = .ok (.bipush 127, 2) := by decide +kernel
theorem dX6_controls_10 : decode cX6_controls 10 = .ok (.ireturn, 1) := by decide +kernel
theorem dX6_controls_11 : decode cX6_controls 11 = .ok (.iload_n 1, 1) := by decide +kernel
theorem dX6_controls_12 : decode cX6_controls 12 = .ok (.iconst 3, 1) := by decide +kernel
theorem dX6_controls_13 : decode cX6_controls 13 = .ok (.if_icmp .ge 6, 3) := by decide +kernel
theorem dX6_controls_16 : decode cX6_controls 16 = .ok (.bipush 19, 2) := by decide +kernel
theorem dX6_controls_18 : decode cX6_controls 18 = .ok (.ireturn, 1) := by decide +kernel
theorem dX6_controls_19 : decode cX6_controls 19 = .ok (.aload_n 0, 1) := by decide +kernel
theorem dX6_controls_20 : decode cX6_controls 20 = .ok (.aload_n 0, 1) := by decide +kernel
theorem dX6_controls_21 : decode cX6_controls 21 = .ok (.iconst 1, 1) := by decide +kernel
theorem dX6_controls_22 : decode cX6_controls 22 = .ok (.invokevirtual 156, 3) := by decide +kernel
theorem dX6_controls_25 : decode cX6_controls 25 = .ok (.invokevirtual 99, 3) := by decide +kernel
theorem dX6_controls_28 : decode cX6_controls 28 = .ok (.istore_n 2, 1) := by decide +kernel
theorem dX6_controls_29 : decode cX6_controls 29 = .ok (.aload_n 0, 1) := by decide +kernel
theorem dX6_controls_30 : decode cX6_controls 30 = .ok (.iload_n 2, 1) := by decide +kernel
theorem dX6_controls_31 : decode cX6_controls 31 = .ok (.invokevirtual 180, 3) := by decide +kernel
theorem dX6_controls_34 : decode cX6_controls 34 = .ok (.ifCond .eq 12, 3) := by decide +kernel
theorem dX6_controls_37 : decode cX6_controls 37 = .ok (.aload_n 0, 1) := by decide +kernel
theorem dX6_controls_38 : decode cX6_controls 38 = .ok (.getfield 47, 3) := by decide +kernel
theorem dX6_controls_41 : decode cX6_controls 41 = .ok (.iload_n 2, 1) := by decide +kernel
theorem dX6_controls_42 : decode cX6_controls 42 = .ok (.baload, 1) := by decide +kernel
theorem dX6_controls_43 : decode cX6_controls 43 = .ok (.ifCond .eq 6, 3) := by decide +kernel
theorem dX6_controls_46 : decode cX6_controls 46 = .ok (.bipush 49, 2) := by decide +kernel
theorem dX6_controls_48 : decode cX6_controls 48 = .ok (.ireturn, 1) := by decide +kernel
theorem dX6_controls_49 : decode cX6_controls 49 = .ok (.aload_n 0, 1) := by decide +kernel
theorem dX6_controls_50 : decode cX6_controls 50 = .ok (.getfield 30, 3) := by decide +kernel
theorem dX6_controls_53 : decode cX6_controls 53 = .ok (.iload_n 2, 1) := by decide +kernel
theorem dX6_controls_54 : decode cX6_controls 54 = .ok (.iaload, 1) := by decide +kernel
theorem dX6_controls_55 : decode cX6_controls 55 = .ok (.aload_n 0, 1) := by decide +kernel
theorem dX6_controls_56 : decode cX6_controls 56 = .ok (.getfield 112, 3) := by decide +kernel
theorem dX6_controls_59 : decode cX6_controls 59 = .ok (.if_icmp .le 6, 3) := by decide +kernel
theorem dX6_controls_62 : decode cX6_controls 62 = .ok (.bipush 51, 2) := by decide +kernel
theorem dX6_controls_64 : decode cX6_controls 64 = .ok (.ireturn, 1) := by decide +kernel
theorem dX6_controls_65 : decode cX6_controls 65 = .ok (.aload_n 0, 1) := by decide +kernel
theorem dX6_controls_66 : decode cX6_controls 66 = .ok (.getfield 74, 3) := by decide +kernel
theorem dX6_controls_69 : decode cX6_controls 69 = .ok (.iconst 3, 1) := by decide +kernel
theorem dX6_controls_70 : decode cX6_controls 70 = .ok (.iaload, 1) := by decide +kernel
theorem dX6_controls_71 : decode cX6_controls 71 = .ok (.istore_n 3, 1) := by decide +kernel
theorem dX6_controls_72 : decode cX6_controls 72 = .ok (.iload_n 3, 1) := by decide +kernel
theorem dX6_controls_73 : decode cX6_controls 73 = .ok (.iconst 3, 1) := by decide +kernel
theorem dX6_controls_74 : decode cX6_controls 74 = .ok (.if_icmp .le 6, 3) := by decide +kernel
theorem dX6_controls_77 : decode cX6_controls 77 = .ok (.bipush 49, 2) := by decide +kernel
theorem dX6_controls_79 : decode cX6_controls 79 = .ok (.ireturn, 1) := by decide +kernel
theorem dX6_controls_80 : decode cX6_controls 80 = .ok (.iload_n 1, 1) := by decide +kernel
theorem dX6_controls_81 : decode cX6_controls 81 = .ok (.iload_n 3, 1) := by decide +kernel
theorem dX6_controls_82 : decode cX6_controls 82 = .ok (.iconst 3, 1) := by decide +kernel
theorem dX6_controls_83 : decode cX6_controls 83 = .ok (.if_icmp .ne 14, 3) := by decide +kernel
theorem dX6_controls_86 : decode cX6_controls 86 = .ok (.iconst 3, 1) := by decide +kernel
theorem dX6_controls_87 : decode cX6_controls 87 = .ok (.aload_n 0, 1) := by decide +kernel
theorem dX6_controls_88 : decode cX6_controls 88 = .ok (.getfield 24, 3) := by decide +kernel
theorem dX6_controls_91 : decode cX6_controls 91 = .ok (.iload_n 2, 1) := by decide +kernel
theorem dX6_controls_92 : decode cX6_controls 92 = .ok (.iaload, 1) := by decide +kernel
theorem dX6_controls_93 : decode cX6_controls 93 = .ok (.iadd, 1) := by decide +kernel
theorem dX6_controls_94 : decode cX6_controls 94 = .ok (.goto 4, 3) := by decide +kernel
theorem dX6_controls_97 : decode cX6_controls 97 = .ok (.iconst 3, 1) := by decide +kernel
theorem dX6_controls_98 : decode cX6_controls 98 = .ok (.if_icmp .eq 6, 3) := by decide +kernel
theorem dX6_controls_101 : decode cX6_controls 101 = .ok (.bipush 19, 2) := by decide +kernel
theorem dX6_controls_103 : decode cX6_controls 103 = .ok (.ireturn, 1) := by decide +kernel
theorem dX6_controls_104 : decode cX6_controls 104 = .ok (.iload_n 3, 1) := by decide +kernel
theorem dX6_controls_105 : decode cX6_controls 105 = .ok (.iconst 1, 1) := by decide +kernel
theorem dX6_controls_106 : decode cX6_controls 106 = .ok (.if_icmp .ne 7, 3) := by decide +kernel
theorem dX6_controls_109 : decode cX6_controls 109 = .ok (.lconst 0, 1) := by decide +kernel
theorem dX6_controls_110 : decode cX6_controls 110 = .ok (.goto 36, 3) := by decide +kernel
theorem dX6_controls_113 : decode cX6_controls 113 = .ok (.iload_n 3, 1) := by decide +kernel
theorem dX6_controls_114 : decode cX6_controls 114 = .ok (.iconst 2, 1) := by decide +kernel
theorem dX6_controls_115 : decode cX6_controls 115 = .ok (.if_icmp .ne 11, 3) := by decide +kernel
theorem dX6_controls_118 : decode cX6_controls 118 = .ok (.aload_n 0, 1) := by decide +kernel
theorem dX6_controls_119 : decode cX6_controls 119 = .ok (.iload_n 2, 1) := by decide +kernel
theorem dX6_controls_120 : decode cX6_controls 120 = .ok (.invokevirtual 124, 3) := by decide +kernel
theorem dX6_controls_123 : decode cX6_controls 123 = .ok (.goto 23, 3) := by decide +kernel
theorem dX6_controls_126 : decode cX6_controls 126 = .ok (.iload_n 3, 1) := by decide +kernel
theorem dX6_controls_127 : decode cX6_controls 127 = .ok (.iconst 3, 1) := by decide +kernel
theorem dX6_controls_128 : decode cX6_controls 128 = .ok (.if_icmp .ne 17, 3) := by decide +kernel
theorem dX6_controls_131 : decode cX6_controls 131 = .ok (.aload_n 0, 1) := by decide +kernel
theorem dX6_controls_132 : decode cX6_controls 132 = .ok (.iconst 4, 1) := by decide +kernel
theorem dX6_controls_133 : decode cX6_controls 133 = .ok (.aload_n 0, 1) := by decide +kernel
theorem dX6_controls_134 : decode cX6_controls 134 = .ok (.getfield 24, 3) := by decide +kernel
theorem dX6_controls_137 : decode cX6_controls 137 = .ok (.iload_n 2, 1) := by decide +kernel
theorem dX6_controls_138 : decode cX6_controls 138 = .ok (.iaload, 1) := by decide +kernel
theorem dX6_controls_139 : decode cX6_controls 139 = .ok (.invokevirtual 184, 3) := by decide +kernel
theorem dX6_controls_142 : decode cX6_controls 142 = .ok (.goto 4, 3) := by decide +kernel
theorem dX6_controls_145 : decode cX6_controls 145 = .ok (.lconst 0, 1) := by decide +kernel
theorem dX6_controls_146 : decode cX6_controls 146 = .ok (.lstore 4, 2) := by decide +kernel
theorem dX6_controls_148 : decode cX6_controls 148 = .ok (.aload_n 0, 1) := by decide +kernel
theorem dX6_controls_149 : decode cX6_controls 149 = .ok (.getfield 37, 3) := by decide +kernel
theorem dX6_controls_152 : decode cX6_controls 152 = .ok (.iload_n 2, 1) := by decide +kernel
theorem dX6_controls_153 : decode cX6_controls 153 = .ok (.iload_n 3, 1) := by decide +kernel
theorem dX6_controls_154 : decode cX6_controls 154 = .ok (.ifCond .le 7, 3) := by decide +kernel
theorem dX6_controls_157 : decode cX6_controls 157 = .ok (.iconst 1, 1) := by decide +kernel
theorem dX6_controls_158 : decode cX6_controls 158 = .ok (.goto 4, 3) := by decide +kernel
theorem dX6_controls_161 : decode cX6_controls 161 = .ok (.iconst 0, 1) := by decide +kernel
theorem dX6_controls_162 : decode cX6_controls 162 = .ok (.bastore, 1) := by decide +kernel
theorem dX6_controls_163 : decode cX6_controls 163 = .ok (.aload_n 0, 1) := by decide +kernel
theorem dX6_controls_164 : decode cX6_controls 164 = .ok (.getfield 41, 3) := by decide +kernel
theorem dX6_controls_167 : decode cX6_controls 167 = .ok (.iload_n 2, 1) := by decide +kernel
theorem dX6_controls_168 : decode cX6_controls 168 = .ok (.lload 4, 2) := by decide +kernel
theorem dX6_controls_170 : decode cX6_controls 170 = .ok (.lastore, 1) := by decide +kernel
theorem dX6_controls_171 : decode cX6_controls 171 = .ok (.aload_n 0, 1) := by decide +kernel
theorem dX6_controls_172 : decode cX6_controls 172 = .ok (.bipush 111, 2) := by decide +kernel
theorem dX6_controls_174 : decode cX6_controls 174 = .ok (.aload_n 0, 1) := by decide +kernel
theorem dX6_controls_175 : decode cX6_controls 175 = .ok (.getfield 74, 3) := by decide +kernel
theorem dX6_controls_178 : decode cX6_controls 178 = .ok (.iconst 1, 1) := by decide +kernel
theorem dX6_controls_179 : decode cX6_controls 179 = .ok (.iaload, 1) := by decide +kernel
theorem dX6_controls_180 : decode cX6_controls 180 = .ok (.aload_n 0, 1) := by decide +kernel
theorem dX6_controls_181 : decode cX6_controls 181 = .ok (.getfield 74, 3) := by decide +kernel
theorem dX6_controls_184 : decode cX6_controls 184 = .ok (.iconst 2, 1) := by decide +kernel
theorem dX6_controls_185 : decode cX6_controls 185 = .ok (.iaload, 1) := by decide +kernel
theorem dX6_controls_186 : decode cX6_controls 186 = .ok (.invokevirtual 176, 3) := by decide +kernel
theorem dX6_controls_189 : decode cX6_controls 189 = .ok (.aload_n 0, 1) := by decide +kernel
theorem dX6_controls_190 : decode cX6_controls 190 = .ok (.iload_n 3, 1) := by decide +kernel
theorem dX6_controls_191 : decode cX6_controls 191 = .ok (.invokevirtual 131, 3) := by decide +kernel
theorem dX6_controls_194 : decode cX6_controls 194 = .ok (.iconst 0, 1) := by decide +kernel
theorem dX6_controls_195 : decode cX6_controls 195 = .ok (.ireturn, 1) := by decide +kernel
theorem dX6_runs_0 : decode cX6_runs 0 = .ok (.aload_n 0, 1) := by decide +kernel
theorem dX6_runs_1 : decode cX6_runs 1 = .ok (.getfield 7, 3) := by decide +kernel
theorem dX6_runs_4 : decode cX6_runs 4 = .ok (.iconst 1, 1) := by decide +kernel
theorem dX6_runs_5 : decode cX6_runs 5 = .ok (.if_icmp .ne 6, 3) := by decide +kernel
theorem dX6_runs_8 : decode cX6_runs 8 = .ok (.bipush 127, 2) := by decide +kernel
theorem dX6_runs_10 : decode cX6_runs 10 = .ok (.ireturn, 1) := by decide +kernel
theorem dX6_runs_11 : decode cX6_runs 11 = .ok (.iload_n 1, 1) := by decide +kernel
theorem dX6_runs_12 : decode cX6_runs 12 = .ok (.iconst 3, 1) := by decide +kernel
theorem dX6_runs_13 : decode cX6_runs 13 = .ok (.if_icmp .eq 6, 3) := by decide +kernel
theorem dX6_runs_16 : decode cX6_runs 16 = .ok (.bipush 19, 2) := by decide +kernel
theorem dX6_runs_18 : decode cX6_runs 18 = .ok (.ireturn, 1) := by decide +kernel
theorem dX6_runs_19 : decode cX6_runs 19 = .ok (.iload_n 2, 1) := by decide +kernel
theorem dX6_runs_20 : decode cX6_runs 20 = .ok (.i2l, 1) := by decide +kernel
theorem dX6_runs_21 : decode cX6_runs 21 = .ok (.lconst 1, 1) := by decide +kernel
theorem dX6_runs_22 : decode cX6_runs 22 = .ok (.ldc2_w 97, 3) := by decide +kernel
theorem dX6_runs_25 : decode cX6_runs 25 = .ok (.invokestatic 91, 3) := by decide +kernel
theorem dX6_runs_28 : decode cX6_runs 28 = .ok (.ifCond .ne 6, 3) := by decide +kernel
theorem dX6_runs_31 : decode cX6_runs 31 = .ok (.bipush 18, 2) := by decide +kernel
theorem dX6_runs_33 : decode cX6_runs 33 = .ok (.ireturn, 1) := by decide +kernel
theorem dX6_runs_34 : decode cX6_runs 34 = .ok (.iconst (-1), 1) := by decide +kernel
theorem dX6_runs_35 : decode cX6_runs 35 = .ok (.istore_n 3, 1) := by decide +kernel
theorem dX6_runs_36 : decode cX6_runs 36 = .ok (.iconst 0, 1) := by decide +kernel
theorem dX6_runs_37 : decode cX6_runs 37 = .ok (.istore 4, 2) := by decide +kernel
theorem dX6_runs_39 : decode cX6_runs 39 = .ok (.iload 4, 2) := by decide +kernel
theorem dX6_runs_41 : decode cX6_runs 41 = .ok (.aload_n 0, 1) := by decide +kernel
theorem dX6_runs_42 : decode cX6_runs 42 = .ok (.getfield 109, 3) := by decide +kernel
theorem dX6_runs_45 : decode cX6_runs 45 = .ok (.if_icmp .ge 31, 3) := by decide +kernel
theorem dX6_runs_48 : decode cX6_runs 48 = .ok (.aload_n 0, 1) := by decide +kernel
theorem dX6_runs_49 : decode cX6_runs 49 = .ok (.getfield 56, 3) := by decide +kernel
theorem dX6_runs_52 : decode cX6_runs 52 = .ok (.iload 4, 2) := by decide +kernel
theorem dX6_runs_54 : decode cX6_runs 54 = .ok (.iaload, 1) := by decide +kernel
theorem dX6_runs_55 : decode cX6_runs 55 = .ok (.aload_n 0, 1) := by decide +kernel
theorem dX6_runs_56 : decode cX6_runs 56 = .ok (.iconst 2, 1) := by decide +kernel
theorem dX6_runs_57 : decode cX6_runs 57 = .ok (.invokevirtual 156, 3) := by decide +kernel
theorem dX6_runs_60 : decode cX6_runs 60 = .ok (.if_icmp .ne 8, 3) := by decide +kernel
theorem dX6_runs_63 : decode cX6_runs 63 = .ok (.iload 4, 2) := by decide +kernel
theorem dX6_runs_65 : decode cX6_runs 65 = .ok (.goto 4, 3) := by decide +kernel
theorem dX6_runs_68 : decode cX6_runs 68 = .ok (.iload_n 3, 1) := by decide +kernel
theorem dX6_runs_69 : decode cX6_runs 69 = .ok (.istore_n 3, 1) := by decide +kernel
theorem dX6_runs_70 : decode cX6_runs 70 = .ok (.iinc 4 1, 3) := by decide +kernel
theorem dX6_runs_73 : decode cX6_runs 73 = .ok (.goto (-34), 3) := by decide +kernel
theorem dX6_runs_76 : decode cX6_runs 76 = .ok (.iload_n 3, 1) := by decide +kernel
theorem dX6_runs_77 : decode cX6_runs 77 = .ok (.ifCond .ge 6, 3) := by decide +kernel
theorem dX6_runs_80 : decode cX6_runs 80 = .ok (.bipush 49, 2) := by decide +kernel
theorem dX6_runs_82 : decode cX6_runs 82 = .ok (.ireturn, 1) := by decide +kernel
theorem dX6_runs_83 : decode cX6_runs 83 = .ok (.iload_n 2, 1) := by decide +kernel
theorem dX6_runs_84 : decode cX6_runs 84 = .ok (.iconst 1, 1) := by decide +kernel
theorem dX6_runs_85 : decode cX6_runs 85 = .ok (.if_icmp .ne 54, 3) := by decide +kernel
theorem dX6_runs_88 : decode cX6_runs 88 = .ok (.aload_n 0, 1) := by decide +kernel
theorem dX6_runs_89 : decode cX6_runs 89 = .ok (.getfield 65, 3) := by decide +kernel
theorem dX6_runs_92 : decode cX6_runs 92 = .ok (.iload_n 3, 1) := by decide +kernel
theorem dX6_runs_93 : decode cX6_runs 93 = .ok (.iaload, 1) := by decide +kernel
theorem dX6_runs_94 : decode cX6_runs 94 = .ok (.ifCond .le 6, 3) := by decide +kernel
theorem dX6_runs_97 : decode cX6_runs 97 = .ok (.bipush 36, 2) := by decide +kernel
theorem dX6_runs_99 : decode cX6_runs 99 = .ok (.ireturn, 1) := by decide +kernel
theorem dX6_runs_100 : decode cX6_runs 100 = .ok (.aload_n 0, 1) := by decide +kernel
theorem dX6_runs_101 : decode cX6_runs 101 = .ok (.getfield 13, 3) := by decide +kernel
theorem dX6_runs_104 : decode cX6_runs 104 = .ok (.ifCond .ne 6, 3) := by decide +kernel
theorem dX6_runs_107 : decode cX6_runs 107 = .ok (.bipush 34, 2) := by decide +kernel
theorem dX6_runs_109 : decode cX6_runs 109 = .ok (.ireturn, 1) := by decide +kernel
theorem dX6_runs_110 : decode cX6_runs 110 = .ok (.aload_n 0, 1) := by decide +kernel
theorem dX6_runs_111 : decode cX6_runs 111 = .ok (.getfield 62, 3) := by decide +kernel
theorem dX6_runs_114 : decode cX6_runs 114 = .ok (.iload_n 3, 1) := by decide +kernel
theorem dX6_runs_115 : decode cX6_runs 115 = .ok (.iconst 1, 1) := by decide +kernel
theorem dX6_runs_116 : decode cX6_runs 116 = .ok (.bastore, 1) := by decide +kernel
theorem dX6_runs_117 : decode cX6_runs 117 = .ok (.aload_n 0, 1) := by decide +kernel
theorem dX6_runs_118 : decode cX6_runs 118 = .ok (.getfield 65, 3) := by decide +kernel
theorem dX6_runs_121 : decode cX6_runs 121 = .ok (.iload_n 3, 1) := by decide +kernel
theorem dX6_runs_122 : decode cX6_runs 122 = .ok (.aload_n 0, 1) := by decide +kernel
theorem dX6_runs_123 : decode cX6_runs 123 = .ok (.getfield 59, 3) := by decide +kernel
theorem dX6_runs_126 : decode cX6_runs 126 = .ok (.iload_n 3, 1) := by decide +kernel
theorem dX6_runs_127 : decode cX6_runs 127 = .ok (.iaload, 1) := by decide +kernel
theorem dX6_runs_128 : decode cX6_runs 128 = .ok (.iastore, 1) := by decide +kernel
theorem dX6_runs_129 : decode cX6_runs 129 = .ok (.aload_n 0, 1) := by decide +kernel
theorem dX6_runs_130 : decode cX6_runs 130 = .ok (.getfield 68, 3) := by decide +kernel
theorem dX6_runs_133 : decode cX6_runs 133 = .ok (.iload_n 3, 1) := by decide +kernel
theorem dX6_runs_134 : decode cX6_runs 134 = .ok (.iconst 0, 1) := by decide +kernel
theorem dX6_runs_135 : decode cX6_runs 135 = .ok (.iastore, 1) := by decide +kernel
theorem dX6_runs_136 : decode cX6_runs 136 = .ok (.goto 65, 3) := by decide +kernel
theorem dX6_runs_139 : decode cX6_runs 139 = .ok (.aload_n 0, 1) := by decide +kernel
theorem dX6_runs_140 : decode cX6_runs 140 = .ok (.getfield 62, 3) := by decide +kernel
theorem dX6_runs_143 : decode cX6_runs 143 = .ok (.iload_n 3, 1) := by decide +kernel
theorem dX6_runs_144 : decode cX6_runs 144 = .ok (.baload, 1) := by decide +kernel
theorem dX6_runs_145 : decode cX6_runs 145 = .ok (.ifCond .ne 6, 3) := by decide +kernel
theorem dX6_runs_148 : decode cX6_runs 148 = .ok (.bipush 36, 2) := by decide +kernel
theorem dX6_runs_150 : decode cX6_runs 150 = .ok (.ireturn, 1) := by decide +kernel
theorem dX6_runs_151 : decode cX6_runs 151 = .ok (.iload_n 2, 1) := by decide +kernel
theorem dX6_runs_152 : decode cX6_runs 152 = .ok (.iconst 2, 1) := by decide +kernel
theorem dX6_runs_153 : decode cX6_runs 153 = .ok (.if_icmp .ne 10, 3) := by decide +kernel
theorem dX6_runs_156 : decode cX6_runs 156 = .ok (.aload_n 0, 1) := by decide +kernel
theorem dX6_runs_157 : decode cX6_runs 157 = .ok (.getfield 65, 3) := by decide +kernel
theorem dX6_runs_160 : decode cX6_runs 160 = .ok (.iload_n 3, 1) := by decide +kernel
theorem dX6_runs_161 : decode cX6_runs 161 = .ok (.iconst 0, 1) := by decide +kernel
theorem dX6_runs_162 : decode cX6_runs 162 = .ok (.iastore, 1) := by decide +kernel
theorem dX6_runs_163 : decode cX6_runs 163 = .ok (.aload_n 0, 1) := by decide +kernel
theorem dX6_runs_164 : decode cX6_runs 164 = .ok (.getfield 65, 3) := by decide +kernel
theorem dX6_runs_167 : decode cX6_runs 167 = .ok (.iload_n 3, 1) := by decide +kernel
theorem dX6_runs_168 : decode cX6_runs 168 = .ok (.iaload, 1) := by decide +kernel
theorem dX6_runs_169 : decode cX6_runs 169 = .ok (.ifCond .le 32, 3) := by decide +kernel
theorem dX6_runs_172 : decode cX6_runs 172 = .ok (.aload_n 0, 1) := by decide +kernel
theorem dX6_runs_173 : decode cX6_runs 173 = .ok (.getfield 68, 3) := by decide +kernel
theorem dX6_runs_176 : decode cX6_runs 176 = .ok (.iload_n 3, 1) := by decide +kernel
theorem dX6_runs_177 : decode cX6_runs 177 = .ok (.iaload, 1) := by decide +kernel
theorem dX6_runs_178 : decode cX6_runs 178 = .ok (.aload_n 0, 1) := by decide +kernel
theorem dX6_runs_179 : decode cX6_runs 179 = .ok (.getfield 117, 3) := by decide +kernel
theorem dX6_runs_182 : decode cX6_runs 182 = .ok (.if_icmp .lt 6, 3) := by decide +kernel
theorem dX6_runs_185 : decode cX6_runs 185 = .ok (.bipush 16, 2) := by decide +kernel
theorem dX6_runs_187 : decode cX6_runs 187 = .ok (.ireturn, 1) := by decide +kernel
theorem dX6_runs_188 : decode cX6_runs 188 = .ok (.aload_n 0, 1) := by decide +kernel
theorem dX6_runs_189 : decode cX6_runs 189 = .ok (.getfield 68, 3) := by decide +kernel
theorem dX6_runs_192 : decode cX6_runs 192 = .ok (.iload_n 3, 1) := by decide +kernel
theorem dX6_runs_193 : decode cX6_runs 193 = .ok (.dup2, 1) := by decide +kernel
theorem dX6_runs_194 : decode cX6_runs 194 = .ok (.iaload, 1) := by decide +kernel
theorem dX6_runs_195 : decode cX6_runs 195 = .ok (.iconst 1, 1) := by decide +kernel
theorem dX6_runs_196 : decode cX6_runs 196 = .ok (.iadd, 1) := by decide +kernel
theorem dX6_runs_197 : decode cX6_runs 197 = .ok (.iastore, 1) := by decide +kernel
theorem dX6_runs_198 : decode cX6_runs 198 = .ok (.bipush 120, 2) := by decide +kernel
theorem dX6_runs_200 : decode cX6_runs 200 = .ok (.ireturn, 1) := by decide +kernel
theorem dX6_runs_201 : decode cX6_runs 201 = .ok (.aload_n 0, 1) := by decide +kernel
theorem dX6_runs_202 : decode cX6_runs 202 = .ok (.bipush 113, 2) := by decide +kernel
theorem dX6_runs_204 : decode cX6_runs 204 = .ok (.invokevirtual 131, 3) := by decide +kernel
theorem dX6_runs_207 : decode cX6_runs 207 = .ok (.aload_n 0, 1) := by decide +kernel
theorem dX6_runs_208 : decode cX6_runs 208 = .ok (.iload_n 2, 1) := by decide +kernel
theorem dX6_runs_209 : decode cX6_runs 209 = .ok (.invokevirtual 131, 3) := by decide +kernel
theorem dX6_runs_212 : decode cX6_runs 212 = .ok (.aload_n 0, 1) := by decide +kernel
theorem dX6_runs_213 : decode cX6_runs 213 = .ok (.aload_n 0, 1) := by decide +kernel
theorem dX6_runs_214 : decode cX6_runs 214 = .ok (.getfield 74, 3) := by decide +kernel
theorem dX6_runs_217 : decode cX6_runs 217 = .ok (.iconst 2, 1) := by decide +kernel
theorem dX6_runs_218 : decode cX6_runs 218 = .ok (.iaload, 1) := by decide +kernel
theorem dX6_runs_219 : decode cX6_runs 219 = .ok (.invokevirtual 131, 3) := by decide +kernel
theorem dX6_runs_222 : decode cX6_runs 222 = .ok (.aload_n 0, 1) := by decide +kernel
theorem dX6_runs_223 : decode cX6_runs 223 = .ok (.aload_n 0, 1) := by decide +kernel
theorem dX6_runs_224 : decode cX6_runs 224 = .ok (.getfield 74, 3) := by decide +kernel
theorem dX6_runs_227 : decode cX6_runs 227 = .ok (.iconst 3, 1) := by decide +kernel
theorem dX6_runs_228 : decode cX6_runs 228 = .ok (.iaload, 1) := by decide +kernel
theorem dX6_runs_229 : decode cX6_runs 229 = .ok (.invokevirtual 131, 3) := by decide +kernel
theorem dX6_runs_232 : decode cX6_runs 232 = .ok (.aload_n 0, 1) := by decide +kernel
theorem dX6_runs_233 : decode cX6_runs 233 = .ok (.aload_n 0, 1) := by decide +kernel
theorem dX6_runs_234 : decode cX6_runs 234 = .ok (.getfield 65, 3) := by decide +kernel
theorem dX6_runs_237 : decode cX6_runs 237 = .ok (.iload_n 3, 1) := by decide +kernel
theorem dX6_runs_238 : decode cX6_runs 238 = .ok (.iaload, 1) := by decide +kernel
theorem dX6_runs_239 : decode cX6_runs 239 = .ok (.invokevirtual 131, 3) := by decide +kernel
theorem dX6_runs_242 : decode cX6_runs 242 = .ok (.iconst 0, 1) := by decide +kernel
theorem dX6_runs_243 : decode cX6_runs 243 = .ok (.ireturn, 1) := by decide +kernel
theorem dX6_takes_0 : decode cX6_takes 0 = .ok (.aload_n 0, 1) := by decide +kernel
theorem dX6_takes_1 : decode cX6_takes 1 = .ok (.getfield 7, 3) := by decide +kernel
theorem dX6_takes_4 : decode cX6_takes 4 = .ok (.iconst 3, 1) := by decide +kernel
theorem dX6_takes_5 : decode cX6_takes 5 = .ok (.if_icmp .eq 6, 3) := by decide +kernel
theorem dX6_takes_8 : decode cX6_takes 8 = .ok (.bipush 127, 2) := by decide +kernel
theorem dX6_takes_10 : decode cX6_takes 10 = .ok (.ireturn, 1) := by decide +kernel
theorem dX6_takes_11 : decode cX6_takes 11 = .ok (.iload_n 1, 1) := by decide +kernel
theorem dX6_takes_12 : decode cX6_takes 12 = .ok (.iconst 2, 1) := by decide +kernel
theorem dX6_takes_13 : decode cX6_takes 13 = .ok (.if_icmp .lt 9, 3) := by decide +kernel
theorem dX6_takes_16 : decode cX6_takes 16 = .ok (.iload_n 1, 1) := by decide +kernel
theorem dX6_takes_17 : decode cX6_takes 17 = .ok (.bipush 9, 2) := by decide +kernel
theorem dX6_takes_19 : decode cX6_takes 19 = .ok (.if_icmp .le 6, 3) := by decide +kernel
theorem dX6_takes_22 : decode cX6_takes 22 = .ok (.bipush 19, 2) := by decide +kernel
theorem dX6_takes_24 : decode cX6_takes 24 = .ok (.ireturn, 1) := by decide +kernel
theorem dX6_takes_25 : decode cX6_takes 25 = .ok (.aload_n 0, 1) := by decide +kernel
theorem dX6_takes_26 : decode cX6_takes 26 = .ok (.getfield 135, 3) := by decide +kernel
theorem dX6_takes_29 : decode cX6_takes 29 = .ok (.ifCond .ne 6, 3) := by decide +kernel
theorem dX6_takes_32 : decode cX6_takes 32 = .ok (.bipush 36, 2) := by decide +kernel
theorem dX6_takes_34 : decode cX6_takes 34 = .ok (.ireturn, 1) := by decide +kernel
theorem dX6_takes_35 : decode cX6_takes 35 = .ok (.aload_n 0, 1) := by decide +kernel
theorem dX6_takes_36 : decode cX6_takes 36 = .ok (.getfield 74, 3) := by decide +kernel
theorem dX6_takes_39 : decode cX6_takes 39 = .ok (.iconst 1, 1) := by decide +kernel
theorem dX6_takes_40 : decode cX6_takes 40 = .ok (.iaload, 1) := by decide +kernel
theorem dX6_takes_41 : decode cX6_takes 41 = .ok (.istore_n 2, 1) := by decide +kernel
theorem dX6_takes_42 : decode cX6_takes 42 = .ok (.aload_n 0, 1) := by decide +kernel
theorem dX6_takes_43 : decode cX6_takes 43 = .ok (.getfield 170, 3) := by decide +kernel
theorem dX6_takes_46 : decode cX6_takes 46 = .ok (.ifCond .eq 11, 3) := by decide +kernel
theorem dX6_takes_49 : decode cX6_takes 49 = .ok (.iload_n 2, 1) := by decide +kernel
theorem dX6_takes_50 : decode cX6_takes 50 = .ok (.aload_n 0, 1) := by decide +kernel
theorem dX6_takes_51 : decode cX6_takes 51 = .ok (.getfield 188, 3) := by decide +kernel
theorem dX6_takes_54 : decode cX6_takes 54 = .ok (.if_icmp .eq 105, 3) := by decide +kernel
theorem dX6_takes_57 : decode cX6_takes 57 = .ok (.iload_n 2, 1) := by decide +kernel
theorem dX6_takes_58 : decode cX6_takes 58 = .ok (.aload_n 0, 1) := by decide +kernel
theorem dX6_takes_59 : decode cX6_takes 59 = .ok (.getfield 170, 3) := by decide +kernel
theorem dX6_takes_62 : decode cX6_takes 62 = .ok (.ifCond .eq 16, 3) := by decide +kernel
theorem dX6_takes_65 : decode cX6_takes 65 = .ok (.aload_n 0, 1) := by decide +kernel
theorem dX6_takes_66 : decode cX6_takes 66 = .ok (.getfield 188, 3) := by decide +kernel
theorem dX6_takes_69 : decode cX6_takes 69 = .ok (.iconst 1, 1) := by decide +kernel
theorem dX6_takes_70 : decode cX6_takes 70 = .ok (.iadd, 1) := by decide +kernel
theorem dX6_takes_71 : decode cX6_takes 71 = .ok (.sipush 256, 3) := by decide +kernel
theorem dX6_takes_74 : decode cX6_takes 74 = .ok (.irem, 1) := by decide +kernel
theorem dX6_takes_75 : decode cX6_takes 75 = .ok (.goto 4, 3) := by decide +kernel
theorem dX6_takes_78 : decode cX6_takes 78 = .ok (.iconst 1, 1) := by decide +kernel
theorem dX6_takes_79 : decode cX6_takes 79 = .ok (.if_icmp .eq 6, 3) := by decide +kernel
theorem dX6_takes_82 : decode cX6_takes 82 = .ok (.bipush 115, 2) := by decide +kernel
theorem dX6_takes_84 : decode cX6_takes 84 = .ok (.ireturn, 1) := by decide +kernel
theorem dX6_takes_85 : decode cX6_takes 85 = .ok (.iload_n 1, 1) := by decide +kernel
theorem dX6_takes_86 : decode cX6_takes 86 = .ok (.iconst 1, 1) := by decide +kernel
theorem dX6_takes_87 : decode cX6_takes 87 = .ok (.isub, 1) := by decide +kernel
theorem dX6_takes_88 : decode cX6_takes 88 = .ok (.aload_n 0, 1) := by decide +kernel
theorem dX6_takes_89 : decode cX6_takes 89 = .ok (.getfield 161, 3) := by decide +kernel
theorem dX6_takes_92 : decode cX6_takes 92 = .ok (.aload_n 0, 1) := by decide +kernel
theorem dX6_takes_93 : decode cX6_takes 93 = .ok (.getfield 164, 3) := by decide +kernel
theorem dX6_takes_96 : decode cX6_takes 96 = .ok (.isub, 1) := by decide +kernel
theorem dX6_takes_97 : decode cX6_takes 97 = .ok (.if_icmp .le 6, 3) := by decide +kernel
theorem dX6_takes_100 : decode cX6_takes 100 = .ok (.bipush 113, 2) := by decide +kernel
theorem dX6_takes_102 : decode cX6_takes 102 = .ok (.ireturn, 1) := by decide +kernel
theorem dX6_takes_103 : decode cX6_takes 103 = .ok (.iconst 2, 1) := by decide +kernel
theorem dX6_takes_104 : decode cX6_takes 104 = .ok (.istore_n 3, 1) := by decide +kernel
theorem dX6_takes_105 : decode cX6_takes 105 = .ok (.iload_n 3, 1) := by decide +kernel
theorem dX6_takes_106 : decode cX6_takes 106 = .ok (.aload_n 0, 1) := by decide +kernel
theorem dX6_takes_107 : decode cX6_takes 107 = .ok (.getfield 138, 3) := by decide +kernel
theorem dX6_takes_110 : decode cX6_takes 110 = .ok (.if_icmp .ge 27, 3) := by decide +kernel
theorem dX6_takes_113 : decode cX6_takes 113 = .ok (.aload_n 0, 1) := by decide +kernel
theorem dX6_takes_114 : decode cX6_takes 114 = .ok (.aload_n 0, 1) := by decide +kernel
theorem dX6_takes_115 : decode cX6_takes 115 = .ok (.getfield 167, 3) := by decide +kernel
theorem dX6_takes_118 : decode cX6_takes 118 = .ok (.aload_n 0, 1) := by decide +kernel
theorem dX6_takes_119 : decode cX6_takes 119 = .ok (.getfield 74, 3) := by decide +kernel
theorem dX6_takes_122 : decode cX6_takes 122 = .ok (.iload_n 3, 1) := by decide +kernel
theorem dX6_takes_123 : decode cX6_takes 123 = .ok (.iaload, 1) := by decide +kernel
theorem dX6_takes_124 : decode cX6_takes 124 = .ok (.iadd, 1) := by decide +kernel
theorem dX6_takes_125 : decode cX6_takes 125 = .ok (.ldc 191, 2) := by decide +kernel
theorem dX6_takes_127 : decode cX6_takes 127 = .ok (.irem, 1) := by decide +kernel
theorem dX6_takes_128 : decode cX6_takes 128 = .ok (.putfield 167, 3) := by decide +kernel
theorem dX6_takes_131 : decode cX6_takes 131 = .ok (.iinc 3 1, 3) := by decide +kernel
theorem dX6_takes_134 : decode cX6_takes 134 = .ok (.goto (-29), 3) := by decide +kernel
theorem dX6_takes_137 : decode cX6_takes 137 = .ok (.aload_n 0, 1) := by decide +kernel
theorem dX6_takes_138 : decode cX6_takes 138 = .ok (.dup, 1) := by decide +kernel
theorem dX6_takes_139 : decode cX6_takes 139 = .ok (.getfield 164, 3) := by decide +kernel
theorem dX6_takes_142 : decode cX6_takes 142 = .ok (.iload_n 1, 1) := by decide +kernel
theorem dX6_takes_143 : decode cX6_takes 143 = .ok (.iconst 1, 1) := by decide +kernel
theorem dX6_takes_144 : decode cX6_takes 144 = .ok (.isub, 1) := by decide +kernel
theorem dX6_takes_145 : decode cX6_takes 145 = .ok (.iadd, 1) := by decide +kernel
theorem dX6_takes_146 : decode cX6_takes 146 = .ok (.putfield 164, 3) := by decide +kernel
theorem dX6_takes_149 : decode cX6_takes 149 = .ok (.aload_n 0, 1) := by decide +kernel
theorem dX6_takes_150 : decode cX6_takes 150 = .ok (.iload_n 2, 1) := by decide +kernel
theorem dX6_takes_151 : decode cX6_takes 151 = .ok (.putfield 188, 3) := by decide +kernel
theorem dX6_takes_154 : decode cX6_takes 154 = .ok (.aload_n 0, 1) := by decide +kernel
theorem dX6_takes_155 : decode cX6_takes 155 = .ok (.iconst 1, 1) := by decide +kernel
theorem dX6_takes_156 : decode cX6_takes 156 = .ok (.putfield 170, 3) := by decide +kernel
theorem dX6_takes_159 : decode cX6_takes 159 = .ok (.aload_n 0, 1) := by decide +kernel
theorem dX6_takes_160 : decode cX6_takes 160 = .ok (.bipush 118, 2) := by decide +kernel
theorem dX6_takes_162 : decode cX6_takes 162 = .ok (.invokevirtual 131, 3) := by decide +kernel
theorem dX6_takes_165 : decode cX6_takes 165 = .ok (.aload_n 0, 1) := by decide +kernel
theorem dX6_takes_166 : decode cX6_takes 166 = .ok (.iload_n 2, 1) := by decide +kernel
theorem dX6_takes_167 : decode cX6_takes 167 = .ok (.invokevirtual 131, 3) := by decide +kernel
theorem dX6_takes_170 : decode cX6_takes 170 = .ok (.iconst 0, 1) := by decide +kernel
theorem dX6_takes_171 : decode cX6_takes 171 = .ok (.ireturn, 1) := by decide +kernel
theorem dX6_looked_0 : decode cX6_looked 0 = .ok (.aload_n 0, 1) := by decide +kernel
theorem dX6_looked_1 : decode cX6_looked 1 = .ok (.aload_n 0, 1) := by decide +kernel
theorem dX6_looked_2 : decode cX6_looked 2 = .ok (.getfield 192, 3) := by decide +kernel
theorem dX6_looked_5 : decode cX6_looked 5 = .ok (.putfield 196, 3) := by decide +kernel
theorem dX6_looked_8 : decode cX6_looked 8 = .ok (.aload_n 0, 1) := by decide +kernel
theorem dX6_looked_9 : decode cX6_looked 9 = .ok (.iconst 0, 1) := by decide +kernel
theorem dX6_looked_10 : decode cX6_looked 10 = .ok (.putfield 128, 3) := by decide +kernel
theorem dX6_looked_13 : decode cX6_looked 13 = .ok (.aload_n 0, 1) := by decide +kernel
theorem dX6_looked_14 : decode cX6_looked 14 = .ok (.getfield 138, 3) := by decide +kernel
theorem dX6_looked_17 : decode cX6_looked 17 = .ok (.ifCond .ne 7, 3) := by decide +kernel
theorem dX6_looked_20 : decode cX6_looked 20 = .ok (.iconst 0, 1) := by decide +kernel
theorem dX6_looked_21 : decode cX6_looked 21 = .ok (.goto 9, 3) := by decide +kernel
theorem dX6_looked_24 : decode cX6_looked 24 = .ok (.aload_n 0, 1) := by decide +kernel
theorem dX6_looked_25 : decode cX6_looked 25 = .ok (.getfield 74, 3) := by decide +kernel
theorem dX6_looked_28 : decode cX6_looked 28 = .ok (.iconst 0, 1) := by decide +kernel
theorem dX6_looked_29 : decode cX6_looked 29 = .ok (.iaload, 1) := by decide +kernel
theorem dX6_looked_30 : decode cX6_looked 30 = .ok (.istore_n 1, 1) := by decide +kernel
theorem dX6_looked_31 : decode cX6_looked 31 = .ok (.aload_n 0, 1) := by decide +kernel
theorem dX6_looked_32 : decode cX6_looked 32 = .ok (.getfield 138, 3) := by decide +kernel
theorem dX6_looked_35 : decode cX6_looked 35 = .ok (.ifCond .ne 8, 3) := by decide +kernel
theorem dX6_looked_38 : decode cX6_looked 38 = .ok (.bipush 19, 2) := by decide +kernel
theorem dX6_looked_40 : decode cX6_looked 40 = .ok (.goto 7, 3) := by decide +kernel
theorem dX6_looked_43 : decode cX6_looked 43 = .ok (.aload_n 0, 1) := by decide +kernel
theorem dX6_looked_44 : decode cX6_looked 44 = .ok (.invokevirtual 199, 3) := by decide +kernel
theorem dX6_looked_47 : decode cX6_looked 47 = .ok (.istore_n 2, 1) := by decide +kernel
theorem dX6_looked_48 : decode cX6_looked 48 = .ok (.aload_n 0, 1) := by decide +kernel
theorem dX6_looked_49 : decode cX6_looked 49 = .ok (.iload_n 2, 1) := by decide +kernel
theorem dX6_looked_50 : decode cX6_looked 50 = .ok (.putfield 80, 3) := by decide +kernel
theorem dX6_looked_53 : decode cX6_looked 53 = .ok (.iload_n 2, 1) := by decide +kernel
theorem dX6_looked_54 : decode cX6_looked 54 = .ok (.ifCond .le 60, 3) := by decide +kernel
theorem dX6_looked_57 : decode cX6_looked 57 = .ok (.aload_n 0, 1) := by decide +kernel
theorem dX6_looked_58 : decode cX6_looked 58 = .ok (.iconst 0, 1) := by decide +kernel
theorem dX6_looked_59 : decode cX6_looked 59 = .ok (.putfield 128, 3) := by decide +kernel
theorem dX6_looked_62 : decode cX6_looked 62 = .ok (.aload_n 0, 1) := by decide +kernel
theorem dX6_looked_63 : decode cX6_looked 63 = .ok (.getfield 203, 3) := by decide +kernel
theorem dX6_looked_66 : decode cX6_looked 66 = .ok (.ifCond .eq 31, 3) := by decide +kernel
theorem dX6_looked_69 : decode cX6_looked 69 = .ok (.iload_n 2, 1) := by decide +kernel
theorem dX6_looked_70 : decode cX6_looked 70 = .ok (.bipush 17, 2) := by decide +kernel
theorem dX6_looked_72 : decode cX6_looked 72 = .ok (.if_icmp .eq 21, 3) := by decide +kernel
theorem dX6_looked_75 : decode cX6_looked 75 = .ok (.iload_n 2, 1) := by decide +kernel
theorem dX6_looked_76 : decode cX6_looked 76 = .ok (.bipush 18, 2) := by decide +kernel
theorem dX6_looked_78 : decode cX6_looked 78 = .ok (.if_icmp .eq 15, 3) := by decide +kernel
theorem dX6_looked_81 : decode cX6_looked 81 = .ok (.iload_n 2, 1) := by decide +kernel
theorem dX6_looked_82 : decode cX6_looked 82 = .ok (.bipush 49, 2) := by decide +kernel
theorem dX6_looked_84 : decode cX6_looked 84 = .ok (.if_icmp .eq 9, 3) := by decide +kernel
theorem dX6_looked_87 : decode cX6_looked 87 = .ok (.iload_n 2, 1) := by decide +kernel
theorem dX6_looked_88 : decode cX6_looked 88 = .ok (.bipush 127, 2) := by decide +kernel
theorem dX6_looked_90 : decode cX6_looked 90 = .ok (.if_icmp .ne 7, 3) := by decide +kernel
theorem dX6_looked_93 : decode cX6_looked 93 = .ok (.iconst 1, 1) := by decide +kernel
theorem dX6_looked_94 : decode cX6_looked 94 = .ok (.goto 4, 3) := by decide +kernel
theorem dX6_looked_97 : decode cX6_looked 97 = .ok (.iconst 0, 1) := by decide +kernel
theorem dX6_looked_98 : decode cX6_looked 98 = .ok (.istore_n 3, 1) := by decide +kernel
theorem dX6_looked_99 : decode cX6_looked 99 = .ok (.iload_n 3, 1) := by decide +kernel
theorem dX6_looked_100 : decode cX6_looked 100 = .ok (.ifCond .ne 11, 3) := by decide +kernel
theorem dX6_looked_103 : decode cX6_looked 103 = .ok (.aload_n 0, 1) := by decide +kernel
theorem dX6_looked_104 : decode cX6_looked 104 = .ok (.bipush 127, 2) := by decide +kernel
theorem dX6_looked_106 : decode cX6_looked 106 = .ok (.iload_n 1, 1) := by decide +kernel
theorem dX6_looked_107 : decode cX6_looked 107 = .ok (.iload_n 2, 1) := by decide +kernel
theorem dX6_looked_108 : decode cX6_looked 108 = .ok (.invokevirtual 176, 3) := by decide +kernel
theorem dX6_looked_111 : decode cX6_looked 111 = .ok (.goto 51, 3) := by decide +kernel
theorem dX6_looked_114 : decode cX6_looked 114 = .ok (.aload_n 0, 1) := by decide +kernel
theorem dX6_looked_115 : decode cX6_looked 115 = .ok (.getfield 138, 3) := by decide +kernel
theorem dX6_looked_118 : decode cX6_looked 118 = .ok (.iconst 1, 1) := by decide +kernel
theorem dX6_looked_119 : decode cX6_looked 119 = .ok (.if_icmp .le 43, 3) := by decide +kernel
theorem dX6_looked_122 : decode cX6_looked 122 = .ok (.aload_n 0, 1) := by decide +kernel
theorem dX6_looked_123 : decode cX6_looked 123 = .ok (.getfield 74, 3) := by decide +kernel
theorem dX6_looked_126 : decode cX6_looked 126 = .ok (.iconst 1, 1) := by decide +kernel
theorem dX6_looked_127 : decode cX6_looked 127 = .ok (.iaload, 1) := by decide +kernel
theorem dX6_looked_128 : decode cX6_looked 128 = .ok (.bipush 127, 2) := by decide +kernel
theorem dX6_looked_130 : decode cX6_looked 130 = .ok (.if_icmp .le 32, 3) := by decide +kernel
theorem dX6_looked_133 : decode cX6_looked 133 = .ok (.iload_n 1, 1) := by decide +kernel
theorem dX6_looked_134 : decode cX6_looked 134 = .ok (.bipush 16, 2) := by decide +kernel
theorem dX6_looked_136 : decode cX6_looked 136 = .ok (.if_icmp .eq 21, 3) := by decide +kernel
theorem dX6_looked_139 : decode cX6_looked 139 = .ok (.iload_n 1, 1) := by decide +kernel
theorem dX6_looked_140 : decode cX6_looked 140 = .ok (.bipush 17, 2) := by decide +kernel
theorem dX6_looked_142 : decode cX6_looked 142 = .ok (.if_icmp .eq 15, 3) := by decide +kernel
theorem dX6_looked_145 : decode cX6_looked 145 = .ok (.iload_n 1, 1) := by decide +kernel
theorem dX6_looked_146 : decode cX6_looked 146 = .ok (.bipush 49, 2) := by decide +kernel
theorem dX6_looked_148 : decode cX6_looked 148 = .ok (.if_icmp .eq 9, 3) := by decide +kernel
theorem dX6_looked_151 : decode cX6_looked 151 = .ok (.iload_n 1, 1) := by decide +kernel
theorem dX6_looked_152 : decode cX6_looked 152 = .ok (.bipush 62, 2) := by decide +kernel
theorem dX6_looked_154 : decode cX6_looked 154 = .ok (.if_icmp .ne 8, 3) := by decide +kernel
theorem dX6_looked_157 : decode cX6_looked 157 = .ok (.aload_n 0, 1) := by decide +kernel
theorem dX6_looked_158 : decode cX6_looked 158 = .ok (.iconst 0, 1) := by decide +kernel
theorem dX6_looked_159 : decode cX6_looked 159 = .ok (.putfield 128, 3) := by decide +kernel
theorem dX6_looked_162 : decode cX6_looked 162 = .ok (.aload_n 0, 1) := by decide +kernel
theorem dX6_looked_163 : decode cX6_looked 163 = .ok (.getfield 128, 3) := by decide +kernel
theorem dX6_looked_166 : decode cX6_looked 166 = .ok (.ireturn, 1) := by decide +kernel
theorem dX6_ask_0 : decode cX6_ask 0 = .ok (.aload_n 0, 1) := by decide +kernel
theorem dX6_ask_1 : decode cX6_ask 1 = .ok (.iconst 0, 1) := by decide +kernel
theorem dX6_ask_2 : decode cX6_ask 2 = .ok (.putfield 83, 3) := by decide +kernel
theorem dX6_ask_5 : decode cX6_ask 5 = .ok (.iload_n 1, 1) := by decide +kernel
theorem dX6_ask_6 : decode cX6_ask 6 = .ok (.sipush 255, 3) := by decide +kernel
theorem dX6_ask_9 : decode cX6_ask 9 = .ok (.iand, 1) := by decide +kernel
theorem dX6_ask_10 : decode cX6_ask 10 = .ok (.istore_n 2, 1) := by decide +kernel
theorem dX6_ask_11 : decode cX6_ask 11 = .ok (.aload_n 0, 1) := by decide +kernel
theorem dX6_ask_12 : decode cX6_ask 12 = .ok (.getfield 206, 3) := by decide +kernel
theorem dX6_ask_15 : decode cX6_ask 15 = .ok (.ifCond .ne 72, 3) := by decide +kernel
theorem dX6_ask_18 : decode cX6_ask 18 = .ok (.aload_n 0, 1) := by decide +kernel
theorem dX6_ask_19 : decode cX6_ask 19 = .ok (.iload_n 2, 1) := by decide +kernel
theorem dX6_ask_20 : decode cX6_ask 20 = .ok (.bipush 127, 2) := by decide +kernel
theorem dX6_ask_22 : decode cX6_ask 22 = .ok (.iand, 1) := by decide +kernel
theorem dX6_ask_23 : decode cX6_ask 23 = .ok (.putfield 209, 3) := by decide +kernel
theorem dX6_ask_26 : decode cX6_ask 26 = .ok (.aload_n 0, 1) := by decide +kernel
theorem dX6_ask_27 : decode cX6_ask 27 = .ok (.aload_n 0, 1) := by decide +kernel
theorem dX6_ask_28 : decode cX6_ask 28 = .ok (.getfield 209, 3) := by decide +kernel
theorem dX6_ask_31 : decode cX6_ask 31 = .ok (.bipush 60, 2) := by decide +kernel
theorem dX6_ask_33 : decode cX6_ask 33 = .ok (.if_icmp .le 8, 3) := by decide +kernel
theorem dX6_ask_36 : decode cX6_ask 36 = .ok (.bipush 60, 2) := by decide +kernel
theorem dX6_ask_38 : decode cX6_ask 38 = .ok (.goto 7, 3) := by decide +kernel
theorem dX6_ask_41 : decode cX6_ask 41 = .ok (.aload_n 0, 1) := by decide +kernel
theorem dX6_ask_42 : decode cX6_ask 42 = .ok (.getfield 209, 3) := by decide +kernel
theorem dX6_ask_45 : decode cX6_ask 45 = .ok (.putfield 209, 3) := by decide +kernel
theorem dX6_ask_48 : decode cX6_ask 48 = .ok (.aload_n 0, 1) := by decide +kernel
theorem dX6_ask_49 : decode cX6_ask 49 = .ok (.iload_n 2, 1) := by decide +kernel
theorem dX6_ask_50 : decode cX6_ask 50 = .ok (.bipush 127, 2) := by decide +kernel
theorem dX6_ask_52 : decode cX6_ask 52 = .ok (.if_icmp .le 7, 3) := by decide +kernel
theorem dX6_ask_55 : decode cX6_ask 55 = .ok (.iconst 1, 1) := by decide +kernel
theorem dX6_ask_56 : decode cX6_ask 56 = .ok (.goto 4, 3) := by decide +kernel
theorem dX6_ask_59 : decode cX6_ask 59 = .ok (.iconst 0, 1) := by decide +kernel
theorem dX6_ask_60 : decode cX6_ask 60 = .ok (.putfield 212, 3) := by decide +kernel
theorem dX6_ask_63 : decode cX6_ask 63 = .ok (.aload_n 0, 1) := by decide +kernel
theorem dX6_ask_64 : decode cX6_ask 64 = .ok (.iconst 0, 1) := by decide +kernel
theorem dX6_ask_65 : decode cX6_ask 65 = .ok (.putfield 215, 3) := by decide +kernel
theorem dX6_ask_68 : decode cX6_ask 68 = .ok (.aload_n 0, 1) := by decide +kernel
theorem dX6_ask_69 : decode cX6_ask 69 = .ok (.aload_n 0, 1) := by decide +kernel
theorem dX6_ask_70 : decode cX6_ask 70 = .ok (.getfield 209, 3) := by decide +kernel
theorem dX6_ask_73 : decode cX6_ask 73 = .ok (.ifCond .le 7, 3) := by decide +kernel
theorem dX6_ask_76 : decode cX6_ask 76 = .ok (.iconst 1, 1) := by decide +kernel
theorem dX6_ask_77 : decode cX6_ask 77 = .ok (.goto 4, 3) := by decide +kernel
theorem dX6_ask_80 : decode cX6_ask 80 = .ok (.iconst 0, 1) := by decide +kernel
theorem dX6_ask_81 : decode cX6_ask 81 = .ok (.putfield 206, 3) := by decide +kernel
theorem dX6_ask_84 : decode cX6_ask 84 = .ok (.goto 49, 3) := by decide +kernel
theorem dX6_ask_87 : decode cX6_ask 87 = .ok (.aload_n 0, 1) := by decide +kernel
theorem dX6_ask_88 : decode cX6_ask 88 = .ok (.getfield 71, 3) := by decide +kernel
theorem dX6_ask_91 : decode cX6_ask 91 = .ok (.aload_n 0, 1) := by decide +kernel
theorem dX6_ask_92 : decode cX6_ask 92 = .ok (.getfield 215, 3) := by decide +kernel
theorem dX6_ask_95 : decode cX6_ask 95 = .ok (.iload_n 2, 1) := by decide +kernel
theorem dX6_ask_96 : decode cX6_ask 96 = .ok (.iastore, 1) := by decide +kernel
theorem dX6_ask_97 : decode cX6_ask 97 = .ok (.aload_n 0, 1) := by decide +kernel
theorem dX6_ask_98 : decode cX6_ask 98 = .ok (.dup, 1) := by decide +kernel
theorem dX6_ask_99 : decode cX6_ask 99 = .ok (.getfield 215, 3) := by decide +kernel
theorem dX6_ask_102 : decode cX6_ask 102 = .ok (.iconst 1, 1) := by decide +kernel
theorem dX6_ask_103 : decode cX6_ask 103 = .ok (.iadd, 1) := by decide +kernel
theorem dX6_ask_104 : decode cX6_ask 104 = .ok (.putfield 215, 3) := by decide +kernel
theorem dX6_ask_107 : decode cX6_ask 107 = .ok (.aload_n 0, 1) := by decide +kernel
theorem dX6_ask_108 : decode cX6_ask 108 = .ok (.dup, 1) := by decide +kernel
theorem dX6_ask_109 : decode cX6_ask 109 = .ok (.getfield 209, 3) := by decide +kernel
theorem dX6_ask_112 : decode cX6_ask 112 = .ok (.iconst 1, 1) := by decide +kernel
theorem dX6_ask_113 : decode cX6_ask 113 = .ok (.isub, 1) := by decide +kernel
theorem dX6_ask_114 : decode cX6_ask 114 = .ok (.putfield 209, 3) := by decide +kernel
theorem dX6_ask_117 : decode cX6_ask 117 = .ok (.aload_n 0, 1) := by decide +kernel
theorem dX6_ask_118 : decode cX6_ask 118 = .ok (.aload_n 0, 1) := by decide +kernel
theorem dX6_ask_119 : decode cX6_ask 119 = .ok (.getfield 209, 3) := by decide +kernel
theorem dX6_ask_122 : decode cX6_ask 122 = .ok (.ifCond .le 7, 3) := by decide +kernel
theorem dX6_ask_125 : decode cX6_ask 125 = .ok (.iconst 1, 1) := by decide +kernel
theorem dX6_ask_126 : decode cX6_ask 126 = .ok (.goto 4, 3) := by decide +kernel
theorem dX6_ask_129 : decode cX6_ask 129 = .ok (.iconst 0, 1) := by decide +kernel
theorem dX6_ask_130 : decode cX6_ask 130 = .ok (.putfield 206, 3) := by decide +kernel
theorem dX6_ask_133 : decode cX6_ask 133 = .ok (.aload_n 0, 1) := by decide +kernel
theorem dX6_ask_134 : decode cX6_ask 134 = .ok (.getfield 206, 3) := by decide +kernel
theorem dX6_ask_137 : decode cX6_ask 137 = .ok (.ifCond .eq 5, 3) := by decide +kernel
theorem dX6_ask_140 : decode cX6_ask 140 = .ok (.iconst 0, 1) := by decide +kernel
theorem dX6_ask_141 : decode cX6_ask 141 = .ok (.ireturn, 1) := by decide +kernel
theorem dX6_ask_142 : decode cX6_ask 142 = .ok (.aload_n 0, 1) := by decide +kernel
theorem dX6_ask_143 : decode cX6_ask 143 = .ok (.aload_n 0, 1) := by decide +kernel
theorem dX6_ask_144 : decode cX6_ask 144 = .ok (.getfield 212, 3) := by decide +kernel
theorem dX6_ask_147 : decode cX6_ask 147 = .ok (.putfield 203, 3) := by decide +kernel
theorem dX6_ask_150 : decode cX6_ask 150 = .ok (.aload_n 0, 1) := by decide +kernel
theorem dX6_ask_151 : decode cX6_ask 151 = .ok (.aload_n 0, 1) := by decide +kernel
theorem dX6_ask_152 : decode cX6_ask 152 = .ok (.getfield 215, 3) := by decide +kernel
theorem dX6_ask_155 : decode cX6_ask 155 = .ok (.putfield 138, 3) := by decide +kernel
theorem dX6_ask_158 : decode cX6_ask 158 = .ok (.iconst 0, 1) := by decide +kernel
theorem dX6_ask_159 : decode cX6_ask 159 = .ok (.istore_n 3, 1) := by decide +kernel
theorem dX6_ask_160 : decode cX6_ask 160 = .ok (.iload_n 3, 1) := by decide +kernel
theorem dX6_ask_161 : decode cX6_ask 161 = .ok (.aload_n 0, 1) := by decide +kernel
theorem dX6_ask_162 : decode cX6_ask 162 = .ok (.getfield 138, 3) := by decide +kernel
theorem dX6_ask_165 : decode cX6_ask 165 = .ok (.if_icmp .ge 21, 3) := by decide +kernel
theorem dX6_ask_168 : decode cX6_ask 168 = .ok (.aload_n 0, 1) := by decide +kernel
theorem dX6_ask_169 : decode cX6_ask 169 = .ok (.getfield 74, 3) := by decide +kernel
theorem dX6_ask_172 : decode cX6_ask 172 = .ok (.iload_n 3, 1) := by decide +kernel
theorem dX6_ask_173 : decode cX6_ask 173 = .ok (.aload_n 0, 1) := by decide +kernel
theorem dX6_ask_174 : decode cX6_ask 174 = .ok (.getfield 71, 3) := by decide +kernel
theorem dX6_ask_177 : decode cX6_ask 177 = .ok (.iload_n 3, 1) := by decide +kernel
theorem dX6_ask_178 : decode cX6_ask 178 = .ok (.iaload, 1) := by decide +kernel
theorem dX6_ask_179 : decode cX6_ask 179 = .ok (.iastore, 1) := by decide +kernel
theorem dX6_ask_180 : decode cX6_ask 180 = .ok (.iinc 3 1, 3) := by decide +kernel
theorem dX6_ask_183 : decode cX6_ask 183 = .ok (.goto (-23), 3) := by decide +kernel
theorem dX6_ask_186 : decode cX6_ask 186 = .ok (.aload_n 0, 1) := by decide +kernel
theorem dX6_ask_187 : decode cX6_ask 187 = .ok (.invokevirtual 218, 3) := by decide +kernel
theorem dX6_ask_190 : decode cX6_ask 190 = .ok (.ireturn, 1) := by decide +kernel
theorem dX6_answer_0 : decode cX6_answer 0 = .ok (.aload_n 0, 1) := by decide +kernel
theorem dX6_answer_1 : decode cX6_answer 1 = .ok (.iload_n 1, 1) := by decide +kernel
theorem dX6_answer_2 : decode cX6_answer 2 = .ok (.ifCond .lt 11, 3) := by decide +kernel
theorem dX6_answer_5 : decode cX6_answer 5 = .ok (.iload_n 1, 1) := by decide +kernel
theorem dX6_answer_6 : decode cX6_answer 6 = .ok (.aload_n 0, 1) := by decide +kernel
theorem dX6_answer_7 : decode cX6_answer 7 = .ok (.getfield 128, 3) := by decide +kernel
theorem dX6_answer_10 : decode cX6_answer 10 = .ok (.if_icmp .lt 7, 3) := by decide +kernel
theorem dX6_answer_13 : decode cX6_answer 13 = .ok (.iconst 1, 1) := by decide +kernel
theorem dX6_answer_14 : decode cX6_answer 14 = .ok (.goto 4, 3) := by decide +kernel
theorem dX6_answer_17 : decode cX6_answer 17 = .ok (.iconst 0, 1) := by decide +kernel
theorem dX6_answer_18 : decode cX6_answer 18 = .ok (.putfield 83, 3) := by decide +kernel
theorem dX6_answer_21 : decode cX6_answer 21 = .ok (.aload_n 0, 1) := by decide +kernel
theorem dX6_answer_22 : decode cX6_answer 22 = .ok (.getfield 83, 3) := by decide +kernel
theorem dX6_answer_25 : decode cX6_answer 25 = .ok (.ifCond .le 7, 3) := by decide +kernel
theorem dX6_answer_28 : decode cX6_answer 28 = .ok (.iconst 0, 1) := by decide +kernel
theorem dX6_answer_29 : decode cX6_answer 29 = .ok (.goto 10, 3) := by decide +kernel
theorem dX6_answer_32 : decode cX6_answer 32 = .ok (.aload_n 0, 1) := by decide +kernel
theorem dX6_answer_33 : decode cX6_answer 33 = .ok (.getfield 77, 3) := by decide +kernel
theorem dX6_answer_36 : decode cX6_answer 36 = .ok (.iload_n 1, 1) := by decide +kernel
theorem dX6_answer_37 : decode cX6_answer 37 = .ok (.iaload, 1) := by decide +kernel
theorem dX6_answer_38 : decode cX6_answer 38 = .ok (.i2b, 1) := by decide +kernel
theorem dX6_answer_39 : decode cX6_answer 39 = .ok (.ireturn, 1) := by decide +kernel
theorem dX6_code_0 : decode cX6_code 0 = .ok (.aload_n 0, 1) := by decide +kernel
theorem dX6_code_1 : decode cX6_code 1 = .ok (.iconst 0, 1) := by decide +kernel
theorem dX6_code_2 : decode cX6_code 2 = .ok (.putfield 83, 3) := by decide +kernel
theorem dX6_code_5 : decode cX6_code 5 = .ok (.aload_n 0, 1) := by decide +kernel
theorem dX6_code_6 : decode cX6_code 6 = .ok (.getfield 80, 3) := by decide +kernel
theorem dX6_code_9 : decode cX6_code 9 = .ok (.ireturn, 1) := by decide +kernel
theorem dX6_transfer_0 : decode cX6_transfer 0 = .ok (.aload_n 0, 1) := by decide +kernel
theorem dX6_transfer_1 : decode cX6_transfer 1 = .ok (.iconst 0, 1) := by decide +kernel
theorem dX6_transfer_2 : decode cX6_transfer 2 = .ok (.putfield 83, 3) := by decide +kernel
theorem dX6_transfer_5 : decode cX6_transfer 5 = .ok (.aload_n 0, 1) := by decide +kernel
theorem dX6_transfer_6 : decode cX6_transfer 6 = .ok (.iconst 0, 1) := by decide +kernel
theorem dX6_transfer_7 : decode cX6_transfer 7 = .ok (.putfield 203, 3) := by decide +kernel
theorem dX6_transfer_10 : decode cX6_transfer 10 = .ok (.aload_n 0, 1) := by decide +kernel
theorem dX6_transfer_11 : decode cX6_transfer 11 = .ok (.iconst 3, 1) := by decide +kernel
theorem dX6_transfer_12 : decode cX6_transfer 12 = .ok (.putfield 138, 3) := by decide +kernel
theorem dX6_transfer_15 : decode cX6_transfer 15 = .ok (.aload_n 0, 1) := by decide +kernel
theorem dX6_transfer_16 : decode cX6_transfer 16 = .ok (.getfield 74, 3) := by decide +kernel
theorem dX6_transfer_19 : decode cX6_transfer 19 = .ok (.iconst 0, 1) := by decide +kernel
theorem dX6_transfer_20 : decode cX6_transfer 20 = .ok (.bipush 54, 2) := by decide +kernel
theorem dX6_transfer_22 : decode cX6_transfer 22 = .ok (.iastore, 1) := by decide +kernel
theorem dX6_transfer_23 : decode cX6_transfer 23 = .ok (.aload_n 0, 1) := by decide +kernel
theorem dX6_transfer_24 : decode cX6_transfer 24 = .ok (.getfield 74, 3) := by decide +kernel
theorem dX6_transfer_27 : decode cX6_transfer 27 = .ok (.iconst 1, 1) := by decide +kernel
theorem dX6_transfer_28 : decode cX6_transfer 28 = .ok (.iload_n 1, 1) := by decide +kernel
theorem dX6_transfer_29 : decode cX6_transfer 29 = .ok (.sipush 255, 3) := by decide +kernel
theorem dX6_transfer_32 : decode cX6_transfer 32 = .ok (.iand, 1) := by decide +kernel
theorem dX6_transfer_33 : decode cX6_transfer 33 = .ok (.iastore, 1) := by decide +kernel
theorem dX6_transfer_34 : decode cX6_transfer 34 = .ok (.aload_n 0, 1) := by decide +kernel
theorem dX6_transfer_35 : decode cX6_transfer 35 = .ok (.getfield 74, 3) := by decide +kernel
theorem dX6_transfer_38 : decode cX6_transfer 38 = .ok (.iconst 2, 1) := by decide +kernel
theorem dX6_transfer_39 : decode cX6_transfer 39 = .ok (.iload_n 2, 1) := by decide +kernel
theorem dX6_transfer_40 : decode cX6_transfer 40 = .ok (.sipush 255, 3) := by decide +kernel
theorem dX6_transfer_43 : decode cX6_transfer 43 = .ok (.iand, 1) := by decide +kernel
theorem dX6_transfer_44 : decode cX6_transfer 44 = .ok (.iastore, 1) := by decide +kernel
theorem dX6_transfer_45 : decode cX6_transfer 45 = .ok (.aload_n 0, 1) := by decide +kernel
theorem dX6_transfer_46 : decode cX6_transfer 46 = .ok (.getfield 164, 3) := by decide +kernel
theorem dX6_transfer_49 : decode cX6_transfer 49 = .ok (.istore_n 3, 1) := by decide +kernel
theorem dX6_transfer_50 : decode cX6_transfer 50 = .ok (.aload_n 0, 1) := by decide +kernel
theorem dX6_transfer_51 : decode cX6_transfer 51 = .ok (.invokevirtual 218, 3) := by decide +kernel
theorem dX6_transfer_54 : decode cX6_transfer 54 = .ok (.istore 4, 2) := by decide +kernel
theorem dX6_transfer_56 : decode cX6_transfer 56 = .ok (.aload_n 0, 1) := by decide +kernel
theorem dX6_transfer_57 : decode cX6_transfer 57 = .ok (.getfield 80, 3) := by decide +kernel
theorem dX6_transfer_60 : decode cX6_transfer 60 = .ok (.ifCond .le 11, 3) := by decide +kernel
theorem dX6_transfer_63 : decode cX6_transfer 63 = .ok (.aload_n 0, 1) := by decide +kernel
theorem dX6_transfer_64 : decode cX6_transfer 64 = .ok (.getfield 80, 3) := by decide +kernel
theorem dX6_transfer_67 : decode cX6_transfer 67 = .ok (.ineg, 1) := by decide +kernel
theorem dX6_transfer_68 : decode cX6_transfer 68 = .ok (.goto 16, 3) := by decide +kernel
theorem dX6_transfer_71 : decode cX6_transfer 71 = .ok (.aload_n 0, 1) := by decide +kernel
theorem dX6_transfer_72 : decode cX6_transfer 72 = .ok (.getfield 164, 3) := by decide +kernel
theorem dX6_transfer_75 : decode cX6_transfer 75 = .ok (.iload_n 3, 1) := by decide +kernel
theorem dX6_transfer_76 : decode cX6_transfer 76 = .ok (.if_icmp .le 7, 3) := by decide +kernel
theorem dX6_transfer_79 : decode cX6_transfer 79 = .ok (.iconst 1, 1) := by decide +kernel
theorem dX6_transfer_80 : decode cX6_transfer 80 = .ok (.goto 4, 3) := by decide +kernel
theorem dX6_transfer_83 : decode cX6_transfer 83 = .ok (.iconst 2, 1) := by decide +kernel
theorem dX6_transfer_84 : decode cX6_transfer 84 = .ok (.ireturn, 1) := by decide +kernel
theorem dX6_tick_0 : decode cX6_tick 0 = .ok (.aload_n 0, 1) := by decide +kernel
theorem dX6_tick_1 : decode cX6_tick 1 = .ok (.iconst 0, 1) := by decide +kernel
theorem dX6_tick_2 : decode cX6_tick 2 = .ok (.putfield 83, 3) := by decide +kernel
theorem dX6_tick_5 : decode cX6_tick 5 = .ok (.lload_n 1, 1) := by decide +kernel
theorem dX6_tick_6 : decode cX6_tick 6 = .ok (.aload_n 0, 1) := by decide +kernel
theorem dX6_tick_7 : decode cX6_tick 7 = .ok (.getfield 192, 3) := by decide +kernel
theorem dX6_tick_10 : decode cX6_tick 10 = .ok (.lcmp, 1) := by decide +kernel
theorem dX6_tick_11 : decode cX6_tick 11 = .ok (.ifCond .lt 11, 3) := by decide +kernel
theorem dX6_tick_14 : decode cX6_tick 14 = .ok (.lload_n 1, 1) := by decide +kernel
theorem dX6_tick_15 : decode cX6_tick 15 = .ok (.ldc2_w 221, 3) := by decide +kernel
theorem dX6_tick_18 : decode cX6_tick 18 = .ok (.lcmp, 1) := by decide +kernel
theorem dX6_tick_19 : decode cX6_tick 19 = .ok (.ifCond .le 6, 3) := by decide +kernel
theorem dX6_tick_22 : decode cX6_tick 22 = .ok (.bipush (-2), 2) := by decide +kernel
theorem dX6_tick_24 : decode cX6_tick 24 = .ok (.ireturn, 1) := by decide +kernel
theorem dX6_tick_25 : decode cX6_tick 25 = .ok (.aload_n 0, 1) := by decide +kernel
theorem dX6_tick_26 : decode cX6_tick 26 = .ok (.lload_n 1, 1) := by decide +kernel
theorem dX6_tick_27 : decode cX6_tick 27 = .ok (.putfield 192, 3) := by decide +kernel
theorem dX6_tick_30 : decode cX6_tick 30 = .ok (.aload_n 0, 1) := by decide +kernel
theorem dX6_tick_31 : decode cX6_tick 31 = .ok (.getfield 7, 3) := by decide +kernel
theorem dX6_tick_34 : decode cX6_tick 34 = .ok (.iconst 1, 1) := by decide +kernel
theorem dX6_tick_35 : decode cX6_tick 35 = .ok (.if_icmp .eq 20, 3) := by decide +kernel
theorem dX6_tick_38 : decode cX6_tick 38 = .ok (.lload_n 1, 1) := by decide +kernel
theorem dX6_tick_39 : decode cX6_tick 39 = .ok (.aload_n 0, 1) := by decide +kernel
theorem dX6_tick_40 : decode cX6_tick 40 = .ok (.getfield 196, 3) := by decide +kernel
theorem dX6_tick_43 : decode cX6_tick 43 = .ok (.lsub, 1) := by decide +kernel
theorem dX6_tick_44 : decode cX6_tick 44 = .ok (.ldc2_w 223, 3) := by decide +kernel
theorem dX6_tick_47 : decode cX6_tick 47 = .ok (.lcmp, 1) := by decide +kernel
theorem dX6_tick_48 : decode cX6_tick 48 = .ok (.ifCond .lt 7, 3) := by decide +kernel
theorem dX6_tick_51 : decode cX6_tick 51 = .ok (.iconst 1, 1) := by decide +kernel
theorem dX6_tick_52 : decode cX6_tick 52 = .ok (.goto 4, 3) := by decide +kernel
theorem dX6_tick_55 : decode cX6_tick 55 = .ok (.iconst 0, 1) := by decide +kernel
theorem dX6_tick_56 : decode cX6_tick 56 = .ok (.istore_n 3, 1) := by decide +kernel
theorem dX6_tick_57 : decode cX6_tick 57 = .ok (.iload_n 3, 1) := by decide +kernel
theorem dX6_tick_58 : decode cX6_tick 58 = .ok (.ifCond .eq 8, 3) := by decide +kernel
theorem dX6_tick_61 : decode cX6_tick 61 = .ok (.aload_n 0, 1) := by decide +kernel
theorem dX6_tick_62 : decode cX6_tick 62 = .ok (.iconst 1, 1) := by decide +kernel
theorem dX6_tick_63 : decode cX6_tick 63 = .ok (.invokevirtual 141, 3) := by decide +kernel
theorem dX6_tick_66 : decode cX6_tick 66 = .ok (.iconst 0, 1) := by decide +kernel
theorem dX6_tick_67 : decode cX6_tick 67 = .ok (.istore 4, 2) := by decide +kernel
theorem dX6_tick_69 : decode cX6_tick 69 = .ok (.iload 4, 2) := by decide +kernel
theorem dX6_tick_71 : decode cX6_tick 71 = .ok (.aload_n 0, 1) := by decide +kernel
theorem dX6_tick_72 : decode cX6_tick 72 = .ok (.getfield 109, 3) := by decide +kernel
theorem dX6_tick_75 : decode cX6_tick 75 = .ok (.if_icmp .ge 55, 3) := by decide +kernel
theorem dX6_tick_78 : decode cX6_tick 78 = .ok (.aload_n 0, 1) := by decide +kernel
theorem dX6_tick_79 : decode cX6_tick 79 = .ok (.getfield 65, 3) := by decide +kernel
theorem dX6_tick_82 : decode cX6_tick 82 = .ok (.iload 4, 2) := by decide +kernel
theorem dX6_tick_84 : decode cX6_tick 84 = .ok (.aload_n 0, 1) := by decide +kernel
theorem dX6_tick_85 : decode cX6_tick 85 = .ok (.getfield 62, 3) := by decide +kernel
theorem dX6_tick_88 : decode cX6_tick 88 = .ok (.iload 4, 2) := by decide +kernel
theorem dX6_tick_90 : decode cX6_tick 90 = .ok (.baload, 1) := by decide +kernel
theorem dX6_tick_91 : decode cX6_tick 91 = .ok (.ifCond .eq 25, 3) := by decide +kernel
theorem dX6_tick_94 : decode cX6_tick 94 = .ok (.aload_n 0, 1) := by decide +kernel
theorem dX6_tick_95 : decode cX6_tick 95 = .ok (.getfield 65, 3) := by decide +kernel
theorem dX6_tick_98 : decode cX6_tick 98 = .ok (.iload 4, 2) := by decide +kernel
theorem dX6_tick_100 : decode cX6_tick 100 = .ok (.iaload, 1) := by decide +kernel
theorem dX6_tick_101 : decode cX6_tick 101 = .ok (.ifCond .le 15, 3) := by decide +kernel
theorem dX6_tick_104 : decode cX6_tick 104 = .ok (.aload_n 0, 1) := by decide +kernel
theorem dX6_tick_105 : decode cX6_tick 105 = .ok (.getfield 65, 3) := by decide +kernel
theorem dX6_tick_108 : decode cX6_tick 108 = .ok (.iload 4, 2) := by decide +kernel
theorem dX6_tick_110 : decode cX6_tick 110 = .ok (.iaload, 1) := by decide +kernel
theorem dX6_tick_111 : decode cX6_tick 111 = .ok (.iconst 1, 1) := by decide +kernel
theorem dX6_tick_112 : decode cX6_tick 112 = .ok (.isub, 1) := by decide +kernel
theorem dX6_tick_113 : decode cX6_tick 113 = .ok (.goto 10, 3) := by decide +kernel
theorem dX6_tick_116 : decode cX6_tick 116 = .ok (.aload_n 0, 1) := by decide +kernel
theorem dX6_tick_117 : decode cX6_tick 117 = .ok (.getfield 65, 3) := by decide +kernel
theorem dX6_tick_120 : decode cX6_tick 120 = .ok (.iload 4, 2) := by decide +kernel
theorem dX6_tick_122 : decode cX6_tick 122 = .ok (.iaload, 1) := by decide +kernel
theorem dX6_tick_123 : decode cX6_tick 123 = .ok (.iastore, 1) := by decide +kernel
theorem dX6_tick_124 : decode cX6_tick 124 = .ok (.iinc 4 1, 3) := by decide +kernel
theorem dX6_tick_127 : decode cX6_tick 127 = .ok (.goto (-58), 3) := by decide +kernel
theorem dX6_tick_130 : decode cX6_tick 130 = .ok (.iload_n 3, 1) := by decide +kernel
theorem dX6_tick_131 : decode cX6_tick 131 = .ok (.ifCond .eq 7, 3) := by decide +kernel
theorem dX6_tick_134 : decode cX6_tick 134 = .ok (.iconst 1, 1) := by decide +kernel
theorem dX6_tick_135 : decode cX6_tick 135 = .ok (.goto 4, 3) := by decide +kernel
theorem dX6_tick_138 : decode cX6_tick 138 = .ok (.iconst 0, 1) := by decide +kernel
theorem dX6_tick_139 : decode cX6_tick 139 = .ok (.ireturn, 1) := by decide +kernel
