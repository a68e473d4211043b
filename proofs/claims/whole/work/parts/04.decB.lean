theorem dX5_init_0 : decode cX5_init 0 = .ok (.aload_n 0, 1) := by decide +kernel
theorem dX5_init_1 : decode cX5_init 1 = .ok (.invokespecial 1, 3) := by decide +kernel
theorem dX5_init_4 : decode cX5_init 4 = .ok (.aload_n 0, 1) := by decide +kernel
theorem dX5_init_5 : decode cX5_init 5 = .ok (.bipush 40, 2) := by decide +kernel
theorem dX5_init_7 : decode cX5_init 7 = .ok (.anewarray 9, 3) := by decide +kernel
theorem dX5_init_10 : decode cX5_init 10 = .ok (.putfield 11, 3) := by decide +kernel
theorem dX5_init_13 : decode cX5_init 13 = .ok (.aload_n 0, 1) := by decide +kernel
theorem dX5_init_14 : decode cX5_init 14 = .ok (.iconst 0, 1) := by decide +kernel
theorem dX5_init_15 : decode cX5_init 15 = .ok (.putfield 15, 3) := by decide +kernel
theorem dX5_init_18 : decode cX5_init 18 = .ok (.aload_n 0, 1) := by decide +kernel
theorem dX5_init_19 : decode cX5_init 19 = .ok (.bipush 10, 2) := by decide +kernel
theorem dX5_init_21 : decode cX5_init 21 = .ok (.anewarray 19, 3) := by decide +kernel
theorem dX5_init_24 : decode cX5_init 24 = .ok (.putfield 21, 3) := by decide +kernel
theorem dX5_init_27 : decode cX5_init 27 = .ok (.aload_n 0, 1) := by decide +kernel
theorem dX5_init_28 : decode cX5_init 28 = .ok (.iconst 0, 1) := by decide +kernel
theorem dX5_init_29 : decode cX5_init 29 = .ok (.putfield 25, 3) := by decide +kernel
theorem dX5_init_32 : decode cX5_init 32 = .ok (.aload_n 0, 1) := by decide +kernel
theorem dX5_init_33 : decode cX5_init 33 = .ok (.iconst 1, 1) := by decide +kernel
theorem dX5_init_34 : decode cX5_init 34 = .ok (.putfield 28, 3) := by decide +kernel
theorem dX5_init_37 : decode cX5_init 37 = .ok (.aload_n 0, 1) := by decide +kernel
theorem dX5_init_38 : decode cX5_init 38 = .ok (.iconst 1, 1) := by decide +kernel
theorem dX5_init_39 : decode cX5_init 39 = .ok (.putfield 32, 3) := by decide +kernel
theorem dX5_init_42 : decode cX5_init 42 = .ok (.aload_n 0, 1) := by decide +kernel
theorem dX5_init_43 : decode cX5_init 43 = .ok (.iconst 1, 1) := by decide +kernel
theorem dX5_init_44 : decode cX5_init 44 = .ok (.putfield 35, 3) := by decide +kernel
theorem dX5_init_47 : decode cX5_init 47 = .ok (.aload_n 0, 1) := by decide +kernel
theorem dX5_init_48 : decode cX5_init 48 = .ok (.iconst 0, 1) := by decide +kernel
theorem dX5_init_49 : decode cX5_init 49 = .ok (.putfield 38, 3) := by decide +kernel
theorem dX5_init_52 : decode cX5_init 52 = .ok (.aload_n 0, 1) := by decide +kernel
theorem dX5_init_53 : decode cX5_init 53 = .ok (.iconst 0, 1) := by decide +kernel
theorem dX5_init_54 : decode cX5_init 54 = .ok (.putfield 41, 3) := by decide +kernel
theorem dX5_init_57 : decode cX5_init 57 = .ok (.aload_n 0, 1) := by decide +kernel
theorem dX5_init_58 : decode cX5_init 58 = .ok (.lconst 0, 1) := by decide +kernel
theorem dX5_init_59 : decode cX5_init 59 = .ok (.putfield 44, 3) := by decide +kernel
theorem dX5_init_62 : decode cX5_init 62 = .ok (.aload_n 0, 1) := by decide +kernel
theorem dX5_init_63 : decode cX5_init 63 = .ok (.lconst 0, 1) := by decide +kernel
theorem dX5_init_64 : decode cX5_init 64 = .ok (.putfield 48, 3) := by decide +kernel
theorem dX5_init_67 : decode cX5_init 67 = .ok (.aload_n 0, 1) := by decide +kernel
theorem dX5_init_68 : decode cX5_init 68 = .ok (.iconst (-1), 1) := by decide +kernel
theorem dX5_init_69 : decode cX5_init 69 = .ok (.putfield 51, 3) := by decide +kernel
theorem dX5_init_72 : decode cX5_init 72 = .ok (.aload_n 0, 1) := by decide +kernel
theorem dX5_init_73 : decode cX5_init 73 = .ok (.new 54, 3) := by decide +kernel
theorem dX5_init_76 : decode cX5_init 76 = .ok (.dup, 1) := by decide +kernel
theorem dX5_init_77 : decode cX5_init 77 = .ok (.invokespecial 56, 3) := by decide +kernel
theorem dX5_init_80 : decode cX5_init 80 = .ok (.putfield 57, 3) := by decide +kernel
theorem dX5_init_83 : decode cX5_init 83 = .ok (.aload_n 0, 1) := by decide +kernel
theorem dX5_init_84 : decode cX5_init 84 = .ok (.new 54, 3) := by decide +kernel
theorem dX5_init_87 : decode cX5_init 87 = .ok (.dup, 1) := by decide +kernel
theorem dX5_init_88 : decode cX5_init 88 = .ok (.invokespecial 56, 3) := by decide +kernel
theorem dX5_init_91 : decode cX5_init 91 = .ok (.putfield 61, 3) := by decide +kernel
theorem dX5_init_94 : decode cX5_init 94 = .ok (.aload_n 0, 1) := by decide +kernel
theorem dX5_init_95 : decode cX5_init 95 = .ok (.new 64, 3) := by decide +kernel
theorem dX5_init_98 : decode cX5_init 98 = .ok (.dup, 1) := by decide +kernel
theorem dX5_init_99 : decode cX5_init 99 = .ok (.invokespecial 66, 3) := by decide +kernel
theorem dX5_init_102 : decode cX5_init 102 = .ok (.putfield 67, 3) := by decide +kernel
theorem dX5_init_105 : decode cX5_init 105 = .ok (.aload_n 0, 1) := by decide +kernel
theorem dX5_init_106 : decode cX5_init 106 = .ok (.new 71, 3) := by decide +kernel
theorem dX5_init_109 : decode cX5_init 109 = .ok (.dup, 1) := by decide +kernel
theorem dX5_init_110 : decode cX5_init 110 = .ok (.invokespecial 73, 3) := by decide +kernel
theorem dX5_init_113 : decode cX5_init 113 = .ok (.putfield 74, 3) := by decide +kernel
theorem dX5_init_116 : decode cX5_init 116 = .ok (.return_, 1) := by decide +kernel
theorem dX5_identifier_0 : decode cX5_identifier 0 = .ok (.iload_n 1, 1) := by decide +kernel
theorem dX5_identifier_1 : decode cX5_identifier 1 = .ok (.iconst 0, 1) := by decide +kernel
theorem dX5_identifier_2 : decode cX5_identifier 2 = .ok (.ldc 78, 2) := by decide +kernel
theorem dX5_identifier_4 : decode cX5_identifier 4 = .ok (.invokestatic 79, 3) := by decide +kernel
theorem dX5_identifier_7 : decode cX5_identifier 7 = .ok (.ifCond .eq 32, 3) := by decide +kernel
theorem dX5_identifier_10 : decode cX5_identifier 10 = .ok (.iload_n 2, 1) := by decide +kernel
theorem dX5_identifier_11 : decode cX5_identifier 11 = .ok (.iconst 1, 1) := by decide +kernel
theorem dX5_identifier_12 : decode cX5_identifier 12 = .ok (.bipush 8, 2) := by decide +kernel
theorem dX5_identifier_14 : decode cX5_identifier 14 = .ok (.invokestatic 79, 3) := by decide +kernel
theorem dX5_identifier_17 : decode cX5_identifier 17 = .ok (.ifCond .eq 22, 3) := by decide +kernel
theorem dX5_identifier_20 : decode cX5_identifier 20 = .ok (.iload_n 3, 1) := by decide +kernel
theorem dX5_identifier_21 : decode cX5_identifier 21 = .ok (.iconst 1, 1) := by decide +kernel
theorem dX5_identifier_22 : decode cX5_identifier 22 = .ok (.iconst 3, 1) := by decide +kernel
theorem dX5_identifier_23 : decode cX5_identifier 23 = .ok (.invokestatic 79, 3) := by decide +kernel
theorem dX5_identifier_26 : decode cX5_identifier 26 = .ok (.ifCond .eq 13, 3) := by decide +kernel
theorem dX5_identifier_29 : decode cX5_identifier 29 = .ok (.iload 4, 2) := by decide +kernel
theorem dX5_identifier_31 : decode cX5_identifier 31 = .ok (.iconst 0, 1) := by decide +kernel
theorem dX5_identifier_32 : decode cX5_identifier 32 = .ok (.iconst 3, 1) := by decide +kernel
theorem dX5_identifier_33 : decode cX5_identifier 33 = .ok (.invokestatic 79, 3) := by decide +kernel
theorem dX5_identifier_36 : decode cX5_identifier 36 = .ok (.ifCond .ne 6, 3) := by decide +kernel
theorem dX5_identifier_39 : decode cX5_identifier 39 = .ok (.bipush (-2), 2) := by decide +kernel
theorem dX5_identifier_41 : decode cX5_identifier 41 = .ok (.ireturn, 1) := by decide +kernel
theorem dX5_identifier_42 : decode cX5_identifier 42 = .ok (.aload_n 0, 1) := by decide +kernel
theorem dX5_identifier_43 : decode cX5_identifier 43 = .ok (.iload_n 1, 1) := by decide +kernel
theorem dX5_identifier_44 : decode cX5_identifier 44 = .ok (.invokevirtual 83, 3) := by decide +kernel
theorem dX5_identifier_47 : decode cX5_identifier 47 = .ok (.ifnull 6, 3) := by decide +kernel
theorem dX5_identifier_50 : decode cX5_identifier 50 = .ok (.bipush (-3), 2) := by decide +kernel
theorem dX5_identifier_52 : decode cX5_identifier 52 = .ok (.ireturn, 1) := by decide +kernel
theorem dX5_identifier_53 : decode cX5_identifier 53 = .ok (.aload_n 0, 1) := by decide +kernel
theorem dX5_identifier_54 : decode cX5_identifier 54 = .ok (.invokevirtual 87, 3) := by decide +kernel
theorem dX5_identifier_57 : decode cX5_identifier 57 = .ok (.ifCond .ne 6, 3) := by decide +kernel
theorem dX5_identifier_60 : decode cX5_identifier 60 = .ok (.bipush (-4), 2) := by decide +kernel
theorem dX5_identifier_62 : decode cX5_identifier 62 = .ok (.ireturn, 1) := by decide +kernel
theorem dX5_identifier_63 : decode cX5_identifier 63 = .ok (.aload_n 0, 1) := by decide +kernel
theorem dX5_identifier_64 : decode cX5_identifier 64 = .ok (.new 9, 3) := by decide +kernel
theorem dX5_identifier_67 : decode cX5_identifier 67 = .ok (.dup, 1) := by decide +kernel
theorem dX5_identifier_68 : decode cX5_identifier 68 = .ok (.iload_n 1, 1) := by decide +kernel
theorem dX5_identifier_69 : decode cX5_identifier 69 = .ok (.iload_n 2, 1) := by decide +kernel
theorem dX5_identifier_70 : decode cX5_identifier 70 = .ok (.iload_n 3, 1) := by decide +kernel
theorem dX5_identifier_71 : decode cX5_identifier 71 = .ok (.iload 4, 2) := by decide +kernel
theorem dX5_identifier_73 : decode cX5_identifier 73 = .ok (.iconst 0, 1) := by decide +kernel
theorem dX5_identifier_74 : decode cX5_identifier 74 = .ok (.invokespecial 91, 3) := by decide +kernel
theorem dX5_identifier_77 : decode cX5_identifier 77 = .ok (.invokevirtual 94, 3) := by decide +kernel
theorem dX5_identifier_80 : decode cX5_identifier 80 = .ok (.aload_n 0, 1) := by decide +kernel
theorem dX5_identifier_81 : decode cX5_identifier 81 = .ok (.getfield 15, 3) := by decide +kernel
theorem dX5_identifier_84 : decode cX5_identifier 84 = .ok (.ireturn, 1) := by decide +kernel
theorem dX5_dynamic_0 : decode cX5_dynamic 0 = .ok (.aload_n 0, 1) := by decide +kernel
theorem dX5_dynamic_1 : decode cX5_dynamic 1 = .ok (.iload_n 2, 1) := by decide +kernel
theorem dX5_dynamic_2 : decode cX5_dynamic 2 = .ok (.invokevirtual 83, 3) := by decide +kernel
theorem dX5_dynamic_5 : decode cX5_dynamic 5 = .ok (.astore 4, 2) := by decide +kernel
theorem dX5_dynamic_7 : decode cX5_dynamic 7 = .ok (.aload 4, 2) := by decide +kernel
theorem dX5_dynamic_9 : decode cX5_dynamic 9 = .ok (.ifnonnull 5, 3) := by decide +kernel
theorem dX5_dynamic_12 : decode cX5_dynamic 12 = .ok (.iconst (-1), 1) := by decide +kernel
theorem dX5_dynamic_13 : decode cX5_dynamic 13 = .ok (.ireturn, 1) := by decide +kernel
theorem dX5_dynamic_14 : decode cX5_dynamic 14 = .ok (.iload_n 1, 1) := by decide +kernel
theorem dX5_dynamic_15 : decode cX5_dynamic 15 = .ok (.iconst 0, 1) := by decide +kernel
theorem dX5_dynamic_16 : decode cX5_dynamic 16 = .ok (.ldc 78, 2) := by decide +kernel
theorem dX5_dynamic_18 : decode cX5_dynamic 18 = .ok (.invokestatic 79, 3) := by decide +kernel
theorem dX5_dynamic_21 : decode cX5_dynamic 21 = .ok (.ifCond .eq 16, 3) := by decide +kernel
theorem dX5_dynamic_24 : decode cX5_dynamic 24 = .ok (.iload_n 3, 1) := by decide +kernel
theorem dX5_dynamic_25 : decode cX5_dynamic 25 = .ok (.iconst 1, 1) := by decide +kernel
theorem dX5_dynamic_26 : decode cX5_dynamic 26 = .ok (.aload 4, 2) := by decide +kernel
theorem dX5_dynamic_28 : decode cX5_dynamic 28 = .ok (.getfield 98, 3) := by decide +kernel
theorem dX5_dynamic_31 : decode cX5_dynamic 31 = .ok (.invokestatic 79, 3) := by decide +kernel
theorem dX5_dynamic_34 : decode cX5_dynamic 34 = .ok (.ifCond .ne 6, 3) := by decide +kernel
theorem dX5_dynamic_37 : decode cX5_dynamic 37 = .ok (.bipush (-2), 2) := by decide +kernel
theorem dX5_dynamic_39 : decode cX5_dynamic 39 = .ok (.ireturn, 1) := by decide +kernel
theorem dX5_dynamic_40 : decode cX5_dynamic 40 = .ok (.aload_n 0, 1) := by decide +kernel
theorem dX5_dynamic_41 : decode cX5_dynamic 41 = .ok (.iload_n 1, 1) := by decide +kernel
theorem dX5_dynamic_42 : decode cX5_dynamic 42 = .ok (.invokevirtual 83, 3) := by decide +kernel
theorem dX5_dynamic_45 : decode cX5_dynamic 45 = .ok (.astore 5, 2) := by decide +kernel
theorem dX5_dynamic_47 : decode cX5_dynamic 47 = .ok (.aload 4, 2) := by decide +kernel
theorem dX5_dynamic_49 : decode cX5_dynamic 49 = .ok (.getfield 101, 3) := by decide +kernel
theorem dX5_dynamic_52 : decode cX5_dynamic 52 = .ok (.ifCond .ne 16, 3) := by decide +kernel
theorem dX5_dynamic_55 : decode cX5_dynamic 55 = .ok (.aload 5, 2) := by decide +kernel
theorem dX5_dynamic_57 : decode cX5_dynamic 57 = .ok (.ifnull 14, 3) := by decide +kernel
theorem dX5_dynamic_60 : decode cX5_dynamic 60 = .ok (.aload 5, 2) := by decide +kernel
theorem dX5_dynamic_62 : decode cX5_dynamic 62 = .ok (.getfield 101, 3) := by decide +kernel
theorem dX5_dynamic_65 : decode cX5_dynamic 65 = .ok (.ifCond .ne 6, 3) := by decide +kernel
theorem dX5_dynamic_68 : decode cX5_dynamic 68 = .ok (.bipush (-3), 2) := by decide +kernel
theorem dX5_dynamic_70 : decode cX5_dynamic 70 = .ok (.ireturn, 1) := by decide +kernel
theorem dX5_dynamic_71 : decode cX5_dynamic 71 = .ok (.aload 5, 2) := by decide +kernel
theorem dX5_dynamic_73 : decode cX5_dynamic 73 = .ok (.ifnonnull 13, 3) := by decide +kernel
theorem dX5_dynamic_76 : decode cX5_dynamic 76 = .ok (.aload_n 0, 1) := by decide +kernel
theorem dX5_dynamic_77 : decode cX5_dynamic 77 = .ok (.invokevirtual 87, 3) := by decide +kernel
theorem dX5_dynamic_80 : decode cX5_dynamic 80 = .ok (.ifCond .ne 21, 3) := by decide +kernel
theorem dX5_dynamic_83 : decode cX5_dynamic 83 = .ok (.goto 15, 3) := by decide +kernel
theorem dX5_dynamic_86 : decode cX5_dynamic 86 = .ok (.aload 5, 2) := by decide +kernel
theorem dX5_dynamic_88 : decode cX5_dynamic 88 = .ok (.getfield 98, 3) := by decide +kernel
theorem dX5_dynamic_91 : decode cX5_dynamic 91 = .ok (.iload_n 3, 1) := by decide +kernel
theorem dX5_dynamic_92 : decode cX5_dynamic 92 = .ok (.iadd, 1) := by decide +kernel
theorem dX5_dynamic_93 : decode cX5_dynamic 93 = .ok (.bipush 8, 2) := by decide +kernel
theorem dX5_dynamic_95 : decode cX5_dynamic 95 = .ok (.if_icmp .le 6, 3) := by decide +kernel
theorem dX5_dynamic_98 : decode cX5_dynamic 98 = .ok (.bipush (-4), 2) := by decide +kernel
theorem dX5_dynamic_100 : decode cX5_dynamic 100 = .ok (.ireturn, 1) := by decide +kernel
theorem dX5_dynamic_101 : decode cX5_dynamic 101 = .ok (.aload 5, 2) := by decide +kernel
theorem dX5_dynamic_103 : decode cX5_dynamic 103 = .ok (.ifnonnull 23, 3) := by decide +kernel
theorem dX5_dynamic_106 : decode cX5_dynamic 106 = .ok (.new 9, 3) := by decide +kernel
theorem dX5_dynamic_109 : decode cX5_dynamic 109 = .ok (.dup, 1) := by decide +kernel
theorem dX5_dynamic_110 : decode cX5_dynamic 110 = .ok (.iload_n 1, 1) := by decide +kernel
theorem dX5_dynamic_111 : decode cX5_dynamic 111 = .ok (.iconst 0, 1) := by decide +kernel
theorem dX5_dynamic_112 : decode cX5_dynamic 112 = .ok (.iconst 1, 1) := by decide +kernel
theorem dX5_dynamic_113 : decode cX5_dynamic 113 = .ok (.iconst 0, 1) := by decide +kernel
theorem dX5_dynamic_114 : decode cX5_dynamic 114 = .ok (.iconst 1, 1) := by decide +kernel
theorem dX5_dynamic_115 : decode cX5_dynamic 115 = .ok (.invokespecial 91, 3) := by decide +kernel
theorem dX5_dynamic_118 : decode cX5_dynamic 118 = .ok (.astore 5, 2) := by decide +kernel
theorem dX5_dynamic_120 : decode cX5_dynamic 120 = .ok (.aload_n 0, 1) := by decide +kernel
theorem dX5_dynamic_121 : decode cX5_dynamic 121 = .ok (.aload 5, 2) := by decide +kernel
theorem dX5_dynamic_123 : decode cX5_dynamic 123 = .ok (.invokevirtual 94, 3) := by decide +kernel
theorem dX5_dynamic_126 : decode cX5_dynamic 126 = .ok (.aload 5, 2) := by decide +kernel
theorem dX5_dynamic_128 : decode cX5_dynamic 128 = .ok (.aload 4, 2) := by decide +kernel
theorem dX5_dynamic_130 : decode cX5_dynamic 130 = .ok (.iload_n 3, 1) := by decide +kernel
theorem dX5_dynamic_131 : decode cX5_dynamic 131 = .ok (.invokevirtual 104, 3) := by decide +kernel
theorem dX5_dynamic_134 : decode cX5_dynamic 134 = .ok (.aload 5, 2) := by decide +kernel
theorem dX5_dynamic_136 : decode cX5_dynamic 136 = .ok (.getfield 98, 3) := by decide +kernel
theorem dX5_dynamic_139 : decode cX5_dynamic 139 = .ok (.ireturn, 1) := by decide +kernel
theorem dX5_routine_0 : decode cX5_routine 0 = .ok (.iload_n 1, 1) := by decide +kernel
theorem dX5_routine_1 : decode cX5_routine 1 = .ok (.iconst 0, 1) := by decide +kernel
theorem dX5_routine_2 : decode cX5_routine 2 = .ok (.ldc 78, 2) := by decide +kernel
theorem dX5_routine_4 : decode cX5_routine 4 = .ok (.invokestatic 79, 3) := by decide +kernel
theorem dX5_routine_7 : decode cX5_routine 7 = .ok (.ifCond .eq 13, 3) := by decide +kernel
theorem dX5_routine_10 : decode cX5_routine 10 = .ok (.iload_n 2, 1) := by decide +kernel
theorem dX5_routine_11 : decode cX5_routine 11 = .ok (.iconst 0, 1) := by decide +kernel
theorem dX5_routine_12 : decode cX5_routine 12 = .ok (.bipush 100, 2) := by decide +kernel
theorem dX5_routine_14 : decode cX5_routine 14 = .ok (.invokestatic 79, 3) := by decide +kernel
theorem dX5_routine_17 : decode cX5_routine 17 = .ok (.ifCond .ne 6, 3) := by decide +kernel
theorem dX5_routine_20 : decode cX5_routine 20 = .ok (.bipush (-2), 2) := by decide +kernel
theorem dX5_routine_22 : decode cX5_routine 22 = .ok (.ireturn, 1) := by decide +kernel
theorem dX5_routine_23 : decode cX5_routine 23 = .ok (.aload_n 0, 1) := by decide +kernel
theorem dX5_routine_24 : decode cX5_routine 24 = .ok (.iload_n 1, 1) := by decide +kernel
theorem dX5_routine_25 : decode cX5_routine 25 = .ok (.invokevirtual 108, 3) := by decide +kernel
theorem dX5_routine_28 : decode cX5_routine 28 = .ok (.ifnull 6, 3) := by decide +kernel
theorem dX5_routine_31 : decode cX5_routine 31 = .ok (.bipush (-3), 2) := by decide +kernel
theorem dX5_routine_33 : decode cX5_routine 33 = .ok (.ireturn, 1) := by decide +kernel
theorem dX5_routine_34 : decode cX5_routine 34 = .ok (.aload_n 0, 1) := by decide +kernel
theorem dX5_routine_35 : decode cX5_routine 35 = .ok (.getfield 25, 3) := by decide +kernel
theorem dX5_routine_38 : decode cX5_routine 38 = .ok (.aload_n 0, 1) := by decide +kernel
theorem dX5_routine_39 : decode cX5_routine 39 = .ok (.getfield 21, 3) := by decide +kernel
theorem dX5_routine_42 : decode cX5_routine 42 = .ok (.arraylength, 1) := by decide +kernel
theorem dX5_routine_43 : decode cX5_routine 43 = .ok (.if_icmp .lt 6, 3) := by decide +kernel
theorem dX5_routine_46 : decode cX5_routine 46 = .ok (.bipush (-4), 2) := by decide +kernel
theorem dX5_routine_48 : decode cX5_routine 48 = .ok (.ireturn, 1) := by decide +kernel
theorem dX5_routine_49 : decode cX5_routine 49 = .ok (.aload_n 0, 1) := by decide +kernel
theorem dX5_routine_50 : decode cX5_routine 50 = .ok (.getfield 21, 3) := by decide +kernel
theorem dX5_routine_53 : decode cX5_routine 53 = .ok (.aload_n 0, 1) := by decide +kernel
theorem dX5_routine_54 : decode cX5_routine 54 = .ok (.getfield 25, 3) := by decide +kernel
theorem dX5_routine_57 : decode cX5_routine 57 = .ok (.new 19, 3) := by decide +kernel
theorem dX5_routine_60 : decode cX5_routine 60 = .ok (.dup, 1) := by decide +kernel
theorem dX5_routine_61 : decode cX5_routine 61 = .ok (.iload_n 1, 1) := by decide +kernel
theorem dX5_routine_62 : decode cX5_routine 62 = .ok (.iload_n 2, 1) := by decide +kernel
theorem dX5_routine_63 : decode cX5_routine 63 = .ok (.invokespecial 112, 3) := by decide +kernel
theorem dX5_routine_66 : decode cX5_routine 66 = .ok (.aastore, 1) := by decide +kernel
theorem dX5_routine_67 : decode cX5_routine 67 = .ok (.aload_n 0, 1) := by decide +kernel
theorem dX5_routine_68 : decode cX5_routine 68 = .ok (.dup, 1) := by decide +kernel
theorem dX5_routine_69 : decode cX5_routine 69 = .ok (.getfield 25, 3) := by decide +kernel
theorem dX5_routine_72 : decode cX5_routine 72 = .ok (.iconst 1, 1) := by decide +kernel
theorem dX5_routine_73 : decode cX5_routine 73 = .ok (.iadd, 1) := by decide +kernel
theorem dX5_routine_74 : decode cX5_routine 74 = .ok (.putfield 25, 3) := by decide +kernel
theorem dX5_routine_77 : decode cX5_routine 77 = .ok (.aload_n 0, 1) := by decide +kernel
theorem dX5_routine_78 : decode cX5_routine 78 = .ok (.getfield 25, 3) := by decide +kernel
theorem dX5_routine_81 : decode cX5_routine 81 = .ok (.ireturn, 1) := by decide +kernel
theorem dX5_condition_0 : decode cX5_condition 0 = .ok (.iload_n 1, 1) := by decide +kernel
theorem dX5_condition_1 : decode cX5_condition 1 = .ok (.ifCond .ne 11, 3) := by decide +kernel
theorem dX5_condition_4 : decode cX5_condition 4 = .ok (.aload_n 0, 1) := by decide +kernel
theorem dX5_condition_5 : decode cX5_condition 5 = .ok (.iload_n 2, 1) := by decide +kernel
theorem dX5_condition_6 : decode cX5_condition 6 = .ok (.putfield 28, 3) := by decide +kernel
theorem dX5_condition_9 : decode cX5_condition 9 = .ok (.goto 18, 3) := by decide +kernel
theorem dX5_condition_12 : decode cX5_condition 12 = .ok (.iload_n 1, 1) := by decide +kernel
theorem dX5_condition_13 : decode cX5_condition 13 = .ok (.iconst 1, 1) := by decide +kernel
theorem dX5_condition_14 : decode cX5_condition 14 = .ok (.if_icmp .ne 11, 3) := by decide +kernel
theorem dX5_condition_17 : decode cX5_condition 17 = .ok (.aload_n 0, 1) := by decide +kernel
theorem dX5_condition_18 : decode cX5_condition 18 = .ok (.iload_n 2, 1) := by decide +kernel
theorem dX5_condition_19 : decode cX5_condition 19 = .ok (.putfield 32, 3) := by decide +kernel
theorem dX5_condition_22 : decode cX5_condition 22 = .ok (.goto 5, 3) := by decide +kernel
theorem dX5_condition_25 : decode cX5_condition 25 = .ok (.iconst (-1), 1) := by decide +kernel
theorem dX5_condition_26 : decode cX5_condition 26 = .ok (.ireturn, 1) := by decide +kernel
theorem dX5_condition_27 : decode cX5_condition 27 = .ok (.aload_n 0, 1) := by decide +kernel
theorem dX5_condition_28 : decode cX5_condition 28 = .ok (.getfield 28, 3) := by decide +kernel
theorem dX5_condition_31 : decode cX5_condition 31 = .ok (.ifCond .eq 14, 3) := by decide +kernel
theorem dX5_condition_34 : decode cX5_condition 34 = .ok (.aload_n 0, 1) := by decide +kernel
theorem dX5_condition_35 : decode cX5_condition 35 = .ok (.getfield 32, 3) := by decide +kernel
theorem dX5_condition_38 : decode cX5_condition 38 = .ok (.ifCond .eq 7, 3) := by decide +kernel
theorem dX5_condition_41 : decode cX5_condition 41 = .ok (.iconst 1, 1) := by decide +kernel
theorem dX5_condition_42 : decode cX5_condition 42 = .ok (.goto 4, 3) := by decide +kernel
theorem dX5_condition_45 : decode cX5_condition 45 = .ok (.iconst 0, 1) := by decide +kernel
theorem dX5_condition_46 : decode cX5_condition 46 = .ok (.ireturn, 1) := by decide +kernel
theorem dX5_rights_0 : decode cX5_rights 0 = .ok (.iload_n 1, 1) := by decide +kernel
theorem dX5_rights_1 : decode cX5_rights 1 = .ok (.iconst 0, 1) := by decide +kernel
theorem dX5_rights_2 : decode cX5_rights 2 = .ok (.iconst 3, 1) := by decide +kernel
theorem dX5_rights_3 : decode cX5_rights 3 = .ok (.invokestatic 79, 3) := by decide +kernel
theorem dX5_rights_6 : decode cX5_rights 6 = .ok (.ifCond .ne 6, 3) := by decide +kernel
theorem dX5_rights_9 : decode cX5_rights 9 = .ok (.bipush (-2), 2) := by decide +kernel
theorem dX5_rights_11 : decode cX5_rights 11 = .ok (.ireturn, 1) := by decide +kernel
theorem dX5_rights_12 : decode cX5_rights 12 = .ok (.aload_n 0, 1) := by decide +kernel
theorem dX5_rights_13 : decode cX5_rights 13 = .ok (.getfield 38, 3) := by decide +kernel
theorem dX5_rights_16 : decode cX5_rights 16 = .ok (.istore_n 2, 1) := by decide +kernel
theorem dX5_rights_17 : decode cX5_rights 17 = .ok (.aload_n 0, 1) := by decide +kernel
theorem dX5_rights_18 : decode cX5_rights 18 = .ok (.iload_n 1, 1) := by decide +kernel
theorem dX5_rights_19 : decode cX5_rights 19 = .ok (.putfield 38, 3) := by decide +kernel
theorem dX5_rights_22 : decode cX5_rights 22 = .ok (.iload_n 2, 1) := by decide +kernel
theorem dX5_rights_23 : decode cX5_rights 23 = .ok (.ireturn, 1) := by decide +kernel
theorem dX5_control_0 : decode cX5_control 0 = .ok (.aload_n 0, 1) := by decide +kernel
theorem dX5_control_1 : decode cX5_control 1 = .ok (.iload_n 1, 1) := by decide +kernel
theorem dX5_control_2 : decode cX5_control 2 = .ok (.invokevirtual 83, 3) := by decide +kernel
theorem dX5_control_5 : decode cX5_control 5 = .ok (.astore 5, 2) := by decide +kernel
theorem dX5_control_7 : decode cX5_control 7 = .ok (.aload 5, 2) := by decide +kernel
theorem dX5_control_9 : decode cX5_control 9 = .ok (.ifnonnull 5, 3) := by decide +kernel
theorem dX5_control_12 : decode cX5_control 12 = .ok (.iconst (-1), 1) := by decide +kernel
theorem dX5_control_13 : decode cX5_control 13 = .ok (.ireturn, 1) := by decide +kernel
theorem dX5_control_14 : decode cX5_control 14 = .ok (.iload_n 2, 1) := by decide +kernel
theorem dX5_control_15 : decode cX5_control 15 = .ok (.iconst 0, 1) := by decide +kernel
theorem dX5_control_16 : decode cX5_control 16 = .ok (.iconst 1, 1) := by decide +kernel
theorem dX5_control_17 : decode cX5_control 17 = .ok (.invokestatic 79, 3) := by decide +kernel
theorem dX5_control_20 : decode cX5_control 20 = .ok (.ifCond .ne 6, 3) := by decide +kernel
theorem dX5_control_23 : decode cX5_control 23 = .ok (.bipush (-2), 2) := by decide +kernel
theorem dX5_control_25 : decode cX5_control 25 = .ok (.ireturn, 1) := by decide +kernel
theorem dX5_control_26 : decode cX5_control 26 = .ok (.aload 5, 2) := by decide +kernel
theorem dX5_control_28 : decode cX5_control 28 = .ok (.getfield 101, 3) := by decide +kernel
theorem dX5_control_31 : decode cX5_control 31 = .ok (.ifCond .eq 6, 3) := by decide +kernel
theorem dX5_control_34 : decode cX5_control 34 = .ok (.bipush (-3), 2) := by decide +kernel
theorem dX5_control_36 : decode cX5_control 36 = .ok (.ireturn, 1) := by decide +kernel
theorem dX5_control_37 : decode cX5_control 37 = .ok (.iload_n 2, 1) := by decide +kernel
theorem dX5_control_38 : decode cX5_control 38 = .ok (.ifCond .ne 12, 3) := by decide +kernel
theorem dX5_control_41 : decode cX5_control 41 = .ok (.aload 5, 2) := by decide +kernel
theorem dX5_control_43 : decode cX5_control 43 = .ok (.lload_n 3, 1) := by decide +kernel
theorem dX5_control_44 : decode cX5_control 44 = .ok (.putfield 115, 3) := by decide +kernel
theorem dX5_control_47 : decode cX5_control 47 = .ok (.goto 19, 3) := by decide +kernel
theorem dX5_control_50 : decode cX5_control 50 = .ok (.aload 5, 2) := by decide +kernel
theorem dX5_control_52 : decode cX5_control 52 = .ok (.lload_n 3, 1) := by decide +kernel
theorem dX5_control_53 : decode cX5_control 53 = .ok (.lconst 0, 1) := by decide +kernel
theorem dX5_control_54 : decode cX5_control 54 = .ok (.lcmp, 1) := by decide +kernel
theorem dX5_control_55 : decode cX5_control 55 = .ok (.ifCond .eq 7, 3) := by decide +kernel
theorem dX5_control_58 : decode cX5_control 58 = .ok (.iconst 1, 1) := by decide +kernel
theorem dX5_control_59 : decode cX5_control 59 = .ok (.goto 4, 3) := by decide +kernel
theorem dX5_control_62 : decode cX5_control 62 = .ok (.iconst 0, 1) := by decide +kernel
theorem dX5_control_63 : decode cX5_control 63 = .ok (.putfield 118, 3) := by decide +kernel
theorem dX5_control_66 : decode cX5_control 66 = .ok (.iconst 1, 1) := by decide +kernel
theorem dX5_control_67 : decode cX5_control 67 = .ok (.ireturn, 1) := by decide +kernel
theorem dX5_pending_0 : decode cX5_pending 0 = .ok (.iload_n 1, 1) := by decide +kernel
theorem dX5_pending_1 : decode cX5_pending 1 = .ok (.iconst 0, 1) := by decide +kernel
theorem dX5_pending_2 : decode cX5_pending 2 = .ok (.bipush 10, 2) := by decide +kernel
theorem dX5_pending_4 : decode cX5_pending 4 = .ok (.invokestatic 79, 3) := by decide +kernel
theorem dX5_pending_7 : decode cX5_pending 7 = .ok (.ifCond .ne 6, 3) := by decide +kernel
theorem dX5_pending_10 : decode cX5_pending 10 = .ok (.bipush (-2), 2) := by decide +kernel
theorem dX5_pending_12 : decode cX5_pending 12 = .ok (.ireturn, 1) := by decide +kernel
theorem dX5_pending_13 : decode cX5_pending 13 = .ok (.aload_n 0, 1) := by decide +kernel
theorem dX5_pending_14 : decode cX5_pending 14 = .ok (.getfield 41, 3) := by decide +kernel
theorem dX5_pending_17 : decode cX5_pending 17 = .ok (.istore_n 2, 1) := by decide +kernel
theorem dX5_pending_18 : decode cX5_pending 18 = .ok (.aload_n 0, 1) := by decide +kernel
theorem dX5_pending_19 : decode cX5_pending 19 = .ok (.iload_n 1, 1) := by decide +kernel
theorem dX5_pending_20 : decode cX5_pending 20 = .ok (.putfield 41, 3) := by decide +kernel
theorem dX5_pending_23 : decode cX5_pending 23 = .ok (.iload_n 2, 1) := by decide +kernel
theorem dX5_pending_24 : decode cX5_pending 24 = .ok (.ireturn, 1) := by decide +kernel
theorem dX5_ask_0 : decode cX5_ask 0 = .ok (.aload_n 0, 1) := by decide +kernel
theorem dX5_ask_1 : decode cX5_ask 1 = .ok (.getfield 57, 3) := by decide +kernel
theorem dX5_ask_4 : decode cX5_ask 4 = .ok (.iload_n 1, 1) := by decide +kernel
theorem dX5_ask_5 : decode cX5_ask 5 = .ok (.invokevirtual 121, 3) := by decide +kernel
theorem dX5_ask_8 : decode cX5_ask 8 = .ok (.aload_n 0, 1) := by decide +kernel
theorem dX5_ask_9 : decode cX5_ask 9 = .ok (.getfield 57, 3) := by decide +kernel
theorem dX5_ask_12 : decode cX5_ask 12 = .ok (.invokevirtual 125, 3) := by decide +kernel
theorem dX5_ask_15 : decode cX5_ask 15 = .ok (.ifCond .ne 5, 3) := by decide +kernel
theorem dX5_ask_18 : decode cX5_ask 18 = .ok (.iconst 0, 1) := by decide +kernel
theorem dX5_ask_19 : decode cX5_ask 19 = .ok (.ireturn, 1) := by decide +kernel
theorem dX5_ask_20 : decode cX5_ask 20 = .ok (.aload_n 0, 1) := by decide +kernel
theorem dX5_ask_21 : decode cX5_ask 21 = .ok (.aload_n 0, 1) := by decide +kernel
theorem dX5_ask_22 : decode cX5_ask 22 = .ok (.getfield 57, 3) := by decide +kernel
theorem dX5_ask_25 : decode cX5_ask 25 = .ok (.invokevirtual 128, 3) := by decide +kernel
theorem dX5_ask_28 : decode cX5_ask 28 = .ok (.aload_n 0, 1) := by decide +kernel
theorem dX5_ask_29 : decode cX5_ask 29 = .ok (.getfield 67, 3) := by decide +kernel
theorem dX5_ask_32 : decode cX5_ask 32 = .ok (.getfield 132, 3) := by decide +kernel
theorem dX5_ask_35 : decode cX5_ask 35 = .ok (.ireturn, 1) := by decide +kernel
theorem dX5_answer_0 : decode cX5_answer 0 = .ok (.aload_n 0, 1) := by decide +kernel
theorem dX5_answer_1 : decode cX5_answer 1 = .ok (.getfield 67, 3) := by decide +kernel
theorem dX5_answer_4 : decode cX5_answer 4 = .ok (.iload_n 1, 1) := by decide +kernel
theorem dX5_answer_5 : decode cX5_answer 5 = .ok (.invokevirtual 133, 3) := by decide +kernel
theorem dX5_answer_8 : decode cX5_answer 8 = .ok (.ifCond .ne 13, 3) := by decide +kernel
theorem dX5_answer_11 : decode cX5_answer 11 = .ok (.new 137, 3) := by decide +kernel
theorem dX5_answer_14 : decode cX5_answer 14 = .ok (.dup, 1) := by decide +kernel
theorem dX5_answer_15 : decode cX5_answer 15 = .ok (.ldc 139, 2) := by decide +kernel
theorem dX5_answer_17 : decode cX5_answer 17 = .ok (.invokespecial 141, 3) := by decide +kernel
theorem dX5_answer_20 : decode cX5_answer 20 = .ok (.athrow, 1) := by decide +kernel
theorem dX5_answer_21 : decode cX5_answer 21 = .ok (.aload_n 0, 1) := by decide +kernel
theorem dX5_answer_22 : decode cX5_answer 22 = .ok (.getfield 67, 3) := by decide +kernel
theorem dX5_answer_25 : decode cX5_answer 25 = .ok (.iload_n 1, 1) := by decide +kernel
theorem dX5_answer_26 : decode cX5_answer 26 = .ok (.invokevirtual 144, 3) := by decide +kernel
theorem dX5_answer_29 : decode cX5_answer 29 = .ok (.ireturn, 1) := by decide +kernel
theorem dX5_code_0 : decode cX5_code 0 = .ok (.aload_n 0, 1) := by decide +kernel
theorem dX5_code_1 : decode cX5_code 1 = .ok (.getfield 51, 3) := by decide +kernel
theorem dX5_code_4 : decode cX5_code 4 = .ok (.ireturn, 1) := by decide +kernel
theorem dX5_transfer_0 : decode cX5_transfer 0 = .ok (.aload_n 0, 1) := by decide +kernel
theorem dX5_transfer_1 : decode cX5_transfer 1 = .ok (.getfield 74, 3) := by decide +kernel
theorem dX5_transfer_4 : decode cX5_transfer 4 = .ok (.getfield 148, 3) := by decide +kernel
theorem dX5_transfer_7 : decode cX5_transfer 7 = .ok (.istore_n 3, 1) := by decide +kernel
theorem dX5_transfer_8 : decode cX5_transfer 8 = .ok (.aload_n 0, 1) := by decide +kernel
theorem dX5_transfer_9 : decode cX5_transfer 9 = .ok (.getfield 61, 3) := by decide +kernel
theorem dX5_transfer_12 : decode cX5_transfer 12 = .ok (.iconst 3, 1) := by decide +kernel
theorem dX5_transfer_13 : decode cX5_transfer 13 = .ok (.invokevirtual 121, 3) := by decide +kernel
theorem dX5_transfer_16 : decode cX5_transfer 16 = .ok (.aload_n 0, 1) := by decide +kernel
theorem dX5_transfer_17 : decode cX5_transfer 17 = .ok (.getfield 61, 3) := by decide +kernel
theorem dX5_transfer_20 : decode cX5_transfer 20 = .ok (.bipush 54, 2) := by decide +kernel
theorem dX5_transfer_22 : decode cX5_transfer 22 = .ok (.invokevirtual 121, 3) := by decide +kernel
theorem dX5_transfer_25 : decode cX5_transfer 25 = .ok (.aload_n 0, 1) := by decide +kernel
theorem dX5_transfer_26 : decode cX5_transfer 26 = .ok (.getfield 61, 3) := by decide +kernel
theorem dX5_transfer_29 : decode cX5_transfer 29 = .ok (.iload_n 1, 1) := by decide +kernel
theorem dX5_transfer_30 : decode cX5_transfer 30 = .ok (.i2b, 1) := by decide +kernel
theorem dX5_transfer_31 : decode cX5_transfer 31 = .ok (.invokevirtual 121, 3) := by decide +kernel
theorem dX5_transfer_34 : decode cX5_transfer 34 = .ok (.aload_n 0, 1) := by decide +kernel
theorem dX5_transfer_35 : decode cX5_transfer 35 = .ok (.getfield 61, 3) := by decide +kernel
theorem dX5_transfer_38 : decode cX5_transfer 38 = .ok (.iload_n 2, 1) := by decide +kernel
theorem dX5_transfer_39 : decode cX5_transfer 39 = .ok (.invokevirtual 121, 3) := by decide +kernel
theorem dX5_transfer_42 : decode cX5_transfer 42 = .ok (.aload_n 0, 1) := by decide +kernel
theorem dX5_transfer_43 : decode cX5_transfer 43 = .ok (.aload_n 0, 1) := by decide +kernel
theorem dX5_transfer_44 : decode cX5_transfer 44 = .ok (.getfield 61, 3) := by decide +kernel
theorem dX5_transfer_47 : decode cX5_transfer 47 = .ok (.invokevirtual 128, 3) := by decide +kernel
theorem dX5_transfer_50 : decode cX5_transfer 50 = .ok (.aload_n 0, 1) := by decide +kernel
theorem dX5_transfer_51 : decode cX5_transfer 51 = .ok (.getfield 51, 3) := by decide +kernel
theorem dX5_transfer_54 : decode cX5_transfer 54 = .ok (.ifCond .eq 9, 3) := by decide +kernel
theorem dX5_transfer_57 : decode cX5_transfer 57 = .ok (.aload_n 0, 1) := by decide +kernel
theorem dX5_transfer_58 : decode cX5_transfer 58 = .ok (.getfield 51, 3) := by decide +kernel
theorem dX5_transfer_61 : decode cX5_transfer 61 = .ok (.ineg, 1) := by decide +kernel
theorem dX5_transfer_62 : decode cX5_transfer 62 = .ok (.ireturn, 1) := by decide +kernel
theorem dX5_transfer_63 : decode cX5_transfer 63 = .ok (.aload_n 0, 1) := by decide +kernel
theorem dX5_transfer_64 : decode cX5_transfer 64 = .ok (.getfield 74, 3) := by decide +kernel
theorem dX5_transfer_67 : decode cX5_transfer 67 = .ok (.getfield 148, 3) := by decide +kernel
theorem dX5_transfer_70 : decode cX5_transfer 70 = .ok (.iload_n 3, 1) := by decide +kernel
theorem dX5_transfer_71 : decode cX5_transfer 71 = .ok (.if_icmp .ge 7, 3) := by decide +kernel
theorem dX5_transfer_74 : decode cX5_transfer 74 = .ok (.iconst 1, 1) := by decide +kernel
theorem dX5_transfer_75 : decode cX5_transfer 75 = .ok (.goto 4, 3) := by decide +kernel
theorem dX5_transfer_78 : decode cX5_transfer 78 = .ok (.iconst 2, 1) := by decide +kernel
theorem dX5_transfer_79 : decode cX5_transfer 79 = .ok (.ireturn, 1) := by decide +kernel
theorem dX5_tick_0 : decode cX5_tick 0 = .ok (.lload_n 1, 1) := by decide +kernel
theorem dX5_tick_1 : decode cX5_tick 1 = .ok (.aload_n 0, 1) := by decide +kernel
theorem dX5_tick_2 : decode cX5_tick 2 = .ok (.getfield 44, 3) := by decide +kernel
theorem dX5_tick_5 : decode cX5_tick 5 = .ok (.lcmp, 1) := by decide +kernel
theorem dX5_tick_6 : decode cX5_tick 6 = .ok (.ifCond .lt 11, 3) := by decide +kernel
theorem dX5_tick_9 : decode cX5_tick 9 = .ok (.lload_n 1, 1) := by decide +kernel
theorem dX5_tick_10 : decode cX5_tick 10 = .ok (.ldc2_w 151, 3) := by decide +kernel
theorem dX5_tick_13 : decode cX5_tick 13 = .ok (.lcmp, 1) := by decide +kernel
theorem dX5_tick_14 : decode cX5_tick 14 = .ok (.ifCond .le 6, 3) := by decide +kernel
theorem dX5_tick_17 : decode cX5_tick 17 = .ok (.bipush (-2), 2) := by decide +kernel
theorem dX5_tick_19 : decode cX5_tick 19 = .ok (.ireturn, 1) := by decide +kernel
theorem dX5_tick_20 : decode cX5_tick 20 = .ok (.aload_n 0, 1) := by decide +kernel
theorem dX5_tick_21 : decode cX5_tick 21 = .ok (.lload_n 1, 1) := by decide +kernel
theorem dX5_tick_22 : decode cX5_tick 22 = .ok (.putfield 44, 3) := by decide +kernel
theorem dX5_tick_25 : decode cX5_tick 25 = .ok (.iconst 0, 1) := by decide +kernel
theorem dX5_tick_26 : decode cX5_tick 26 = .ok (.istore_n 3, 1) := by decide +kernel
theorem dX5_tick_27 : decode cX5_tick 27 = .ok (.iload_n 3, 1) := by decide +kernel
theorem dX5_tick_28 : decode cX5_tick 28 = .ok (.aload_n 0, 1) := by decide +kernel
theorem dX5_tick_29 : decode cX5_tick 29 = .ok (.getfield 21, 3) := by decide +kernel
theorem dX5_tick_32 : decode cX5_tick 32 = .ok (.arraylength, 1) := by decide +kernel
theorem dX5_tick_33 : decode cX5_tick 33 = .ok (.if_icmp .ge 27, 3) := by decide +kernel
theorem dX5_tick_36 : decode cX5_tick 36 = .ok (.aload_n 0, 1) := by decide +kernel
theorem dX5_tick_37 : decode cX5_tick 37 = .ok (.getfield 21, 3) := by decide +kernel
theorem dX5_tick_40 : decode cX5_tick 40 = .ok (.iload_n 3, 1) := by decide +kernel
theorem dX5_tick_41 : decode cX5_tick 41 = .ok (.aaload, 1) := by decide +kernel
theorem dX5_tick_42 : decode cX5_tick 42 = .ok (.astore 4, 2) := by decide +kernel
theorem dX5_tick_44 : decode cX5_tick 44 = .ok (.aload 4, 2) := by decide +kernel
theorem dX5_tick_46 : decode cX5_tick 46 = .ok (.ifnull 8, 3) := by decide +kernel
theorem dX5_tick_49 : decode cX5_tick 49 = .ok (.aload 4, 2) := by decide +kernel
theorem dX5_tick_51 : decode cX5_tick 51 = .ok (.invokevirtual 153, 3) := by decide +kernel
theorem dX5_tick_54 : decode cX5_tick 54 = .ok (.iinc 3 1, 3) := by decide +kernel
theorem dX5_tick_57 : decode cX5_tick 57 = .ok (.goto (-30), 3) := by decide +kernel
theorem dX5_tick_60 : decode cX5_tick 60 = .ok (.aload_n 0, 1) := by decide +kernel
theorem dX5_tick_61 : decode cX5_tick 61 = .ok (.getfield 35, 3) := by decide +kernel
theorem dX5_tick_64 : decode cX5_tick 64 = .ok (.iconst 1, 1) := by decide +kernel
theorem dX5_tick_65 : decode cX5_tick 65 = .ok (.if_icmp .eq 16, 3) := by decide +kernel
theorem dX5_tick_68 : decode cX5_tick 68 = .ok (.lload_n 1, 1) := by decide +kernel
theorem dX5_tick_69 : decode cX5_tick 69 = .ok (.aload_n 0, 1) := by decide +kernel
theorem dX5_tick_70 : decode cX5_tick 70 = .ok (.getfield 48, 3) := by decide +kernel
theorem dX5_tick_73 : decode cX5_tick 73 = .ok (.lsub, 1) := by decide +kernel
theorem dX5_tick_74 : decode cX5_tick 74 = .ok (.ldc2_w 156, 3) := by decide +kernel
theorem dX5_tick_77 : decode cX5_tick 77 = .ok (.lcmp, 1) := by decide +kernel
theorem dX5_tick_78 : decode cX5_tick 78 = .ok (.ifCond .ge 5, 3) := by decide +kernel
theorem dX5_tick_81 : decode cX5_tick 81 = .ok (.iconst 0, 1) := by decide +kernel
theorem dX5_tick_82 : decode cX5_tick 82 = .ok (.ireturn, 1) := by decide +kernel
theorem dX5_tick_83 : decode cX5_tick 83 = .ok (.aload_n 0, 1) := by decide +kernel
theorem dX5_tick_84 : decode cX5_tick 84 = .ok (.iconst 1, 1) := by decide +kernel
theorem dX5_tick_85 : decode cX5_tick 85 = .ok (.invokevirtual 158, 3) := by decide +kernel
theorem dX5_tick_88 : decode cX5_tick 88 = .ok (.iconst 1, 1) := by decide +kernel
theorem dX5_tick_89 : decode cX5_tick 89 = .ok (.ireturn, 1) := by decide +kernel
theorem dX5_value_0 : decode cX5_value 0 = .ok (.aload_n 0, 1) := by decide +kernel
theorem dX5_value_1 : decode cX5_value 1 = .ok (.iload_n 1, 1) := by decide +kernel
theorem dX5_value_2 : decode cX5_value 2 = .ok (.invokevirtual 83, 3) := by decide +kernel
theorem dX5_value_5 : decode cX5_value 5 = .ok (.astore_n 2, 1) := by decide +kernel
theorem dX5_value_6 : decode cX5_value 6 = .ok (.aload_n 2, 1) := by decide +kernel
theorem dX5_value_7 : decode cX5_value 7 = .ok (.ifnonnull 7, 3) := by decide +kernel
theorem dX5_value_10 : decode cX5_value 10 = .ok (.lconst 0, 1) := by decide +kernel
theorem dX5_value_11 : decode cX5_value 11 = .ok (.goto 7, 3) := by decide +kernel
theorem dX5_value_14 : decode cX5_value 14 = .ok (.aload_n 2, 1) := by decide +kernel
theorem dX5_value_15 : decode cX5_value 15 = .ok (.invokevirtual 162, 3) := by decide +kernel
theorem dX5_value_18 : decode cX5_value 18 = .ok (.lreturn, 1) := by decide +kernel
theorem dX5_isWithin_0 : decode cX5_isWithin 0 = .ok (.iload_n 0, 1) := by decide +kernel
theorem dX5_isWithin_1 : decode cX5_isWithin 1 = .ok (.iload_n 1, 1) := by decide +kernel
theorem dX5_isWithin_2 : decode cX5_isWithin 2 = .ok (.if_icmp .lt 12, 3) := by decide +kernel
theorem dX5_isWithin_5 : decode cX5_isWithin 5 = .ok (.iload_n 0, 1) := by decide +kernel
theorem dX5_isWithin_6 : decode cX5_isWithin 6 = .ok (.iload_n 2, 1) := by decide +kernel
theorem dX5_isWithin_7 : decode cX5_isWithin 7 = .ok (.if_icmp .gt 7, 3) := by decide +kernel
theorem dX5_isWithin_10 : decode cX5_isWithin 10 = .ok (.iconst 1, 1) := by decide +kernel
theorem dX5_isWithin_11 : decode cX5_isWithin 11 = .ok (.goto 4, 3) := by decide +kernel
theorem dX5_isWithin_14 : decode cX5_isWithin 14 = .ok (.iconst 0, 1) := by decide +kernel
theorem dX5_isWithin_15 : decode cX5_isWithin 15 = .ok (.ireturn, 1) := by decide +kernel
theorem dX5_findIdentifier_0 : decode cX5_findIdentifier 0 = .ok (.iconst 0, 1) := by decide +kernel
theorem dX5_findIdentifier_1 : decode cX5_findIdentifier 1 = .ok (.istore_n 2, 1) := by decide +kernel
theorem dX5_findIdentifier_2 : decode cX5_findIdentifier 2 = .ok (.iload_n 2, 1) := by decide +kernel
theorem dX5_findIdentifier_3 : decode cX5_findIdentifier 3 = .ok (.aload_n 0, 1) := by decide +kernel
theorem dX5_findIdentifier_4 : decode cX5_findIdentifier 4 = .ok (.getfield 11, 3) := by decide +kernel
theorem dX5_findIdentifier_7 : decode cX5_findIdentifier 7 = .ok (.arraylength, 1) := by decide +kernel
theorem dX5_findIdentifier_8 : decode cX5_findIdentifier 8 = .ok (.if_icmp .ge 30, 3) := by decide +kernel
theorem dX5_findIdentifier_11 : decode cX5_findIdentifier 11 = .ok (.aload_n 0, 1) := by decide +kernel
theorem dX5_findIdentifier_12 : decode cX5_findIdentifier 12 = .ok (.getfield 11, 3) := by decide +kernel
theorem dX5_findIdentifier_15 : decode cX5_findIdentifier 15 = .ok (.iload_n 2, 1) := by decide +kernel
theorem dX5_findIdentifier_16 : decode cX5_findIdentifier 16 = .ok (.aaload, 1) := by decide +kernel
theorem dX5_findIdentifier_17 : decode cX5_findIdentifier 17 = .ok (.astore_n 3, 1) := by decide +kernel
theorem dX5_findIdentifier_18 : decode cX5_findIdentifier 18 = .ok (.aload_n 3, 1) := by decide +kernel
theorem dX5_findIdentifier_19 : decode cX5_findIdentifier 19 = .ok (.ifnull 13, 3) := by decide +kernel
theorem dX5_findIdentifier_22 : decode cX5_findIdentifier 22 = .ok (.aload_n 3, 1) := by decide +kernel
theorem dX5_findIdentifier_23 : decode cX5_findIdentifier 23 = .ok (.getfield 166, 3) := by decide +kernel
theorem dX5_findIdentifier_26 : decode cX5_findIdentifier 26 = .ok (.iload_n 1, 1) := by decide +kernel
theorem dX5_findIdentifier_27 : decode cX5_findIdentifier 27 = .ok (.if_icmp .ne 5, 3) := by decide +kernel
theorem dX5_findIdentifier_30 : decode cX5_findIdentifier 30 = .ok (.aload_n 3, 1) := by decide +kernel
theorem dX5_findIdentifier_31 : decode cX5_findIdentifier 31 = .ok (.areturn, 1) := by decide +kernel
theorem dX5_findIdentifier_32 : decode cX5_findIdentifier 32 = .ok (.iinc 2 1, 3) := by decide +kernel
theorem dX5_findIdentifier_35 : decode cX5_findIdentifier 35 = .ok (.goto (-33), 3) := by decide +kernel
theorem dX5_findIdentifier_38 : decode cX5_findIdentifier 38 = .ok (.aconst_null, 1) := by decide +kernel
theorem dX5_findIdentifier_39 : decode cX5_findIdentifier 39 = .ok (.areturn, 1) := by decide +kernel
theorem dX5_hasRoomForIdentifier_0 : decode cX5_hasRoomForIdentifier 0 = .ok (.aload_n 0, 1) := by decide +kernel
theorem dX5_hasRoomForIdentifier_1 : decode cX5_hasRoomForIdentifier 1 = .ok (.getfield 15, 3) := by decide +kernel
theorem dX5_hasRoomForIdentifier_4 : decode cX5_hasRoomForIdentifier 4 = .ok (.aload_n 0, 1) := by decide +kernel
theorem dX5_hasRoomForIdentifier_5 : decode cX5_hasRoomForIdentifier 5 = .ok (.getfield 11, 3) := by decide +kernel
theorem dX5_hasRoomForIdentifier_8 : decode cX5_hasRoomForIdentifier 8 = .ok (.arraylength, 1) := by decide +kernel
theorem dX5_hasRoomForIdentifier_9 : decode cX5_hasRoomForIdentifier 9 = .ok (.if_icmp .ge 7, 3) := by decide +kernel
theorem dX5_hasRoomForIdentifier_12 : decode cX5_hasRoomForIdentifier 12 = .ok (.iconst 1, 1) := by decide +kernel
theorem dX5_hasRoomForIdentifier_13 : decode cX5_hasRoomForIdentifier 13 = .ok (.goto 4, 3) := by decide +kernel
theorem dX5_hasRoomForIdentifier_16 : decode cX5_hasRoomForIdentifier 16 = .ok (.iconst 0, 1) := by decide +kernel
theorem dX5_hasRoomForIdentifier_17 : decode cX5_hasRoomForIdentifier 17 = .ok (.ireturn, 1) := by decide +kernel
theorem dX5_addIdentifier_0 : decode cX5_addIdentifier 0 = .ok (.aload_n 0, 1) := by decide +kernel
theorem dX5_addIdentifier_1 : decode cX5_addIdentifier 1 = .ok (.invokevirtual 87, 3) := by decide +kernel
theorem dX5_addIdentifier_4 : decode cX5_addIdentifier 4 = .ok (.ifCond .eq 23, 3) := by decide +kernel
theorem dX5_addIdentifier_7 : decode cX5_addIdentifier 7 = .ok (.aload_n 0, 1) := by decide +kernel
theorem dX5_addIdentifier_8 : decode cX5_addIdentifier 8 = .ok (.getfield 11, 3) := by decide +kernel
theorem dX5_addIdentifier_11 : decode cX5_addIdentifier 11 = .ok (.aload_n 0, 1) := by decide +kernel
theorem dX5_addIdentifier_12 : decode cX5_addIdentifier 12 = .ok (.getfield 15, 3) := by decide +kernel
theorem dX5_addIdentifier_15 : decode cX5_addIdentifier 15 = .ok (.aload_n 1, 1) := by decide +kernel
theorem dX5_addIdentifier_16 : decode cX5_addIdentifier 16 = .ok (.aastore, 1) := by decide +kernel
theorem dX5_addIdentifier_17 : decode cX5_addIdentifier 17 = .ok (.aload_n 0, 1) := by decide +kernel
theorem dX5_addIdentifier_18 : decode cX5_addIdentifier 18 = .ok (.dup, 1) := by decide +kernel
theorem dX5_addIdentifier_19 : decode cX5_addIdentifier 19 = .ok (.getfield 15, 3) := by decide +kernel
theorem dX5_addIdentifier_22 : decode cX5_addIdentifier 22 = .ok (.iconst 1, 1) := by decide +kernel
theorem dX5_addIdentifier_23 : decode cX5_addIdentifier 23 = .ok (.iadd, 1) := by decide +kernel
theorem dX5_addIdentifier_24 : decode cX5_addIdentifier 24 = .ok (.putfield 15, 3) := by decide +kernel
theorem dX5_addIdentifier_27 : decode cX5_addIdentifier 27 = .ok (.return_, 1) := by decide +kernel
theorem dX5_findRoutine_0 : decode cX5_findRoutine 0 = .ok (.iconst 0, 1) := by decide +kernel
theorem dX5_findRoutine_1 : decode cX5_findRoutine 1 = .ok (.istore_n 2, 1) := by decide +kernel
theorem dX5_findRoutine_2 : decode cX5_findRoutine 2 = .ok (.iload_n 2, 1) := by decide +kernel
theorem dX5_findRoutine_3 : decode cX5_findRoutine 3 = .ok (.aload_n 0, 1) := by decide +kernel
theorem dX5_findRoutine_4 : decode cX5_findRoutine 4 = .ok (.getfield 21, 3) := by decide +kernel
theorem dX5_findRoutine_7 : decode cX5_findRoutine 7 = .ok (.arraylength, 1) := by decide +kernel
theorem dX5_findRoutine_8 : decode cX5_findRoutine 8 = .ok (.if_icmp .ge 30, 3) := by decide +kernel
theorem dX5_findRoutine_11 : decode cX5_findRoutine 11 = .ok (.aload_n 0, 1) := by decide +kernel
theorem dX5_findRoutine_12 : decode cX5_findRoutine 12 = .ok (.getfield 21, 3) := by decide +kernel
theorem dX5_findRoutine_15 : decode cX5_findRoutine 15 = .ok (.iload_n 2, 1) := by decide +kernel
theorem dX5_findRoutine_16 : decode cX5_findRoutine 16 = .ok (.aaload, 1) := by decide +kernel
theorem dX5_findRoutine_17 : decode cX5_findRoutine 17 = .ok (.astore_n 3, 1) := by decide +kernel
theorem dX5_findRoutine_18 : decode cX5_findRoutine 18 = .ok (.aload_n 3, 1) := by decide +kernel
theorem dX5_findRoutine_19 : decode cX5_findRoutine 19 = .ok (.ifnull 13, 3) := by decide +kernel
theorem dX5_findRoutine_22 : decode cX5_findRoutine 22 = .ok (.aload_n 3, 1) := by decide +kernel
theorem dX5_findRoutine_23 : decode cX5_findRoutine 23 = .ok (.getfield 169, 3) := by decide +kernel
theorem dX5_findRoutine_26 : decode cX5_findRoutine 26 = .ok (.iload_n 1, 1) := by decide +kernel
theorem dX5_findRoutine_27 : decode cX5_findRoutine 27 = .ok (.if_icmp .ne 5, 3) := by decide +kernel
theorem dX5_findRoutine_30 : decode cX5_findRoutine 30 = .ok (.aload_n 3, 1) := by decide +kernel
theorem dX5_findRoutine_31 : decode cX5_findRoutine 31 = .ok (.areturn, 1) := by decide +kernel
theorem dX5_findRoutine_32 : decode cX5_findRoutine 32 = .ok (.iinc 2 1, 3) := by decide +kernel
theorem dX5_findRoutine_35 : decode cX5_findRoutine 35 = .ok (.goto (-33), 3) := by decide +kernel
theorem dX5_findRoutine_38 : decode cX5_findRoutine 38 = .ok (.aconst_null, 1) := by decide +kernel
theorem dX5_findRoutine_39 : decode cX5_findRoutine 39 = .ok (.areturn, 1) := by decide +kernel
theorem dX5_findHere_0 : decode cX5_findHere 0 = .ok (.aload_n 0, 1) := by decide +kernel
theorem dX5_findHere_1 : decode cX5_findHere 1 = .ok (.iload_n 1, 1) := by decide +kernel
theorem dX5_findHere_2 : decode cX5_findHere 2 = .ok (.invokevirtual 83, 3) := by decide +kernel
theorem dX5_findHere_5 : decode cX5_findHere 5 = .ok (.astore_n 2, 1) := by decide +kernel
theorem dX5_findHere_6 : decode cX5_findHere 6 = .ok (.aload_n 2, 1) := by decide +kernel
theorem dX5_findHere_7 : decode cX5_findHere 7 = .ok (.ifnull 14, 3) := by decide +kernel
theorem dX5_findHere_10 : decode cX5_findHere 10 = .ok (.aload_n 2, 1) := by decide +kernel
theorem dX5_findHere_11 : decode cX5_findHere 11 = .ok (.getfield 170, 3) := by decide +kernel
theorem dX5_findHere_14 : decode cX5_findHere 14 = .ok (.aload_n 0, 1) := by decide +kernel
theorem dX5_findHere_15 : decode cX5_findHere 15 = .ok (.getfield 35, 3) := by decide +kernel
theorem dX5_findHere_18 : decode cX5_findHere 18 = .ok (.if_icmp .le 7, 3) := by decide +kernel
theorem dX5_findHere_21 : decode cX5_findHere 21 = .ok (.aconst_null, 1) := by decide +kernel
theorem dX5_findHere_22 : decode cX5_findHere 22 = .ok (.goto 4, 3) := by decide +kernel
theorem dX5_findHere_25 : decode cX5_findHere 25 = .ok (.aload_n 2, 1) := by decide +kernel
theorem dX5_findHere_26 : decode cX5_findHere 26 = .ok (.areturn, 1) := by decide +kernel
theorem dX5_endSession_0 : decode cX5_endSession 0 = .ok (.iconst 0, 1) := by decide +kernel
theorem dX5_endSession_1 : decode cX5_endSession 1 = .ok (.istore_n 2, 1) := by decide +kernel
theorem dX5_endSession_2 : decode cX5_endSession 2 = .ok (.iload_n 2, 1) := by decide +kernel
theorem dX5_endSession_3 : decode cX5_endSession 3 = .ok (.aload_n 0, 1) := by decide +kernel
theorem dX5_endSession_4 : decode cX5_endSession 4 = .ok (.getfield 11, 3) := by decide +kernel
theorem dX5_endSession_7 : decode cX5_endSession 7 = .ok (.arraylength, 1) := by decide +kernel
theorem dX5_endSession_8 : decode cX5_endSession 8 = .ok (.if_icmp .ge 24, 3) := by decide +kernel
theorem dX5_endSession_11 : decode cX5_endSession 11 = .ok (.aload_n 0, 1) := by decide +kernel
theorem dX5_endSession_12 : decode cX5_endSession 12 = .ok (.getfield 11, 3) := by decide +kernel
theorem dX5_endSession_15 : decode cX5_endSession 15 = .ok (.iload_n 2, 1) := by decide +kernel
theorem dX5_endSession_16 : decode cX5_endSession 16 = .ok (.aaload, 1) := by decide +kernel
theorem dX5_endSession_17 : decode cX5_endSession 17 = .ok (.astore_n 3, 1) := by decide +kernel
theorem dX5_endSession_18 : decode cX5_endSession 18 = .ok (.aload_n 3, 1) := by decide +kernel
theorem dX5_endSession_19 : decode cX5_endSession 19 = .ok (.ifnull 7, 3) := by decide +kernel
theorem dX5_endSession_22 : decode cX5_endSession 22 = .ok (.aload_n 3, 1) := by decide +kernel
theorem dX5_endSession_23 : decode cX5_endSession 23 = .ok (.invokevirtual 171, 3) := by decide +kernel
theorem dX5_endSession_26 : decode cX5_endSession 26 = .ok (.iinc 2 1, 3) := by decide +kernel
theorem dX5_endSession_29 : decode cX5_endSession 29 = .ok (.goto (-27), 3) := by decide +kernel
theorem dX5_endSession_32 : decode cX5_endSession 32 = .ok (.aload_n 0, 1) := by decide +kernel
theorem dX5_endSession_33 : decode cX5_endSession 33 = .ok (.getfield 74, 3) := by decide +kernel
theorem dX5_endSession_36 : decode cX5_endSession 36 = .ok (.invokevirtual 174, 3) := by decide +kernel
theorem dX5_endSession_39 : decode cX5_endSession 39 = .ok (.aload_n 0, 1) := by decide +kernel
theorem dX5_endSession_40 : decode cX5_endSession 40 = .ok (.iconst 0, 1) := by decide +kernel
theorem dX5_endSession_41 : decode cX5_endSession 41 = .ok (.putfield 38, 3) := by decide +kernel
theorem dX5_endSession_44 : decode cX5_endSession 44 = .ok (.aload_n 0, 1) := by decide +kernel
theorem dX5_endSession_45 : decode cX5_endSession 45 = .ok (.iload_n 1, 1) := by decide +kernel
theorem dX5_endSession_46 : decode cX5_endSession 46 = .ok (.putfield 35, 3) := by decide +kernel
theorem dX5_endSession_49 : decode cX5_endSession 49 = .ok (.return_, 1) := by decide +kernel
theorem dX5_conclude_0 : decode cX5_conclude 0 = .ok (.aload_n 0, 1) := by decide +kernel
theorem dX5_conclude_1 : decode cX5_conclude 1 = .ok (.getfield 67, 3) := by decide +kernel
theorem dX5_conclude_4 : decode cX5_conclude 4 = .ok (.invokevirtual 177, 3) := by decide +kernel
theorem dX5_conclude_7 : decode cX5_conclude 7 = .ok (.aload_n 0, 1) := by decide +kernel
theorem dX5_conclude_8 : decode cX5_conclude 8 = .ok (.aload_n 0, 1) := by decide +kernel
theorem dX5_conclude_9 : decode cX5_conclude 9 = .ok (.aload_n 1, 1) := by decide +kernel
theorem dX5_conclude_10 : decode cX5_conclude 10 = .ok (.invokevirtual 180, 3) := by decide +kernel
theorem dX5_conclude_13 : decode cX5_conclude 13 = .ok (.putfield 51, 3) := by decide +kernel
theorem dX5_conclude_16 : decode cX5_conclude 16 = .ok (.aload_n 0, 1) := by decide +kernel
theorem dX5_conclude_17 : decode cX5_conclude 17 = .ok (.aload_n 0, 1) := by decide +kernel
theorem dX5_conclude_18 : decode cX5_conclude 18 = .ok (.getfield 44, 3) := by decide +kernel
theorem dX5_conclude_21 : decode cX5_conclude 21 = .ok (.putfield 48, 3) := by decide +kernel
theorem dX5_conclude_24 : decode cX5_conclude 24 = .ok (.aload_n 0, 1) := by decide +kernel
theorem dX5_conclude_25 : decode cX5_conclude 25 = .ok (.getfield 51, 3) := by decide +kernel
theorem dX5_conclude_28 : decode cX5_conclude 28 = .ok (.ifCond .eq 54, 3) := by decide +kernel
theorem dX5_conclude_31 : decode cX5_conclude 31 = .ok (.aload_n 1, 1) := by decide +kernel
theorem dX5_conclude_32 : decode cX5_conclude 32 = .ok (.getfield 184, 3) := by decide +kernel
theorem dX5_conclude_35 : decode cX5_conclude 35 = .ok (.ifCond .eq 13, 3) := by decide +kernel
theorem dX5_conclude_38 : decode cX5_conclude 38 = .ok (.aload_n 0, 1) := by decide +kernel
theorem dX5_conclude_39 : decode cX5_conclude 39 = .ok (.getfield 51, 3) := by decide +kernel
theorem dX5_conclude_42 : decode cX5_conclude 42 = .ok (.invokestatic 187, 3) := by decide +kernel
theorem dX5_conclude_45 : decode cX5_conclude 45 = .ok (.ifCond .ne 51, 3) := by decide +kernel
theorem dX5_conclude_48 : decode cX5_conclude 48 = .ok (.aload_n 0, 1) := by decide +kernel
theorem dX5_conclude_49 : decode cX5_conclude 49 = .ok (.getfield 67, 3) := by decide +kernel
theorem dX5_conclude_52 : decode cX5_conclude 52 = .ok (.bipush 127, 2) := by decide +kernel
theorem dX5_conclude_54 : decode cX5_conclude 54 = .ok (.invokevirtual 190, 3) := by decide +kernel
theorem dX5_conclude_57 : decode cX5_conclude 57 = .ok (.aload_n 0, 1) := by decide +kernel
theorem dX5_conclude_58 : decode cX5_conclude 58 = .ok (.getfield 67, 3) := by decide +kernel
theorem dX5_conclude_61 : decode cX5_conclude 61 = .ok (.aload_n 1, 1) := by decide +kernel
theorem dX5_conclude_62 : decode cX5_conclude 62 = .ok (.invokevirtual 193, 3) := by decide +kernel
theorem dX5_conclude_65 : decode cX5_conclude 65 = .ok (.invokevirtual 190, 3) := by decide +kernel
theorem dX5_conclude_68 : decode cX5_conclude 68 = .ok (.aload_n 0, 1) := by decide +kernel
theorem dX5_conclude_69 : decode cX5_conclude 69 = .ok (.getfield 67, 3) := by decide +kernel
theorem dX5_conclude_72 : decode cX5_conclude 72 = .ok (.aload_n 0, 1) := by decide +kernel
theorem dX5_conclude_73 : decode cX5_conclude 73 = .ok (.getfield 51, 3) := by decide +kernel
theorem dX5_conclude_76 : decode cX5_conclude 76 = .ok (.invokevirtual 190, 3) := by decide +kernel
theorem dX5_conclude_79 : decode cX5_conclude 79 = .ok (.goto 17, 3) := by decide +kernel
theorem dX5_conclude_82 : decode cX5_conclude 82 = .ok (.aload_n 1, 1) := by decide +kernel
theorem dX5_conclude_83 : decode cX5_conclude 83 = .ok (.invokevirtual 197, 3) := by decide +kernel
theorem dX5_conclude_86 : decode cX5_conclude 86 = .ok (.ifCond .eq 10, 3) := by decide +kernel
theorem dX5_conclude_89 : decode cX5_conclude 89 = .ok (.aload_n 0, 1) := by decide +kernel
theorem dX5_conclude_90 : decode cX5_conclude 90 = .ok (.getfield 67, 3) := by decide +kernel
theorem dX5_conclude_93 : decode cX5_conclude 93 = .ok (.invokevirtual 177, 3) := by decide +kernel
theorem dX5_conclude_96 : decode cX5_conclude 96 = .ok (.aload_n 1, 1) := by decide +kernel
theorem dX5_conclude_97 : decode cX5_conclude 97 = .ok (.invokevirtual 200, 3) := by decide +kernel
theorem dX5_conclude_100 : decode cX5_conclude 100 = .ok (.return_, 1) := by decide +kernel
theorem dX5_isKeptFromAll_0 : decode cX5_isKeptFromAll 0 = .ok (.iload_n 0, 1) := by decide +kernel
theorem dX5_isKeptFromAll_1 : decode cX5_isKeptFromAll 1 = .ok (.bipush 17, 2) := by decide +kernel
theorem dX5_isKeptFromAll_3 : decode cX5_isKeptFromAll 3 = .ok (.if_icmp .eq 21, 3) := by decide +kernel
theorem dX5_isKeptFromAll_6 : decode cX5_isKeptFromAll 6 = .ok (.iload_n 0, 1) := by decide +kernel
theorem dX5_isKeptFromAll_7 : decode cX5_isKeptFromAll 7 = .ok (.bipush 18, 2) := by decide +kernel
theorem dX5_isKeptFromAll_9 : decode cX5_isKeptFromAll 9 = .ok (.if_icmp .eq 15, 3) := by decide +kernel
theorem dX5_isKeptFromAll_12 : decode cX5_isKeptFromAll 12 = .ok (.iload_n 0, 1) := by decide +kernel
theorem dX5_isKeptFromAll_13 : decode cX5_isKeptFromAll 13 = .ok (.bipush 49, 2) := by decide +kernel
theorem dX5_isKeptFromAll_15 : decode cX5_isKeptFromAll 15 = .ok (.if_icmp .eq 9, 3) := by decide +kernel
theorem dX5_isKeptFromAll_18 : decode cX5_isKeptFromAll 18 = .ok (.iload_n 0, 1) := by decide +kernel
theorem dX5_isKeptFromAll_19 : decode cX5_isKeptFromAll 19 = .ok (.bipush 127, 2) := by decide +kernel
theorem dX5_isKeptFromAll_21 : decode cX5_isKeptFromAll 21 = .ok (.if_icmp .ne 7, 3) := by decide +kernel
theorem dX5_isKeptFromAll_24 : decode cX5_isKeptFromAll 24 = .ok (.iconst 1, 1) := by decide +kernel
theorem dX5_isKeptFromAll_25 : decode cX5_isKeptFromAll 25 = .ok (.goto 4, 3) := by decide +kernel
theorem dX5_isKeptFromAll_28 : decode cX5_isKeptFromAll 28 = .ok (.iconst 0, 1) := by decide +kernel
theorem dX5_isKeptFromAll_29 : decode cX5_isKeptFromAll 29 = .ok (.ireturn, 1) := by decide +kernel
theorem dX5_serve_0 : decode cX5_serve 0 = .ok (.aload_n 1, 1) := by decide +kernel
theorem dX5_serve_1 : decode cX5_serve 1 = .ok (.invokevirtual 203, 3) := by decide +kernel
theorem dX5_serve_4 : decode cX5_serve 4 = .ok (.ifCond .eq 6, 3) := by decide +kernel
theorem dX5_serve_7 : decode cX5_serve 7 = .ok (.bipush 19, 2) := by decide +kernel
theorem dX5_serve_9 : decode cX5_serve 9 = .ok (.ireturn, 1) := by decide +kernel
theorem dX5_serve_10 : decode cX5_serve 10 = .ok (.aload_n 1, 1) := by decide +kernel
theorem dX5_serve_11 : decode cX5_serve 11 = .ok (.invokevirtual 193, 3) := by decide +kernel
theorem dX5_serve_14 : decode cX5_serve 14 = .ok (.lookupswitch 150 #[(16, 90), (17, 96), (34, 102), (46, 108), (47, 114), (49, 120), (52, 126), (54, 132), (55, 138), (62, 144)], 90) := by decide +kernel
theorem dX5_serve_104 : decode cX5_serve 104 = .ok (.aload_n 0, 1) := by decide +kernel
theorem dX5_serve_105 : decode cX5_serve 105 = .ok (.aload_n 1, 1) := by decide +kernel
theorem dX5_serve_106 : decode cX5_serve 106 = .ok (.invokevirtual 206, 3) := by decide +kernel
theorem dX5_serve_109 : decode cX5_serve 109 = .ok (.ireturn, 1) := by decide +kernel
theorem dX5_serve_110 : decode cX5_serve 110 = .ok (.aload_n 0, 1) := by decide +kernel
theorem dX5_serve_111 : decode cX5_serve 111 = .ok (.aload_n 1, 1) := by decide +kernel
theorem dX5_serve_112 : decode cX5_serve 112 = .ok (.invokevirtual 209, 3) := by decide +kernel
theorem dX5_serve_115 : decode cX5_serve 115 = .ok (.ireturn, 1) := by decide +kernel
theorem dX5_serve_116 : decode cX5_serve 116 = .ok (.aload_n 0, 1) := by decide +kernel
theorem dX5_serve_117 : decode cX5_serve 117 = .ok (.aload_n 1, 1) := by decide +kernel
theorem dX5_serve_118 : decode cX5_serve 118 = .ok (.invokevirtual 212, 3) := by decide +kernel
theorem dX5_serve_121 : decode cX5_serve 121 = .ok (.ireturn, 1) := by decide +kernel
theorem dX5_serve_122 : decode cX5_serve 122 = .ok (.aload_n 0, 1) := by decide +kernel
theorem dX5_serve_123 : decode cX5_serve 123 = .ok (.aload_n 1, 1) := by decide +kernel
theorem dX5_serve_124 : decode cX5_serve 124 = .ok (.invokevirtual 215, 3) := by decide +kernel
theorem dX5_serve_127 : decode cX5_serve 127 = .ok (.ireturn, 1) := by decide +kernel
theorem dX5_serve_128 : decode cX5_serve 128 = .ok (.aload_n 0, 1) := by decide +kernel
theorem dX5_serve_129 : decode cX5_serve 129 = .ok (.aload_n 1, 1) := by decide +kernel
theorem dX5_serve_130 : decode cX5_serve 130 = .ok (.invokevirtual 218, 3) := by decide +kernel
theorem dX5_serve_133 : decode cX5_serve 133 = .ok (.ireturn, 1) := by decide +kernel
theorem dX5_serve_134 : decode cX5_serve 134 = .ok (.aload_n 0, 1) := by decide +kernel
theorem dX5_serve_135 : decode cX5_serve 135 = .ok (.aload_n 1, 1) := by decide +kernel
theorem dX5_serve_136 : decode cX5_serve 136 = .ok (.invokevirtual 221, 3) := by decide +kernel
theorem dX5_serve_139 : decode cX5_serve 139 = .ok (.ireturn, 1) := by decide +kernel
theorem dX5_serve_140 : decode cX5_serve 140 = .ok (.aload_n 0, 1) := by decide +kernel
theorem dX5_serve_141 : decode cX5_serve 141 = .ok (.aload_n 1, 1) := by decide +kernel
theorem dX5_serve_142 : decode cX5_serve 142 = .ok (.invokevirtual 224, 3) := by decide +kernel
theorem dX5_serve_145 : decode cX5_serve 145 = .ok (.ireturn, 1) := by decide +kernel
theorem dX5_serve_146 : decode cX5_serve 146 = .ok (.aload_n 0, 1) := by decide +kernel
theorem dX5_serve_147 : decode cX5_serve 147 = .ok (.aload_n 1, 1) := by decide +kernel
theorem dX5_serve_148 : decode cX5_serve 148 = .ok (.invokevirtual 227, 3) := by decide +kernel
theorem dX5_serve_151 : decode cX5_serve 151 = .ok (.ireturn, 1) := by decide +kernel
theorem dX5_serve_152 : decode cX5_serve 152 = .ok (.aload_n 0, 1) := by decide +kernel
theorem dX5_serve_153 : decode cX5_serve 153 = .ok (.aload_n 1, 1) := by decide +kernel
theorem dX5_serve_154 : decode cX5_serve 154 = .ok (.invokevirtual 230, 3) := by decide +kernel
theorem dX5_serve_157 : decode cX5_serve 157 = .ok (.ireturn, 1) := by decide +kernel
theorem dX5_serve_158 : decode cX5_serve 158 = .ok (.aload_n 0, 1) := by decide +kernel
theorem dX5_serve_159 : decode cX5_serve 159 = .ok (.aload_n 1, 1) := by decide +kernel
theorem dX5_serve_160 : decode cX5_serve 160 = .ok (.invokevirtual 233, 3) := by decide +kernel
theorem dX5_serve_163 : decode cX5_serve 163 = .ok (.ireturn, 1) := by decide +kernel
theorem dX5_serve_164 : decode cX5_serve 164 = .ok (.bipush 17, 2) := by decide +kernel
theorem dX5_serve_166 : decode cX5_serve 166 = .ok (.ireturn, 1) := by decide +kernel
theorem dX5_changeSession_0 : decode cX5_changeSession 0 = .ok (.aload_n 1, 1) := by decide +kernel
theorem dX5_changeSession_1 : decode cX5_changeSession 1 = .ok (.invokevirtual 236, 3) := by decide +kernel
theorem dX5_changeSession_4 : decode cX5_changeSession 4 = .ok (.iconst 1, 1) := by decide +kernel
theorem dX5_changeSession_5 : decode cX5_changeSession 5 = .ok (.if_icmp .eq 6, 3) := by decide +kernel
theorem dX5_changeSession_8 : decode cX5_changeSession 8 = .ok (.bipush 19, 2) := by decide +kernel
theorem dX5_changeSession_10 : decode cX5_changeSession 10 = .ok (.ireturn, 1) := by decide +kernel
theorem dX5_changeSession_11 : decode cX5_changeSession 11 = .ok (.aload_n 1, 1) := by decide +kernel
theorem dX5_changeSession_12 : decode cX5_changeSession 12 = .ok (.invokevirtual 239, 3) := by decide +kernel
theorem dX5_changeSession_15 : decode cX5_changeSession 15 = .ok (.istore_n 2, 1) := by decide +kernel
theorem dX5_changeSession_16 : decode cX5_changeSession 16 = .ok (.iload_n 2, 1) := by decide +kernel
theorem dX5_changeSession_17 : decode cX5_changeSession 17 = .ok (.iconst 1, 1) := by decide +kernel
theorem dX5_changeSession_18 : decode cX5_changeSession 18 = .ok (.iconst 3, 1) := by decide +kernel
theorem dX5_changeSession_19 : decode cX5_changeSession 19 = .ok (.invokestatic 79, 3) := by decide +kernel
theorem dX5_changeSession_22 : decode cX5_changeSession 22 = .ok (.ifCond .ne 6, 3) := by decide +kernel
theorem dX5_changeSession_25 : decode cX5_changeSession 25 = .ok (.bipush 18, 2) := by decide +kernel
theorem dX5_changeSession_27 : decode cX5_changeSession 27 = .ok (.ireturn, 1) := by decide +kernel
theorem dX5_changeSession_28 : decode cX5_changeSession 28 = .ok (.iload_n 2, 1) := by decide +kernel
theorem dX5_changeSession_29 : decode cX5_changeSession 29 = .ok (.iconst 3, 1) := by decide +kernel
theorem dX5_changeSession_30 : decode cX5_changeSession 30 = .ok (.if_icmp .ne 13, 3) := by decide +kernel
theorem dX5_changeSession_33 : decode cX5_changeSession 33 = .ok (.aload_n 0, 1) := by decide +kernel
theorem dX5_changeSession_34 : decode cX5_changeSession 34 = .ok (.getfield 28, 3) := by decide +kernel
theorem dX5_changeSession_37 : decode cX5_changeSession 37 = .ok (.ifCond .ne 6, 3) := by decide +kernel
theorem dX5_changeSession_40 : decode cX5_changeSession 40 = .ok (.bipush 34, 2) := by decide +kernel
theorem dX5_changeSession_42 : decode cX5_changeSession 42 = .ok (.ireturn, 1) := by decide +kernel
theorem dX5_changeSession_43 : decode cX5_changeSession 43 = .ok (.aload_n 0, 1) := by decide +kernel
theorem dX5_changeSession_44 : decode cX5_changeSession 44 = .ok (.iload_n 2, 1) := by decide +kernel
theorem dX5_changeSession_45 : decode cX5_changeSession 45 = .ok (.invokevirtual 158, 3) := by decide +kernel
theorem dX5_changeSession_48 : decode cX5_changeSession 48 = .ok (.aload_n 0, 1) := by decide +kernel
theorem dX5_changeSession_49 : decode cX5_changeSession 49 = .ok (.aload_n 1, 1) := by decide +kernel
theorem dX5_changeSession_50 : decode cX5_changeSession 50 = .ok (.invokevirtual 242, 3) := by decide +kernel
theorem dX5_changeSession_53 : decode cX5_changeSession 53 = .ok (.aload_n 0, 1) := by decide +kernel
theorem dX5_changeSession_54 : decode cX5_changeSession 54 = .ok (.getfield 67, 3) := by decide +kernel
theorem dX5_changeSession_57 : decode cX5_changeSession 57 = .ok (.iload_n 2, 1) := by decide +kernel
theorem dX5_changeSession_58 : decode cX5_changeSession 58 = .ok (.invokevirtual 190, 3) := by decide +kernel
theorem dX5_changeSession_61 : decode cX5_changeSession 61 = .ok (.iconst 0, 1) := by decide +kernel
theorem dX5_changeSession_62 : decode cX5_changeSession 62 = .ok (.ireturn, 1) := by decide +kernel
theorem dX5_stayPresent_0 : decode cX5_stayPresent 0 = .ok (.aload_n 1, 1) := by decide +kernel
theorem dX5_stayPresent_1 : decode cX5_stayPresent 1 = .ok (.invokevirtual 236, 3) := by decide +kernel
theorem dX5_stayPresent_4 : decode cX5_stayPresent 4 = .ok (.iconst 1, 1) := by decide +kernel
theorem dX5_stayPresent_5 : decode cX5_stayPresent 5 = .ok (.if_icmp .eq 6, 3) := by decide +kernel
theorem dX5_stayPresent_8 : decode cX5_stayPresent 8 = .ok (.bipush 19, 2) := by decide +kernel
theorem dX5_stayPresent_10 : decode cX5_stayPresent 10 = .ok (.ireturn, 1) := by decide +kernel
theorem dX5_stayPresent_11 : decode cX5_stayPresent 11 = .ok (.aload_n 1, 1) := by decide +kernel
theorem dX5_stayPresent_12 : decode cX5_stayPresent 12 = .ok (.invokevirtual 239, 3) := by decide +kernel
theorem dX5_stayPresent_15 : decode cX5_stayPresent 15 = .ok (.ifCond .eq 6, 3) := by decide +kernel
theorem dX5_stayPresent_18 : decode cX5_stayPresent 18 = .ok (.bipush 18, 2) := by decide +kernel
theorem dX5_stayPresent_20 : decode cX5_stayPresent 20 = .ok (.ireturn, 1) := by decide +kernel
theorem dX5_stayPresent_21 : decode cX5_stayPresent 21 = .ok (.aload_n 0, 1) := by decide +kernel
theorem dX5_stayPresent_22 : decode cX5_stayPresent 22 = .ok (.aload_n 1, 1) := by decide +kernel
theorem dX5_stayPresent_23 : decode cX5_stayPresent 23 = .ok (.invokevirtual 242, 3) := by decide +kernel
theorem dX5_stayPresent_26 : decode cX5_stayPresent 26 = .ok (.aload_n 0, 1) := by decide +kernel
theorem dX5_stayPresent_27 : decode cX5_stayPresent 27 = .ok (.getfield 67, 3) := by decide +kernel
theorem dX5_stayPresent_30 : decode cX5_stayPresent 30 = .ok (.iconst 0, 1) := by decide +kernel
theorem dX5_stayPresent_31 : decode cX5_stayPresent 31 = .ok (.invokevirtual 190, 3) := by decide +kernel
theorem dX5_stayPresent_34 : decode cX5_stayPresent 34 = .ok (.iconst 0, 1) := by decide +kernel
theorem dX5_stayPresent_35 : decode cX5_stayPresent 35 = .ok (.ireturn, 1) := by decide +kernel
theorem dX5_reset_0 : decode cX5_reset 0 = .ok (.aload_n 1, 1) := by decide +kernel
theorem dX5_reset_1 : decode cX5_reset 1 = .ok (.invokevirtual 236, 3) := by decide +kernel
theorem dX5_reset_4 : decode cX5_reset 4 = .ok (.iconst 1, 1) := by decide +kernel
theorem dX5_reset_5 : decode cX5_reset 5 = .ok (.if_icmp .eq 6, 3) := by decide +kernel
theorem dX5_reset_8 : decode cX5_reset 8 = .ok (.bipush 19, 2) := by decide +kernel
theorem dX5_reset_10 : decode cX5_reset 10 = .ok (.ireturn, 1) := by decide +kernel
theorem dX5_reset_11 : decode cX5_reset 11 = .ok (.aload_n 1, 1) := by decide +kernel
theorem dX5_reset_12 : decode cX5_reset 12 = .ok (.invokevirtual 239, 3) := by decide +kernel
theorem dX5_reset_15 : decode cX5_reset 15 = .ok (.istore_n 2, 1) := by decide +kernel
theorem dX5_reset_16 : decode cX5_reset 16 = .ok (.iload_n 2, 1) := by decide +kernel
theorem dX5_reset_17 : decode cX5_reset 17 = .ok (.iconst 1, 1) := by decide +kernel
theorem dX5_reset_18 : decode cX5_reset 18 = .ok (.if_icmp .eq 11, 3) := by decide +kernel
theorem dX5_reset_21 : decode cX5_reset 21 = .ok (.iload_n 2, 1) := by decide +kernel
theorem dX5_reset_22 : decode cX5_reset 22 = .ok (.iconst 3, 1) := by decide +kernel
theorem dX5_reset_23 : decode cX5_reset 23 = .ok (.if_icmp .eq 6, 3) := by decide +kernel
theorem dX5_reset_26 : decode cX5_reset 26 = .ok (.bipush 18, 2) := by decide +kernel
theorem dX5_reset_28 : decode cX5_reset 28 = .ok (.ireturn, 1) := by decide +kernel
theorem dX5_reset_29 : decode cX5_reset 29 = .ok (.aload_n 0, 1) := by decide +kernel
theorem dX5_reset_30 : decode cX5_reset 30 = .ok (.getfield 28, 3) := by decide +kernel
theorem dX5_reset_33 : decode cX5_reset 33 = .ok (.ifCond .ne 6, 3) := by decide +kernel
theorem dX5_reset_36 : decode cX5_reset 36 = .ok (.bipush 34, 2) := by decide +kernel
theorem dX5_reset_38 : decode cX5_reset 38 = .ok (.ireturn, 1) := by decide +kernel
theorem dX5_reset_39 : decode cX5_reset 39 = .ok (.aload_n 0, 1) := by decide +kernel
theorem dX5_reset_40 : decode cX5_reset 40 = .ok (.iconst 1, 1) := by decide +kernel
theorem dX5_reset_41 : decode cX5_reset 41 = .ok (.invokevirtual 158, 3) := by decide +kernel
theorem dX5_reset_44 : decode cX5_reset 44 = .ok (.aload_n 0, 1) := by decide +kernel
theorem dX5_reset_45 : decode cX5_reset 45 = .ok (.invokevirtual 245, 3) := by decide +kernel
theorem dX5_reset_48 : decode cX5_reset 48 = .ok (.iload_n 2, 1) := by decide +kernel
theorem dX5_reset_49 : decode cX5_reset 49 = .ok (.iconst 1, 1) := by decide +kernel
theorem dX5_reset_50 : decode cX5_reset 50 = .ok (.if_icmp .ne 7, 3) := by decide +kernel
theorem dX5_reset_53 : decode cX5_reset 53 = .ok (.aload_n 0, 1) := by decide +kernel
theorem dX5_reset_54 : decode cX5_reset 54 = .ok (.invokevirtual 248, 3) := by decide +kernel
theorem dX5_reset_57 : decode cX5_reset 57 = .ok (.aload_n 0, 1) := by decide +kernel
theorem dX5_reset_58 : decode cX5_reset 58 = .ok (.aload_n 1, 1) := by decide +kernel
theorem dX5_reset_59 : decode cX5_reset 59 = .ok (.invokevirtual 242, 3) := by decide +kernel
theorem dX5_reset_62 : decode cX5_reset 62 = .ok (.aload_n 0, 1) := by decide +kernel
theorem dX5_reset_63 : decode cX5_reset 63 = .ok (.getfield 67, 3) := by decide +kernel
theorem dX5_reset_66 : decode cX5_reset 66 = .ok (.iload_n 2, 1) := by decide +kernel
theorem dX5_reset_67 : decode cX5_reset 67 = .ok (.invokevirtual 190, 3) := by decide +kernel
theorem dX5_reset_70 : decode cX5_reset 70 = .ok (.iconst 0, 1) := by decide +kernel
theorem dX5_reset_71 : decode cX5_reset 71 = .ok (.ireturn, 1) := by decide +kernel
theorem dX5_forgetRoutines_0 : decode cX5_forgetRoutines 0 = .ok (.iconst 0, 1) := by decide +kernel
theorem dX5_forgetRoutines_1 : decode cX5_forgetRoutines 1 = .ok (.istore_n 1, 1) := by decide +kernel
theorem dX5_forgetRoutines_2 : decode cX5_forgetRoutines 2 = .ok (.iload_n 1, 1) := by decide +kernel
theorem dX5_forgetRoutines_3 : decode cX5_forgetRoutines 3 = .ok (.aload_n 0, 1) := by decide +kernel
theorem dX5_forgetRoutines_4 : decode cX5_forgetRoutines 4 = .ok (.getfield 21, 3) := by decide +kernel
theorem dX5_forgetRoutines_7 : decode cX5_forgetRoutines 7 = .ok (.arraylength, 1) := by decide +kernel
theorem dX5_forgetRoutines_8 : decode cX5_forgetRoutines 8 = .ok (.if_icmp .ge 24, 3) := by decide +kernel
theorem dX5_forgetRoutines_11 : decode cX5_forgetRoutines 11 = .ok (.aload_n 0, 1) := by decide +kernel
theorem dX5_forgetRoutines_12 : decode cX5_forgetRoutines 12 = .ok (.getfield 21, 3) := by decide +kernel
theorem dX5_forgetRoutines_15 : decode cX5_forgetRoutines 15 = .ok (.iload_n 1, 1) := by decide +kernel
theorem dX5_forgetRoutines_16 : decode cX5_forgetRoutines 16 = .ok (.aaload, 1) := by decide +kernel
theorem dX5_forgetRoutines_17 : decode cX5_forgetRoutines 17 = .ok (.astore_n 2, 1) := by decide +kernel
theorem dX5_forgetRoutines_18 : decode cX5_forgetRoutines 18 = .ok (.aload_n 2, 1) := by decide +kernel
theorem dX5_forgetRoutines_19 : decode cX5_forgetRoutines 19 = .ok (.ifnull 7, 3) := by decide +kernel
theorem dX5_forgetRoutines_22 : decode cX5_forgetRoutines 22 = .ok (.aload_n 2, 1) := by decide +kernel
theorem dX5_forgetRoutines_23 : decode cX5_forgetRoutines 23 = .ok (.invokevirtual 251, 3) := by decide +kernel
theorem dX5_forgetRoutines_26 : decode cX5_forgetRoutines 26 = .ok (.iinc 1 1, 3) := by decide +kernel
theorem dX5_forgetRoutines_29 : decode cX5_forgetRoutines 29 = .ok (.goto (-27), 3) := by decide +kernel
theorem dX5_forgetRoutines_32 : decode cX5_forgetRoutines 32 = .ok (.return_, 1) := by decide +kernel
theorem dX5_clearOwnValues_0 : decode cX5_clearOwnValues 0 = .ok (.iconst 0, 1) := by decide +kernel
theorem dX5_clearOwnValues_1 : decode cX5_clearOwnValues 1 = .ok (.istore_n 1, 1) := by decide +kernel
theorem dX5_clearOwnValues_2 : decode cX5_clearOwnValues 2 = .ok (.iload_n 1, 1) := by decide +kernel
theorem dX5_clearOwnValues_3 : decode cX5_clearOwnValues 3 = .ok (.aload_n 0, 1) := by decide +kernel
theorem dX5_clearOwnValues_4 : decode cX5_clearOwnValues 4 = .ok (.getfield 11, 3) := by decide +kernel
theorem dX5_clearOwnValues_7 : decode cX5_clearOwnValues 7 = .ok (.arraylength, 1) := by decide +kernel
theorem dX5_clearOwnValues_8 : decode cX5_clearOwnValues 8 = .ok (.if_icmp .ge 25, 3) := by decide +kernel
theorem dX5_clearOwnValues_11 : decode cX5_clearOwnValues 11 = .ok (.aload_n 0, 1) := by decide +kernel
theorem dX5_clearOwnValues_12 : decode cX5_clearOwnValues 12 = .ok (.getfield 11, 3) := by decide +kernel
theorem dX5_clearOwnValues_15 : decode cX5_clearOwnValues 15 = .ok (.iload_n 1, 1) := by decide +kernel
theorem dX5_clearOwnValues_16 : decode cX5_clearOwnValues 16 = .ok (.aaload, 1) := by decide +kernel
theorem dX5_clearOwnValues_17 : decode cX5_clearOwnValues 17 = .ok (.astore_n 2, 1) := by decide +kernel
theorem dX5_clearOwnValues_18 : decode cX5_clearOwnValues 18 = .ok (.aload_n 2, 1) := by decide +kernel
theorem dX5_clearOwnValues_19 : decode cX5_clearOwnValues 19 = .ok (.ifnull 8, 3) := by decide +kernel
theorem dX5_clearOwnValues_22 : decode cX5_clearOwnValues 22 = .ok (.aload_n 2, 1) := by decide +kernel
theorem dX5_clearOwnValues_23 : decode cX5_clearOwnValues 23 = .ok (.lconst 0, 1) := by decide +kernel
theorem dX5_clearOwnValues_24 : decode cX5_clearOwnValues 24 = .ok (.putfield 115, 3) := by decide +kernel
theorem dX5_clearOwnValues_27 : decode cX5_clearOwnValues 27 = .ok (.iinc 1 1, 3) := by decide +kernel
theorem dX5_clearOwnValues_30 : decode cX5_clearOwnValues 30 = .ok (.goto (-28), 3) := by decide +kernel
theorem dX5_clearOwnValues_33 : decode cX5_clearOwnValues 33 = .ok (.return_, 1) := by decide +kernel
theorem dX5_read_0 : decode cX5_read 0 = .ok (.aload_n 1, 1) := by decide +kernel
theorem dX5_read_1 : decode cX5_read 1 = .ok (.invokevirtual 236, 3) := by decide +kernel
theorem dX5_read_4 : decode cX5_read 4 = .ok (.istore_n 2, 1) := by decide +kernel
theorem dX5_read_5 : decode cX5_read 5 = .ok (.iload_n 2, 1) := by decide +kernel
theorem dX5_read_6 : decode cX5_read 6 = .ok (.iconst 2, 1) := by decide +kernel
theorem dX5_read_7 : decode cX5_read 7 = .ok (.bipush 8, 2) := by decide +kernel
theorem dX5_read_9 : decode cX5_read 9 = .ok (.invokestatic 79, 3) := by decide +kernel
theorem dX5_read_12 : decode cX5_read 12 = .ok (.ifCond .eq 9, 3) := by decide +kernel
theorem dX5_read_15 : decode cX5_read 15 = .ok (.iload_n 2, 1) := by decide +kernel
theorem dX5_read_16 : decode cX5_read 16 = .ok (.iconst 1, 1) := by decide +kernel
theorem dX5_read_17 : decode cX5_read 17 = .ok (.iand, 1) := by decide +kernel
theorem dX5_read_18 : decode cX5_read 18 = .ok (.ifCond .eq 6, 3) := by decide +kernel
theorem dX5_read_21 : decode cX5_read 21 = .ok (.bipush 19, 2) := by decide +kernel
theorem dX5_read_23 : decode cX5_read 23 = .ok (.ireturn, 1) := by decide +kernel
theorem dX5_read_24 : decode cX5_read 24 = .ok (.iconst 0, 1) := by decide +kernel
theorem dX5_read_25 : decode cX5_read 25 = .ok (.istore_n 3, 1) := by decide +kernel
theorem dX5_read_26 : decode cX5_read 26 = .ok (.iconst 0, 1) := by decide +kernel
theorem dX5_read_27 : decode cX5_read 27 = .ok (.istore 4, 2) := by decide +kernel
theorem dX5_read_29 : decode cX5_read 29 = .ok (.iconst 0, 1) := by decide +kernel
theorem dX5_read_30 : decode cX5_read 30 = .ok (.istore 5, 2) := by decide +kernel
theorem dX5_read_32 : decode cX5_read 32 = .ok (.iload 5, 2) := by decide +kernel
theorem dX5_read_34 : decode cX5_read 34 = .ok (.iload_n 2, 1) := by decide +kernel
theorem dX5_read_35 : decode cX5_read 35 = .ok (.if_icmp .ge 52, 3) := by decide +kernel
theorem dX5_read_38 : decode cX5_read 38 = .ok (.aload_n 0, 1) := by decide +kernel
theorem dX5_read_39 : decode cX5_read 39 = .ok (.aload_n 1, 1) := by decide +kernel
theorem dX5_read_40 : decode cX5_read 40 = .ok (.iload 5, 2) := by decide +kernel
theorem dX5_read_42 : decode cX5_read 42 = .ok (.invokevirtual 254, 3) := by decide +kernel
theorem dX5_read_45 : decode cX5_read 45 = .ok (.invokevirtual 258, 3) := by decide +kernel
theorem dX5_read_48 : decode cX5_read 48 = .ok (.astore 6, 2) := by decide +kernel
theorem dX5_read_50 : decode cX5_read 50 = .ok (.aload 6, 2) := by decide +kernel
theorem dX5_read_52 : decode cX5_read 52 = .ok (.ifnull 29, 3) := by decide +kernel
theorem dX5_read_55 : decode cX5_read 55 = .ok (.iconst 1, 1) := by decide +kernel
theorem dX5_read_56 : decode cX5_read 56 = .ok (.istore_n 3, 1) := by decide +kernel
theorem dX5_read_57 : decode cX5_read 57 = .ok (.iload 4, 2) := by decide +kernel
theorem dX5_read_59 : decode cX5_read 59 = .ok (.ifCond .ne 15, 3) := by decide +kernel
theorem dX5_read_62 : decode cX5_read 62 = .ok (.aload 6, 2) := by decide +kernel
theorem dX5_read_64 : decode cX5_read 64 = .ok (.getfield 261, 3) := by decide +kernel
theorem dX5_read_67 : decode cX5_read 67 = .ok (.aload_n 0, 1) := by decide +kernel
theorem dX5_read_68 : decode cX5_read 68 = .ok (.getfield 38, 3) := by decide +kernel
theorem dX5_read_71 : decode cX5_read 71 = .ok (.if_icmp .le 7, 3) := by decide +kernel
theorem dX5_read_74 : decode cX5_read 74 = .ok (.iconst 1, 1) := by decide +kernel
theorem dX5_read_75 : decode cX5_read 75 = .ok (.goto 4, 3) := by decide +kernel
theorem dX5_read_78 : decode cX5_read 78 = .ok (.iconst 0, 1) := by decide +kernel
theorem dX5_read_79 : decode cX5_read 79 = .ok (.istore 4, 2) := by decide +kernel
theorem dX5_read_81 : decode cX5_read 81 = .ok (.iinc 5 2, 3) := by decide +kernel
theorem dX5_read_84 : decode cX5_read 84 = .ok (.goto (-52), 3) := by decide +kernel
theorem dX5_read_87 : decode cX5_read 87 = .ok (.iload_n 3, 1) := by decide +kernel
theorem dX5_read_88 : decode cX5_read 88 = .ok (.ifCond .ne 6, 3) := by decide +kernel
theorem dX5_read_91 : decode cX5_read 91 = .ok (.bipush 49, 2) := by decide +kernel
theorem dX5_read_93 : decode cX5_read 93 = .ok (.ireturn, 1) := by decide +kernel
theorem dX5_read_94 : decode cX5_read 94 = .ok (.iload 4, 2) := by decide +kernel
theorem dX5_read_96 : decode cX5_read 96 = .ok (.ifCond .eq 6, 3) := by decide +kernel
theorem dX5_read_99 : decode cX5_read 99 = .ok (.bipush 51, 2) := by decide +kernel
theorem dX5_read_101 : decode cX5_read 101 = .ok (.ireturn, 1) := by decide +kernel
theorem dX5_read_102 : decode cX5_read 102 = .ok (.aload_n 0, 1) := by decide +kernel
theorem dX5_read_103 : decode cX5_read 103 = .ok (.aload_n 1, 1) := by decide +kernel
theorem dX5_read_104 : decode cX5_read 104 = .ok (.invokevirtual 242, 3) := by decide +kernel
theorem dX5_read_107 : decode cX5_read 107 = .ok (.iconst 0, 1) := by decide +kernel
theorem dX5_read_108 : decode cX5_read 108 = .ok (.istore 5, 2) := by decide +kernel
theorem dX5_read_110 : decode cX5_read 110 = .ok (.iload 5, 2) := by decide +kernel
theorem dX5_read_112 : decode cX5_read 112 = .ok (.iload_n 2, 1) := by decide +kernel
theorem dX5_read_113 : decode cX5_read 113 = .ok (.if_icmp .ge 32, 3) := by decide +kernel
theorem dX5_read_116 : decode cX5_read 116 = .ok (.aload_n 0, 1) := by decide +kernel
theorem dX5_read_117 : decode cX5_read 117 = .ok (.aload_n 1, 1) := by decide +kernel
theorem dX5_read_118 : decode cX5_read 118 = .ok (.iload 5, 2) := by decide +kernel
theorem dX5_read_120 : decode cX5_read 120 = .ok (.invokevirtual 254, 3) := by decide +kernel
theorem dX5_read_123 : decode cX5_read 123 = .ok (.invokevirtual 258, 3) := by decide +kernel
theorem dX5_read_126 : decode cX5_read 126 = .ok (.astore 6, 2) := by decide +kernel
theorem dX5_read_128 : decode cX5_read 128 = .ok (.aload 6, 2) := by decide +kernel
theorem dX5_read_130 : decode cX5_read 130 = .ok (.ifnull 9, 3) := by decide +kernel
theorem dX5_read_133 : decode cX5_read 133 = .ok (.aload_n 0, 1) := by decide +kernel
theorem dX5_read_134 : decode cX5_read 134 = .ok (.aload 6, 2) := by decide +kernel
theorem dX5_read_136 : decode cX5_read 136 = .ok (.invokevirtual 262, 3) := by decide +kernel
theorem dX5_read_139 : decode cX5_read 139 = .ok (.iinc 5 2, 3) := by decide +kernel
theorem dX5_read_142 : decode cX5_read 142 = .ok (.goto (-32), 3) := by decide +kernel
theorem dX5_read_145 : decode cX5_read 145 = .ok (.iconst 0, 1) := by decide +kernel
theorem dX5_read_146 : decode cX5_read 146 = .ok (.ireturn, 1) := by decide +kernel
theorem dX5_replyOctetsOf_0 : decode cX5_replyOctetsOf 0 = .ok (.aload_n 0, 1) := by decide +kernel
theorem dX5_replyOctetsOf_1 : decode cX5_replyOctetsOf 1 = .ok (.getfield 67, 3) := by decide +kernel
theorem dX5_replyOctetsOf_4 : decode cX5_replyOctetsOf 4 = .ok (.aload_n 1, 1) := by decide +kernel
theorem dX5_replyOctetsOf_5 : decode cX5_replyOctetsOf 5 = .ok (.getfield 166, 3) := by decide +kernel
theorem dX5_replyOctetsOf_8 : decode cX5_replyOctetsOf 8 = .ok (.invokevirtual 265, 3) := by decide +kernel
theorem dX5_replyOctetsOf_11 : decode cX5_replyOctetsOf 11 = .ok (.iconst 0, 1) := by decide +kernel
theorem dX5_replyOctetsOf_12 : decode cX5_replyOctetsOf 12 = .ok (.istore_n 2, 1) := by decide +kernel
theorem dX5_replyOctetsOf_13 : decode cX5_replyOctetsOf 13 = .ok (.iload_n 2, 1) := by decide +kernel
theorem dX5_replyOctetsOf_14 : decode cX5_replyOctetsOf 14 = .ok (.aload_n 1, 1) := by decide +kernel
theorem dX5_replyOctetsOf_15 : decode cX5_replyOctetsOf 15 = .ok (.getfield 98, 3) := by decide +kernel
theorem dX5_replyOctetsOf_18 : decode cX5_replyOctetsOf 18 = .ok (.if_icmp .ge 21, 3) := by decide +kernel
theorem dX5_replyOctetsOf_21 : decode cX5_replyOctetsOf 21 = .ok (.aload_n 0, 1) := by decide +kernel
theorem dX5_replyOctetsOf_22 : decode cX5_replyOctetsOf 22 = .ok (.getfield 67, 3) := by decide +kernel
theorem dX5_replyOctetsOf_25 : decode cX5_replyOctetsOf 25 = .ok (.aload_n 1, 1) := by decide +kernel
theorem dX5_replyOctetsOf_26 : decode cX5_replyOctetsOf 26 = .ok (.iload_n 2, 1) := by decide +kernel
theorem dX5_replyOctetsOf_27 : decode cX5_replyOctetsOf 27 = .ok (.invokevirtual 268, 3) := by decide +kernel
theorem dX5_replyOctetsOf_30 : decode cX5_replyOctetsOf 30 = .ok (.invokevirtual 190, 3) := by decide +kernel
theorem dX5_replyOctetsOf_33 : decode cX5_replyOctetsOf 33 = .ok (.iinc 2 1, 3) := by decide +kernel
theorem dX5_replyOctetsOf_36 : decode cX5_replyOctetsOf 36 = .ok (.goto (-23), 3) := by decide +kernel
theorem dX5_replyOctetsOf_39 : decode cX5_replyOctetsOf 39 = .ok (.return_, 1) := by decide +kernel
theorem dX5_write_0 : decode cX5_write 0 = .ok (.aload_n 1, 1) := by decide +kernel
theorem dX5_write_1 : decode cX5_write 1 = .ok (.invokevirtual 236, 3) := by decide +kernel
theorem dX5_write_4 : decode cX5_write 4 = .ok (.istore_n 2, 1) := by decide +kernel
theorem dX5_write_5 : decode cX5_write 5 = .ok (.iload_n 2, 1) := by decide +kernel
theorem dX5_write_6 : decode cX5_write 6 = .ok (.iconst 2, 1) := by decide +kernel
theorem dX5_write_7 : decode cX5_write 7 = .ok (.if_icmp .gt 6, 3) := by decide +kernel
theorem dX5_write_10 : decode cX5_write 10 = .ok (.bipush 19, 2) := by decide +kernel
theorem dX5_write_12 : decode cX5_write 12 = .ok (.ireturn, 1) := by decide +kernel
theorem dX5_write_13 : decode cX5_write 13 = .ok (.aload_n 0, 1) := by decide +kernel
theorem dX5_write_14 : decode cX5_write 14 = .ok (.aload_n 1, 1) := by decide +kernel
theorem dX5_write_15 : decode cX5_write 15 = .ok (.iconst 0, 1) := by decide +kernel
theorem dX5_write_16 : decode cX5_write 16 = .ok (.invokevirtual 254, 3) := by decide +kernel
theorem dX5_write_19 : decode cX5_write 19 = .ok (.invokevirtual 258, 3) := by decide +kernel
theorem dX5_write_22 : decode cX5_write 22 = .ok (.astore_n 3, 1) := by decide +kernel
theorem dX5_write_23 : decode cX5_write 23 = .ok (.aload_n 3, 1) := by decide +kernel
theorem dX5_write_24 : decode cX5_write 24 = .ok (.ifnull 17, 3) := by decide +kernel
theorem dX5_write_27 : decode cX5_write 27 = .ok (.aload_n 3, 1) := by decide +kernel
theorem dX5_write_28 : decode cX5_write 28 = .ok (.getfield 101, 3) := by decide +kernel
theorem dX5_write_31 : decode cX5_write 31 = .ok (.ifCond .ne 10, 3) := by decide +kernel
theorem dX5_write_34 : decode cX5_write 34 = .ok (.aload_n 3, 1) := by decide +kernel
theorem dX5_write_35 : decode cX5_write 35 = .ok (.getfield 118, 3) := by decide +kernel
theorem dX5_write_38 : decode cX5_write 38 = .ok (.ifCond .ne 6, 3) := by decide +kernel
theorem dX5_write_41 : decode cX5_write 41 = .ok (.bipush 49, 2) := by decide +kernel
theorem dX5_write_43 : decode cX5_write 43 = .ok (.ireturn, 1) := by decide +kernel
theorem dX5_write_44 : decode cX5_write 44 = .ok (.iload_n 2, 1) := by decide +kernel
theorem dX5_write_45 : decode cX5_write 45 = .ok (.iconst 2, 1) := by decide +kernel
theorem dX5_write_46 : decode cX5_write 46 = .ok (.isub, 1) := by decide +kernel
theorem dX5_write_47 : decode cX5_write 47 = .ok (.aload_n 3, 1) := by decide +kernel
theorem dX5_write_48 : decode cX5_write 48 = .ok (.getfield 98, 3) := by decide +kernel
theorem dX5_write_51 : decode cX5_write 51 = .ok (.if_icmp .eq 6, 3) := by decide +kernel
theorem dX5_write_54 : decode cX5_write 54 = .ok (.bipush 19, 2) := by decide +kernel
theorem dX5_write_56 : decode cX5_write 56 = .ok (.ireturn, 1) := by decide +kernel
theorem dX5_write_57 : decode cX5_write 57 = .ok (.aload_n 3, 1) := by decide +kernel
theorem dX5_write_58 : decode cX5_write 58 = .ok (.getfield 261, 3) := by decide +kernel
theorem dX5_write_61 : decode cX5_write 61 = .ok (.aload_n 0, 1) := by decide +kernel
theorem dX5_write_62 : decode cX5_write 62 = .ok (.getfield 38, 3) := by decide +kernel
theorem dX5_write_65 : decode cX5_write 65 = .ok (.if_icmp .le 6, 3) := by decide +kernel
theorem dX5_write_68 : decode cX5_write 68 = .ok (.bipush 51, 2) := by decide +kernel
theorem dX5_write_70 : decode cX5_write 70 = .ok (.ireturn, 1) := by decide +kernel
theorem dX5_write_71 : decode cX5_write 71 = .ok (.aload_n 0, 1) := by decide +kernel
theorem dX5_write_72 : decode cX5_write 72 = .ok (.getfield 28, 3) := by decide +kernel
theorem dX5_write_75 : decode cX5_write 75 = .ok (.ifCond .ne 6, 3) := by decide +kernel
theorem dX5_write_78 : decode cX5_write 78 = .ok (.bipush 34, 2) := by decide +kernel
theorem dX5_write_80 : decode cX5_write 80 = .ok (.ireturn, 1) := by decide +kernel
theorem dX5_write_81 : decode cX5_write 81 = .ok (.aload_n 3, 1) := by decide +kernel
theorem dX5_write_82 : decode cX5_write 82 = .ok (.aload_n 1, 1) := by decide +kernel
theorem dX5_write_83 : decode cX5_write 83 = .ok (.iconst 2, 1) := by decide +kernel
theorem dX5_write_84 : decode cX5_write 84 = .ok (.aload_n 3, 1) := by decide +kernel
theorem dX5_write_85 : decode cX5_write 85 = .ok (.getfield 98, 3) := by decide +kernel
theorem dX5_write_88 : decode cX5_write 88 = .ok (.invokevirtual 270, 3) := by decide +kernel
theorem dX5_write_91 : decode cX5_write 91 = .ok (.putfield 115, 3) := by decide +kernel
theorem dX5_write_94 : decode cX5_write 94 = .ok (.aload_n 0, 1) := by decide +kernel
theorem dX5_write_95 : decode cX5_write 95 = .ok (.aload_n 1, 1) := by decide +kernel
theorem dX5_write_96 : decode cX5_write 96 = .ok (.invokevirtual 242, 3) := by decide +kernel
theorem dX5_write_99 : decode cX5_write 99 = .ok (.aload_n 0, 1) := by decide +kernel
theorem dX5_write_100 : decode cX5_write 100 = .ok (.getfield 67, 3) := by decide +kernel
theorem dX5_write_103 : decode cX5_write 103 = .ok (.aload_n 3, 1) := by decide +kernel
theorem dX5_write_104 : decode cX5_write 104 = .ok (.getfield 166, 3) := by decide +kernel
theorem dX5_write_107 : decode cX5_write 107 = .ok (.invokevirtual 265, 3) := by decide +kernel
theorem dX5_write_110 : decode cX5_write 110 = .ok (.iconst 0, 1) := by decide +kernel
theorem dX5_write_111 : decode cX5_write 111 = .ok (.ireturn, 1) := by decide +kernel
theorem dX5_takeControl_0 : decode cX5_takeControl 0 = .ok (.aload_n 0, 1) := by decide +kernel
theorem dX5_takeControl_1 : decode cX5_takeControl 1 = .ok (.getfield 35, 3) := by decide +kernel
theorem dX5_takeControl_4 : decode cX5_takeControl 4 = .ok (.iconst 1, 1) := by decide +kernel
theorem dX5_takeControl_5 : decode cX5_takeControl 5 = .ok (.if_icmp .ne 6, 3) := by decide +kernel
theorem dX5_takeControl_8 : decode cX5_takeControl 8 = .ok (.bipush 127, 2) := by decide +kernel
theorem dX5_takeControl_10 : decode cX5_takeControl 10 = .ok (.ireturn, 1) := by decide +kernel
theorem dX5_takeControl_11 : decode cX5_takeControl 11 = .ok (.aload_n 1, 1) := by decide +kernel
theorem dX5_takeControl_12 : decode cX5_takeControl 12 = .ok (.invokevirtual 236, 3) := by decide +kernel
theorem dX5_takeControl_15 : decode cX5_takeControl 15 = .ok (.istore_n 2, 1) := by decide +kernel
theorem dX5_takeControl_16 : decode cX5_takeControl 16 = .ok (.iload_n 2, 1) := by decide +kernel
theorem dX5_takeControl_17 : decode cX5_takeControl 17 = .ok (.iconst 2, 1) := by decide +kernel
theorem dX5_takeControl_18 : decode cX5_takeControl 18 = .ok (.if_icmp .gt 6, 3) := by decide +kernel
theorem dX5_takeControl_21 : decode cX5_takeControl 21 = .ok (.bipush 19, 2) := by decide +kernel
theorem dX5_takeControl_23 : decode cX5_takeControl 23 = .ok (.ireturn, 1) := by decide +kernel
theorem dX5_takeControl_24 : decode cX5_takeControl 24 = .ok (.aload_n 0, 1) := by decide +kernel
theorem dX5_takeControl_25 : decode cX5_takeControl 25 = .ok (.aload_n 1, 1) := by decide +kernel
theorem dX5_takeControl_26 : decode cX5_takeControl 26 = .ok (.iconst 0, 1) := by decide +kernel
theorem dX5_takeControl_27 : decode cX5_takeControl 27 = .ok (.invokevirtual 254, 3) := by decide +kernel
theorem dX5_takeControl_30 : decode cX5_takeControl 30 = .ok (.invokevirtual 258, 3) := by decide +kernel
theorem dX5_takeControl_33 : decode cX5_takeControl 33 = .ok (.astore_n 3, 1) := by decide +kernel
theorem dX5_takeControl_34 : decode cX5_takeControl 34 = .ok (.aload_n 3, 1) := by decide +kernel
theorem dX5_takeControl_35 : decode cX5_takeControl 35 = .ok (.ifnull 10, 3) := by decide +kernel
theorem dX5_takeControl_38 : decode cX5_takeControl 38 = .ok (.aload_n 3, 1) := by decide +kernel
theorem dX5_takeControl_39 : decode cX5_takeControl 39 = .ok (.getfield 101, 3) := by decide +kernel
theorem dX5_takeControl_42 : decode cX5_takeControl 42 = .ok (.ifCond .eq 6, 3) := by decide +kernel
theorem dX5_takeControl_45 : decode cX5_takeControl 45 = .ok (.bipush 49, 2) := by decide +kernel
theorem dX5_takeControl_47 : decode cX5_takeControl 47 = .ok (.ireturn, 1) := by decide +kernel
theorem dX5_takeControl_48 : decode cX5_takeControl 48 = .ok (.aload_n 3, 1) := by decide +kernel
theorem dX5_takeControl_49 : decode cX5_takeControl 49 = .ok (.getfield 261, 3) := by decide +kernel
theorem dX5_takeControl_52 : decode cX5_takeControl 52 = .ok (.aload_n 0, 1) := by decide +kernel
theorem dX5_takeControl_53 : decode cX5_takeControl 53 = .ok (.getfield 38, 3) := by decide +kernel
theorem dX5_takeControl_56 : decode cX5_takeControl 56 = .ok (.if_icmp .le 6, 3) := by decide +kernel
theorem dX5_takeControl_59 : decode cX5_takeControl 59 = .ok (.bipush 51, 2) := by decide +kernel
theorem dX5_takeControl_61 : decode cX5_takeControl 61 = .ok (.ireturn, 1) := by decide +kernel
theorem dX5_takeControl_62 : decode cX5_takeControl 62 = .ok (.aload_n 1, 1) := by decide +kernel
theorem dX5_takeControl_63 : decode cX5_takeControl 63 = .ok (.iconst 2, 1) := by decide +kernel
theorem dX5_takeControl_64 : decode cX5_takeControl 64 = .ok (.invokevirtual 273, 3) := by decide +kernel
theorem dX5_takeControl_67 : decode cX5_takeControl 67 = .ok (.istore 4, 2) := by decide +kernel
theorem dX5_takeControl_69 : decode cX5_takeControl 69 = .ok (.iload 4, 2) := by decide +kernel
theorem dX5_takeControl_71 : decode cX5_takeControl 71 = .ok (.iconst 0, 1) := by decide +kernel
theorem dX5_takeControl_72 : decode cX5_takeControl 72 = .ok (.iconst 3, 1) := by decide +kernel
theorem dX5_takeControl_73 : decode cX5_takeControl 73 = .ok (.invokestatic 79, 3) := by decide +kernel
theorem dX5_takeControl_76 : decode cX5_takeControl 76 = .ok (.ifCond .ne 6, 3) := by decide +kernel
theorem dX5_takeControl_79 : decode cX5_takeControl 79 = .ok (.bipush 49, 2) := by decide +kernel
theorem dX5_takeControl_81 : decode cX5_takeControl 81 = .ok (.ireturn, 1) := by decide +kernel
theorem dX5_takeControl_82 : decode cX5_takeControl 82 = .ok (.iload_n 2, 1) := by decide +kernel
theorem dX5_takeControl_83 : decode cX5_takeControl 83 = .ok (.iconst 3, 1) := by decide +kernel
theorem dX5_takeControl_84 : decode cX5_takeControl 84 = .ok (.isub, 1) := by decide +kernel
theorem dX5_takeControl_85 : decode cX5_takeControl 85 = .ok (.iload 4, 2) := by decide +kernel
theorem dX5_takeControl_87 : decode cX5_takeControl 87 = .ok (.iconst 3, 1) := by decide +kernel
theorem dX5_takeControl_88 : decode cX5_takeControl 88 = .ok (.if_icmp .ne 10, 3) := by decide +kernel
theorem dX5_takeControl_91 : decode cX5_takeControl 91 = .ok (.aload_n 3, 1) := by decide +kernel
theorem dX5_takeControl_92 : decode cX5_takeControl 92 = .ok (.getfield 98, 3) := by decide +kernel
theorem dX5_takeControl_95 : decode cX5_takeControl 95 = .ok (.goto 4, 3) := by decide +kernel
theorem dX5_takeControl_98 : decode cX5_takeControl 98 = .ok (.iconst 0, 1) := by decide +kernel
theorem dX5_takeControl_99 : decode cX5_takeControl 99 = .ok (.if_icmp .eq 6, 3) := by decide +kernel
theorem dX5_takeControl_102 : decode cX5_takeControl 102 = .ok (.bipush 19, 2) := by decide +kernel
theorem dX5_takeControl_104 : decode cX5_takeControl 104 = .ok (.ireturn, 1) := by decide +kernel
theorem dX5_takeControl_105 : decode cX5_takeControl 105 = .ok (.aload_n 3, 1) := by decide +kernel
theorem dX5_takeControl_106 : decode cX5_takeControl 106 = .ok (.iload 4, 2) := by decide +kernel
theorem dX5_takeControl_108 : decode cX5_takeControl 108 = .ok (.aload_n 1, 1) := by decide +kernel
theorem dX5_takeControl_109 : decode cX5_takeControl 109 = .ok (.invokestatic 274, 3) := by decide +kernel
theorem dX5_takeControl_112 : decode cX5_takeControl 112 = .ok (.aload_n 0, 1) := by decide +kernel
theorem dX5_takeControl_113 : decode cX5_takeControl 113 = .ok (.aload_n 1, 1) := by decide +kernel
theorem dX5_takeControl_114 : decode cX5_takeControl 114 = .ok (.invokevirtual 242, 3) := by decide +kernel
theorem dX5_takeControl_117 : decode cX5_takeControl 117 = .ok (.aload_n 0, 1) := by decide +kernel
theorem dX5_takeControl_118 : decode cX5_takeControl 118 = .ok (.getfield 67, 3) := by decide +kernel
theorem dX5_takeControl_121 : decode cX5_takeControl 121 = .ok (.aload_n 3, 1) := by decide +kernel
theorem dX5_takeControl_122 : decode cX5_takeControl 122 = .ok (.getfield 166, 3) := by decide +kernel
theorem dX5_takeControl_125 : decode cX5_takeControl 125 = .ok (.invokevirtual 265, 3) := by decide +kernel
theorem dX5_takeControl_128 : decode cX5_takeControl 128 = .ok (.aload_n 0, 1) := by decide +kernel
theorem dX5_takeControl_129 : decode cX5_takeControl 129 = .ok (.getfield 67, 3) := by decide +kernel
theorem dX5_takeControl_132 : decode cX5_takeControl 132 = .ok (.iload 4, 2) := by decide +kernel
theorem dX5_takeControl_134 : decode cX5_takeControl 134 = .ok (.invokevirtual 190, 3) := by decide +kernel
theorem dX5_takeControl_137 : decode cX5_takeControl 137 = .ok (.iconst 0, 1) := by decide +kernel
theorem dX5_takeControl_138 : decode cX5_takeControl 138 = .ok (.ireturn, 1) := by decide +kernel
theorem dX5_setControl_0 : decode cX5_setControl 0 = .ok (.iload_n 1, 1) := by decide +kernel
theorem dX5_setControl_1 : decode cX5_setControl 1 = .ok (.tableswitch 53 0 2 #[27, 34, 42], 27) := by decide +kernel
theorem dX5_setControl_28 : decode cX5_setControl 28 = .ok (.aload_n 0, 1) := by decide +kernel
theorem dX5_setControl_29 : decode cX5_setControl 29 = .ok (.invokevirtual 171, 3) := by decide +kernel
theorem dX5_setControl_32 : decode cX5_setControl 32 = .ok (.goto 35, 3) := by decide +kernel
theorem dX5_setControl_35 : decode cX5_setControl 35 = .ok (.aload_n 0, 1) := by decide +kernel
theorem dX5_setControl_36 : decode cX5_setControl 36 = .ok (.lconst 0, 1) := by decide +kernel
theorem dX5_setControl_37 : decode cX5_setControl 37 = .ok (.invokevirtual 278, 3) := by decide +kernel
theorem dX5_setControl_40 : decode cX5_setControl 40 = .ok (.goto 27, 3) := by decide +kernel
theorem dX5_setControl_43 : decode cX5_setControl 43 = .ok (.aload_n 0, 1) := by decide +kernel
theorem dX5_setControl_44 : decode cX5_setControl 44 = .ok (.aload_n 0, 1) := by decide +kernel
theorem dX5_setControl_45 : decode cX5_setControl 45 = .ok (.invokevirtual 162, 3) := by decide +kernel
theorem dX5_setControl_48 : decode cX5_setControl 48 = .ok (.invokevirtual 278, 3) := by decide +kernel
theorem dX5_setControl_51 : decode cX5_setControl 51 = .ok (.goto 16, 3) := by decide +kernel
theorem dX5_setControl_54 : decode cX5_setControl 54 = .ok (.aload_n 0, 1) := by decide +kernel
theorem dX5_setControl_55 : decode cX5_setControl 55 = .ok (.aload_n 2, 1) := by decide +kernel
theorem dX5_setControl_56 : decode cX5_setControl 56 = .ok (.iconst 3, 1) := by decide +kernel
theorem dX5_setControl_57 : decode cX5_setControl 57 = .ok (.aload_n 0, 1) := by decide +kernel
theorem dX5_setControl_58 : decode cX5_setControl 58 = .ok (.getfield 98, 3) := by decide +kernel
theorem dX5_setControl_61 : decode cX5_setControl 61 = .ok (.invokevirtual 270, 3) := by decide +kernel
theorem dX5_setControl_64 : decode cX5_setControl 64 = .ok (.invokevirtual 278, 3) := by decide +kernel
theorem dX5_setControl_67 : decode cX5_setControl 67 = .ok (.return_, 1) := by decide +kernel
theorem dX5_handleRoutine_0 : decode cX5_handleRoutine 0 = .ok (.aload_n 0, 1) := by decide +kernel
theorem dX5_handleRoutine_1 : decode cX5_handleRoutine 1 = .ok (.getfield 35, 3) := by decide +kernel
theorem dX5_handleRoutine_4 : decode cX5_handleRoutine 4 = .ok (.iconst 1, 1) := by decide +kernel
theorem dX5_handleRoutine_5 : decode cX5_handleRoutine 5 = .ok (.if_icmp .ne 6, 3) := by decide +kernel
theorem dX5_handleRoutine_8 : decode cX5_handleRoutine 8 = .ok (.bipush 127, 2) := by decide +kernel
theorem dX5_handleRoutine_10 : decode cX5_handleRoutine 10 = .ok (.ireturn, 1) := by decide +kernel
theorem dX5_handleRoutine_11 : decode cX5_handleRoutine 11 = .ok (.aload_n 1, 1) := by decide +kernel
theorem dX5_handleRoutine_12 : decode cX5_handleRoutine 12 = .ok (.invokevirtual 236, 3) := by decide +kernel
theorem dX5_handleRoutine_15 : decode cX5_handleRoutine 15 = .ok (.iconst 3, 1) := by decide +kernel
theorem dX5_handleRoutine_16 : decode cX5_handleRoutine 16 = .ok (.if_icmp .eq 6, 3) := by decide +kernel
theorem dX5_handleRoutine_19 : decode cX5_handleRoutine 19 = .ok (.bipush 19, 2) := by decide +kernel
theorem dX5_handleRoutine_21 : decode cX5_handleRoutine 21 = .ok (.ireturn, 1) := by decide +kernel
theorem dX5_handleRoutine_22 : decode cX5_handleRoutine 22 = .ok (.aload_n 1, 1) := by decide +kernel
theorem dX5_handleRoutine_23 : decode cX5_handleRoutine 23 = .ok (.invokevirtual 239, 3) := by decide +kernel
theorem dX5_handleRoutine_26 : decode cX5_handleRoutine 26 = .ok (.istore_n 2, 1) := by decide +kernel
theorem dX5_handleRoutine_27 : decode cX5_handleRoutine 27 = .ok (.iload_n 2, 1) := by decide +kernel
theorem dX5_handleRoutine_28 : decode cX5_handleRoutine 28 = .ok (.iconst 1, 1) := by decide +kernel
theorem dX5_handleRoutine_29 : decode cX5_handleRoutine 29 = .ok (.iconst 3, 1) := by decide +kernel
theorem dX5_handleRoutine_30 : decode cX5_handleRoutine 30 = .ok (.invokestatic 79, 3) := by decide +kernel
theorem dX5_handleRoutine_33 : decode cX5_handleRoutine 33 = .ok (.ifCond .ne 6, 3) := by decide +kernel
theorem dX5_handleRoutine_36 : decode cX5_handleRoutine 36 = .ok (.bipush 18, 2) := by decide +kernel
theorem dX5_handleRoutine_38 : decode cX5_handleRoutine 38 = .ok (.ireturn, 1) := by decide +kernel
theorem dX5_handleRoutine_39 : decode cX5_handleRoutine 39 = .ok (.aload_n 0, 1) := by decide +kernel
theorem dX5_handleRoutine_40 : decode cX5_handleRoutine 40 = .ok (.aload_n 1, 1) := by decide +kernel
theorem dX5_handleRoutine_41 : decode cX5_handleRoutine 41 = .ok (.iconst 1, 1) := by decide +kernel
theorem dX5_handleRoutine_42 : decode cX5_handleRoutine 42 = .ok (.invokevirtual 254, 3) := by decide +kernel
theorem dX5_handleRoutine_45 : decode cX5_handleRoutine 45 = .ok (.invokevirtual 108, 3) := by decide +kernel
theorem dX5_handleRoutine_48 : decode cX5_handleRoutine 48 = .ok (.astore_n 3, 1) := by decide +kernel
theorem dX5_handleRoutine_49 : decode cX5_handleRoutine 49 = .ok (.aload_n 3, 1) := by decide +kernel
theorem dX5_handleRoutine_50 : decode cX5_handleRoutine 50 = .ok (.ifnonnull 6, 3) := by decide +kernel
theorem dX5_handleRoutine_53 : decode cX5_handleRoutine 53 = .ok (.bipush 49, 2) := by decide +kernel
theorem dX5_handleRoutine_55 : decode cX5_handleRoutine 55 = .ok (.ireturn, 1) := by decide +kernel
theorem dX5_handleRoutine_56 : decode cX5_handleRoutine 56 = .ok (.aload_n 0, 1) := by decide +kernel
theorem dX5_handleRoutine_57 : decode cX5_handleRoutine 57 = .ok (.aload_n 3, 1) := by decide +kernel
theorem dX5_handleRoutine_58 : decode cX5_handleRoutine 58 = .ok (.iload_n 2, 1) := by decide +kernel
theorem dX5_handleRoutine_59 : decode cX5_handleRoutine 59 = .ok (.invokevirtual 282, 3) := by decide +kernel
theorem dX5_handleRoutine_62 : decode cX5_handleRoutine 62 = .ok (.istore 4, 2) := by decide +kernel
theorem dX5_handleRoutine_64 : decode cX5_handleRoutine 64 = .ok (.iload 4, 2) := by decide +kernel
theorem dX5_handleRoutine_66 : decode cX5_handleRoutine 66 = .ok (.ifCond .eq 6, 3) := by decide +kernel
theorem dX5_handleRoutine_69 : decode cX5_handleRoutine 69 = .ok (.iload 4, 2) := by decide +kernel
theorem dX5_handleRoutine_71 : decode cX5_handleRoutine 71 = .ok (.ireturn, 1) := by decide +kernel
theorem dX5_handleRoutine_72 : decode cX5_handleRoutine 72 = .ok (.aload_n 0, 1) := by decide +kernel
theorem dX5_handleRoutine_73 : decode cX5_handleRoutine 73 = .ok (.aload_n 1, 1) := by decide +kernel
theorem dX5_handleRoutine_74 : decode cX5_handleRoutine 74 = .ok (.invokevirtual 242, 3) := by decide +kernel
theorem dX5_handleRoutine_77 : decode cX5_handleRoutine 77 = .ok (.aload_n 0, 1) := by decide +kernel
theorem dX5_handleRoutine_78 : decode cX5_handleRoutine 78 = .ok (.getfield 67, 3) := by decide +kernel
theorem dX5_handleRoutine_81 : decode cX5_handleRoutine 81 = .ok (.iload_n 2, 1) := by decide +kernel
theorem dX5_handleRoutine_82 : decode cX5_handleRoutine 82 = .ok (.invokevirtual 190, 3) := by decide +kernel
theorem dX5_handleRoutine_85 : decode cX5_handleRoutine 85 = .ok (.aload_n 0, 1) := by decide +kernel
theorem dX5_handleRoutine_86 : decode cX5_handleRoutine 86 = .ok (.getfield 67, 3) := by decide +kernel
theorem dX5_handleRoutine_89 : decode cX5_handleRoutine 89 = .ok (.aload_n 3, 1) := by decide +kernel
theorem dX5_handleRoutine_90 : decode cX5_handleRoutine 90 = .ok (.getfield 169, 3) := by decide +kernel
theorem dX5_handleRoutine_93 : decode cX5_handleRoutine 93 = .ok (.invokevirtual 265, 3) := by decide +kernel
theorem dX5_handleRoutine_96 : decode cX5_handleRoutine 96 = .ok (.aload_n 0, 1) := by decide +kernel
theorem dX5_handleRoutine_97 : decode cX5_handleRoutine 97 = .ok (.getfield 67, 3) := by decide +kernel
theorem dX5_handleRoutine_100 : decode cX5_handleRoutine 100 = .ok (.aload_n 3, 1) := by decide +kernel
theorem dX5_handleRoutine_101 : decode cX5_handleRoutine 101 = .ok (.getfield 286, 3) := by decide +kernel
theorem dX5_handleRoutine_104 : decode cX5_handleRoutine 104 = .ok (.invokevirtual 190, 3) := by decide +kernel
theorem dX5_handleRoutine_107 : decode cX5_handleRoutine 107 = .ok (.iconst 0, 1) := by decide +kernel
theorem dX5_handleRoutine_108 : decode cX5_handleRoutine 108 = .ok (.ireturn, 1) := by decide +kernel
theorem dX5_applyToRoutine_0 : decode cX5_applyToRoutine 0 = .ok (.iload_n 2, 1) := by decide +kernel
theorem dX5_applyToRoutine_1 : decode cX5_applyToRoutine 1 = .ok (.iconst 1, 1) := by decide +kernel
theorem dX5_applyToRoutine_2 : decode cX5_applyToRoutine 2 = .ok (.if_icmp .ne 9, 3) := by decide +kernel
theorem dX5_applyToRoutine_5 : decode cX5_applyToRoutine 5 = .ok (.aload_n 0, 1) := by decide +kernel
theorem dX5_applyToRoutine_6 : decode cX5_applyToRoutine 6 = .ok (.aload_n 1, 1) := by decide +kernel
theorem dX5_applyToRoutine_7 : decode cX5_applyToRoutine 7 = .ok (.invokevirtual 289, 3) := by decide +kernel
theorem dX5_applyToRoutine_10 : decode cX5_applyToRoutine 10 = .ok (.ireturn, 1) := by decide +kernel
theorem dX5_applyToRoutine_11 : decode cX5_applyToRoutine 11 = .ok (.aload_n 1, 1) := by decide +kernel
theorem dX5_applyToRoutine_12 : decode cX5_applyToRoutine 12 = .ok (.getfield 293, 3) := by decide +kernel
theorem dX5_applyToRoutine_15 : decode cX5_applyToRoutine 15 = .ok (.ifCond .ne 6, 3) := by decide +kernel
theorem dX5_applyToRoutine_18 : decode cX5_applyToRoutine 18 = .ok (.bipush 36, 2) := by decide +kernel
theorem dX5_applyToRoutine_20 : decode cX5_applyToRoutine 20 = .ok (.ireturn, 1) := by decide +kernel
theorem dX5_applyToRoutine_21 : decode cX5_applyToRoutine 21 = .ok (.iload_n 2, 1) := by decide +kernel
theorem dX5_applyToRoutine_22 : decode cX5_applyToRoutine 22 = .ok (.iconst 2, 1) := by decide +kernel
theorem dX5_applyToRoutine_23 : decode cX5_applyToRoutine 23 = .ok (.if_icmp .ne 10, 3) := by decide +kernel
theorem dX5_applyToRoutine_26 : decode cX5_applyToRoutine 26 = .ok (.aload_n 1, 1) := by decide +kernel
theorem dX5_applyToRoutine_27 : decode cX5_applyToRoutine 27 = .ok (.iconst 0, 1) := by decide +kernel
theorem dX5_applyToRoutine_28 : decode cX5_applyToRoutine 28 = .ok (.putfield 286, 3) := by decide +kernel
theorem dX5_applyToRoutine_31 : decode cX5_applyToRoutine 31 = .ok (.iconst 0, 1) := by decide +kernel
theorem dX5_applyToRoutine_32 : decode cX5_applyToRoutine 32 = .ok (.ireturn, 1) := by decide +kernel
theorem dX5_applyToRoutine_33 : decode cX5_applyToRoutine 33 = .ok (.aload_n 0, 1) := by decide +kernel
theorem dX5_applyToRoutine_34 : decode cX5_applyToRoutine 34 = .ok (.aload_n 1, 1) := by decide +kernel
theorem dX5_applyToRoutine_35 : decode cX5_applyToRoutine 35 = .ok (.invokevirtual 296, 3) := by decide +kernel
theorem dX5_applyToRoutine_38 : decode cX5_applyToRoutine 38 = .ok (.ireturn, 1) := by decide +kernel
theorem dX5_startRoutine_0 : decode cX5_startRoutine 0 = .ok (.aload_n 1, 1) := by decide +kernel
theorem dX5_startRoutine_1 : decode cX5_startRoutine 1 = .ok (.getfield 286, 3) := by decide +kernel
theorem dX5_startRoutine_4 : decode cX5_startRoutine 4 = .ok (.ifCond .le 6, 3) := by decide +kernel
theorem dX5_startRoutine_7 : decode cX5_startRoutine 7 = .ok (.bipush 36, 2) := by decide +kernel
theorem dX5_startRoutine_9 : decode cX5_startRoutine 9 = .ok (.ireturn, 1) := by decide +kernel
theorem dX5_startRoutine_10 : decode cX5_startRoutine 10 = .ok (.aload_n 0, 1) := by decide +kernel
theorem dX5_startRoutine_11 : decode cX5_startRoutine 11 = .ok (.getfield 28, 3) := by decide +kernel
theorem dX5_startRoutine_14 : decode cX5_startRoutine 14 = .ok (.ifCond .ne 6, 3) := by decide +kernel
theorem dX5_startRoutine_17 : decode cX5_startRoutine 17 = .ok (.bipush 34, 2) := by decide +kernel
theorem dX5_startRoutine_19 : decode cX5_startRoutine 19 = .ok (.ireturn, 1) := by decide +kernel
theorem dX5_startRoutine_20 : decode cX5_startRoutine 20 = .ok (.aload_n 1, 1) := by decide +kernel
theorem dX5_startRoutine_21 : decode cX5_startRoutine 21 = .ok (.invokevirtual 299, 3) := by decide +kernel
theorem dX5_startRoutine_24 : decode cX5_startRoutine 24 = .ok (.iconst 0, 1) := by decide +kernel
theorem dX5_startRoutine_25 : decode cX5_startRoutine 25 = .ok (.ireturn, 1) := by decide +kernel
theorem dX5_askResult_0 : decode cX5_askResult 0 = .ok (.aload_n 1, 1) := by decide +kernel
theorem dX5_askResult_1 : decode cX5_askResult 1 = .ok (.getfield 286, 3) := by decide +kernel
theorem dX5_askResult_4 : decode cX5_askResult 4 = .ok (.ifCond .ne 5, 3) := by decide +kernel
theorem dX5_askResult_7 : decode cX5_askResult 7 = .ok (.iconst 0, 1) := by decide +kernel
theorem dX5_askResult_8 : decode cX5_askResult 8 = .ok (.ireturn, 1) := by decide +kernel
theorem dX5_askResult_9 : decode cX5_askResult 9 = .ok (.aload_n 1, 1) := by decide +kernel
theorem dX5_askResult_10 : decode cX5_askResult 10 = .ok (.getfield 302, 3) := by decide +kernel
theorem dX5_askResult_13 : decode cX5_askResult 13 = .ok (.aload_n 0, 1) := by decide +kernel
theorem dX5_askResult_14 : decode cX5_askResult 14 = .ok (.getfield 41, 3) := by decide +kernel
theorem dX5_askResult_17 : decode cX5_askResult 17 = .ok (.if_icmp .lt 6, 3) := by decide +kernel
theorem dX5_askResult_20 : decode cX5_askResult 20 = .ok (.bipush 16, 2) := by decide +kernel
theorem dX5_askResult_22 : decode cX5_askResult 22 = .ok (.ireturn, 1) := by decide +kernel
theorem dX5_askResult_23 : decode cX5_askResult 23 = .ok (.aload_n 1, 1) := by decide +kernel
theorem dX5_askResult_24 : decode cX5_askResult 24 = .ok (.dup, 1) := by decide +kernel
theorem dX5_askResult_25 : decode cX5_askResult 25 = .ok (.getfield 302, 3) := by decide +kernel
theorem dX5_askResult_28 : decode cX5_askResult 28 = .ok (.iconst 1, 1) := by decide +kernel
theorem dX5_askResult_29 : decode cX5_askResult 29 = .ok (.iadd, 1) := by decide +kernel
theorem dX5_askResult_30 : decode cX5_askResult 30 = .ok (.putfield 302, 3) := by decide +kernel
theorem dX5_askResult_33 : decode cX5_askResult 33 = .ok (.bipush 120, 2) := by decide +kernel
theorem dX5_askResult_35 : decode cX5_askResult 35 = .ok (.ireturn, 1) := by decide +kernel
theorem dX5_openTransfer_0 : decode cX5_openTransfer 0 = .ok (.aload_n 0, 1) := by decide +kernel
theorem dX5_openTransfer_1 : decode cX5_openTransfer 1 = .ok (.getfield 35, 3) := by decide +kernel
theorem dX5_openTransfer_4 : decode cX5_openTransfer 4 = .ok (.iconst 3, 1) := by decide +kernel
theorem dX5_openTransfer_5 : decode cX5_openTransfer 5 = .ok (.if_icmp .eq 6, 3) := by decide +kernel
theorem dX5_openTransfer_8 : decode cX5_openTransfer 8 = .ok (.bipush 127, 2) := by decide +kernel
theorem dX5_openTransfer_10 : decode cX5_openTransfer 10 = .ok (.ireturn, 1) := by decide +kernel
theorem dX5_openTransfer_11 : decode cX5_openTransfer 11 = .ok (.aload_n 1, 1) := by decide +kernel
theorem dX5_openTransfer_12 : decode cX5_openTransfer 12 = .ok (.invokevirtual 236, 3) := by decide +kernel
theorem dX5_openTransfer_15 : decode cX5_openTransfer 15 = .ok (.iconst 2, 1) := by decide +kernel
theorem dX5_openTransfer_16 : decode cX5_openTransfer 16 = .ok (.if_icmp .eq 6, 3) := by decide +kernel
theorem dX5_openTransfer_19 : decode cX5_openTransfer 19 = .ok (.bipush 19, 2) := by decide +kernel
theorem dX5_openTransfer_21 : decode cX5_openTransfer 21 = .ok (.ireturn, 1) := by decide +kernel
theorem dX5_openTransfer_22 : decode cX5_openTransfer 22 = .ok (.aload_n 0, 1) := by decide +kernel
theorem dX5_openTransfer_23 : decode cX5_openTransfer 23 = .ok (.getfield 74, 3) := by decide +kernel
theorem dX5_openTransfer_26 : decode cX5_openTransfer 26 = .ok (.getfield 305, 3) := by decide +kernel
theorem dX5_openTransfer_29 : decode cX5_openTransfer 29 = .ok (.ifCond .eq 6, 3) := by decide +kernel
theorem dX5_openTransfer_32 : decode cX5_openTransfer 32 = .ok (.bipush 112, 2) := by decide +kernel
theorem dX5_openTransfer_34 : decode cX5_openTransfer 34 = .ok (.ireturn, 1) := by decide +kernel
theorem dX5_openTransfer_35 : decode cX5_openTransfer 35 = .ok (.aload_n 1, 1) := by decide +kernel
theorem dX5_openTransfer_36 : decode cX5_openTransfer 36 = .ok (.iconst 0, 1) := by decide +kernel
theorem dX5_openTransfer_37 : decode cX5_openTransfer 37 = .ok (.invokevirtual 254, 3) := by decide +kernel
theorem dX5_openTransfer_40 : decode cX5_openTransfer 40 = .ok (.istore_n 2, 1) := by decide +kernel
theorem dX5_openTransfer_41 : decode cX5_openTransfer 41 = .ok (.iload_n 2, 1) := by decide +kernel
theorem dX5_openTransfer_42 : decode cX5_openTransfer 42 = .ok (.iconst 1, 1) := by decide +kernel
theorem dX5_openTransfer_43 : decode cX5_openTransfer 43 = .ok (.sipush 200, 3) := by decide +kernel
theorem dX5_openTransfer_46 : decode cX5_openTransfer 46 = .ok (.invokestatic 79, 3) := by decide +kernel
theorem dX5_openTransfer_49 : decode cX5_openTransfer 49 = .ok (.ifCond .ne 6, 3) := by decide +kernel
theorem dX5_openTransfer_52 : decode cX5_openTransfer 52 = .ok (.bipush 49, 2) := by decide +kernel
theorem dX5_openTransfer_54 : decode cX5_openTransfer 54 = .ok (.ireturn, 1) := by decide +kernel
theorem dX5_openTransfer_55 : decode cX5_openTransfer 55 = .ok (.aload_n 0, 1) := by decide +kernel
theorem dX5_openTransfer_56 : decode cX5_openTransfer 56 = .ok (.getfield 74, 3) := by decide +kernel
theorem dX5_openTransfer_59 : decode cX5_openTransfer 59 = .ok (.iload_n 2, 1) := by decide +kernel
theorem dX5_openTransfer_60 : decode cX5_openTransfer 60 = .ok (.invokevirtual 308, 3) := by decide +kernel
theorem dX5_openTransfer_63 : decode cX5_openTransfer 63 = .ok (.aload_n 0, 1) := by decide +kernel
theorem dX5_openTransfer_64 : decode cX5_openTransfer 64 = .ok (.aload_n 1, 1) := by decide +kernel
theorem dX5_openTransfer_65 : decode cX5_openTransfer 65 = .ok (.invokevirtual 242, 3) := by decide +kernel
theorem dX5_openTransfer_68 : decode cX5_openTransfer 68 = .ok (.aload_n 0, 1) := by decide +kernel
theorem dX5_openTransfer_69 : decode cX5_openTransfer 69 = .ok (.getfield 67, 3) := by decide +kernel
theorem dX5_openTransfer_72 : decode cX5_openTransfer 72 = .ok (.bipush 8, 2) := by decide +kernel
theorem dX5_openTransfer_74 : decode cX5_openTransfer 74 = .ok (.invokevirtual 190, 3) := by decide +kernel
theorem dX5_openTransfer_77 : decode cX5_openTransfer 77 = .ok (.iconst 0, 1) := by decide +kernel
theorem dX5_openTransfer_78 : decode cX5_openTransfer 78 = .ok (.ireturn, 1) := by decide +kernel
theorem dX5_takeBlock_0 : decode cX5_takeBlock 0 = .ok (.aload_n 0, 1) := by decide +kernel
theorem dX5_takeBlock_1 : decode cX5_takeBlock 1 = .ok (.getfield 35, 3) := by decide +kernel
theorem dX5_takeBlock_4 : decode cX5_takeBlock 4 = .ok (.iconst 3, 1) := by decide +kernel
theorem dX5_takeBlock_5 : decode cX5_takeBlock 5 = .ok (.if_icmp .eq 6, 3) := by decide +kernel
theorem dX5_takeBlock_8 : decode cX5_takeBlock 8 = .ok (.bipush 127, 2) := by decide +kernel
theorem dX5_takeBlock_10 : decode cX5_takeBlock 10 = .ok (.ireturn, 1) := by decide +kernel
theorem dX5_takeBlock_11 : decode cX5_takeBlock 11 = .ok (.aload_n 1, 1) := by decide +kernel
theorem dX5_takeBlock_12 : decode cX5_takeBlock 12 = .ok (.invokevirtual 236, 3) := by decide +kernel
theorem dX5_takeBlock_15 : decode cX5_takeBlock 15 = .ok (.iconst 1, 1) := by decide +kernel
theorem dX5_takeBlock_16 : decode cX5_takeBlock 16 = .ok (.isub, 1) := by decide +kernel
theorem dX5_takeBlock_17 : decode cX5_takeBlock 17 = .ok (.istore_n 2, 1) := by decide +kernel
theorem dX5_takeBlock_18 : decode cX5_takeBlock 18 = .ok (.iload_n 2, 1) := by decide +kernel
theorem dX5_takeBlock_19 : decode cX5_takeBlock 19 = .ok (.iconst 1, 1) := by decide +kernel
theorem dX5_takeBlock_20 : decode cX5_takeBlock 20 = .ok (.bipush 8, 2) := by decide +kernel
theorem dX5_takeBlock_22 : decode cX5_takeBlock 22 = .ok (.invokestatic 79, 3) := by decide +kernel
theorem dX5_takeBlock_25 : decode cX5_takeBlock 25 = .ok (.ifCond .ne 6, 3) := by decide +kernel
theorem dX5_takeBlock_28 : decode cX5_takeBlock 28 = .ok (.bipush 19, 2) := by decide +kernel
theorem dX5_takeBlock_30 : decode cX5_takeBlock 30 = .ok (.ireturn, 1) := by decide +kernel
theorem dX5_takeBlock_31 : decode cX5_takeBlock 31 = .ok (.aload_n 0, 1) := by decide +kernel
theorem dX5_takeBlock_32 : decode cX5_takeBlock 32 = .ok (.getfield 74, 3) := by decide +kernel
theorem dX5_takeBlock_35 : decode cX5_takeBlock 35 = .ok (.getfield 305, 3) := by decide +kernel
theorem dX5_takeBlock_38 : decode cX5_takeBlock 38 = .ok (.ifCond .ne 6, 3) := by decide +kernel
theorem dX5_takeBlock_41 : decode cX5_takeBlock 41 = .ok (.bipush 36, 2) := by decide +kernel
theorem dX5_takeBlock_43 : decode cX5_takeBlock 43 = .ok (.ireturn, 1) := by decide +kernel
theorem dX5_takeBlock_44 : decode cX5_takeBlock 44 = .ok (.aload_n 1, 1) := by decide +kernel
theorem dX5_takeBlock_45 : decode cX5_takeBlock 45 = .ok (.iconst 0, 1) := by decide +kernel
theorem dX5_takeBlock_46 : decode cX5_takeBlock 46 = .ok (.invokevirtual 273, 3) := by decide +kernel
theorem dX5_takeBlock_49 : decode cX5_takeBlock 49 = .ok (.istore_n 3, 1) := by decide +kernel
theorem dX5_takeBlock_50 : decode cX5_takeBlock 50 = .ok (.aload_n 0, 1) := by decide +kernel
theorem dX5_takeBlock_51 : decode cX5_takeBlock 51 = .ok (.getfield 74, 3) := by decide +kernel
theorem dX5_takeBlock_54 : decode cX5_takeBlock 54 = .ok (.iload_n 3, 1) := by decide +kernel
theorem dX5_takeBlock_55 : decode cX5_takeBlock 55 = .ok (.invokevirtual 311, 3) := by decide +kernel
theorem dX5_takeBlock_58 : decode cX5_takeBlock 58 = .ok (.ifCond .ne 40, 3) := by decide +kernel
theorem dX5_takeBlock_61 : decode cX5_takeBlock 61 = .ok (.iload_n 3, 1) := by decide +kernel
theorem dX5_takeBlock_62 : decode cX5_takeBlock 62 = .ok (.aload_n 0, 1) := by decide +kernel
theorem dX5_takeBlock_63 : decode cX5_takeBlock 63 = .ok (.getfield 74, 3) := by decide +kernel
theorem dX5_takeBlock_66 : decode cX5_takeBlock 66 = .ok (.invokevirtual 314, 3) := by decide +kernel
theorem dX5_takeBlock_69 : decode cX5_takeBlock 69 = .ok (.if_icmp .eq 6, 3) := by decide +kernel
theorem dX5_takeBlock_72 : decode cX5_takeBlock 72 = .ok (.bipush 115, 2) := by decide +kernel
theorem dX5_takeBlock_74 : decode cX5_takeBlock 74 = .ok (.ireturn, 1) := by decide +kernel
theorem dX5_takeBlock_75 : decode cX5_takeBlock 75 = .ok (.iload_n 2, 1) := by decide +kernel
theorem dX5_takeBlock_76 : decode cX5_takeBlock 76 = .ok (.aload_n 0, 1) := by decide +kernel
theorem dX5_takeBlock_77 : decode cX5_takeBlock 77 = .ok (.getfield 74, 3) := by decide +kernel
theorem dX5_takeBlock_80 : decode cX5_takeBlock 80 = .ok (.getfield 148, 3) := by decide +kernel
theorem dX5_takeBlock_83 : decode cX5_takeBlock 83 = .ok (.if_icmp .le 6, 3) := by decide +kernel
theorem dX5_takeBlock_86 : decode cX5_takeBlock 86 = .ok (.bipush 113, 2) := by decide +kernel
theorem dX5_takeBlock_88 : decode cX5_takeBlock 88 = .ok (.ireturn, 1) := by decide +kernel
theorem dX5_takeBlock_89 : decode cX5_takeBlock 89 = .ok (.aload_n 0, 1) := by decide +kernel
theorem dX5_takeBlock_90 : decode cX5_takeBlock 90 = .ok (.getfield 74, 3) := by decide +kernel
theorem dX5_takeBlock_93 : decode cX5_takeBlock 93 = .ok (.aload_n 1, 1) := by decide +kernel
theorem dX5_takeBlock_94 : decode cX5_takeBlock 94 = .ok (.iload_n 2, 1) := by decide +kernel
theorem dX5_takeBlock_95 : decode cX5_takeBlock 95 = .ok (.invokevirtual 317, 3) := by decide +kernel
theorem dX5_takeBlock_98 : decode cX5_takeBlock 98 = .ok (.aload_n 0, 1) := by decide +kernel
theorem dX5_takeBlock_99 : decode cX5_takeBlock 99 = .ok (.aload_n 1, 1) := by decide +kernel
theorem dX5_takeBlock_100 : decode cX5_takeBlock 100 = .ok (.invokevirtual 242, 3) := by decide +kernel
theorem dX5_takeBlock_103 : decode cX5_takeBlock 103 = .ok (.aload_n 0, 1) := by decide +kernel
theorem dX5_takeBlock_104 : decode cX5_takeBlock 104 = .ok (.getfield 67, 3) := by decide +kernel
theorem dX5_takeBlock_107 : decode cX5_takeBlock 107 = .ok (.iload_n 3, 1) := by decide +kernel
theorem dX5_takeBlock_108 : decode cX5_takeBlock 108 = .ok (.invokevirtual 190, 3) := by decide +kernel
theorem dX5_takeBlock_111 : decode cX5_takeBlock 111 = .ok (.iconst 0, 1) := by decide +kernel
theorem dX5_takeBlock_112 : decode cX5_takeBlock 112 = .ok (.ireturn, 1) := by decide +kernel
theorem dX5_closeTransfer_0 : decode cX5_closeTransfer 0 = .ok (.aload_n 0, 1) := by decide +kernel
theorem dX5_closeTransfer_1 : decode cX5_closeTransfer 1 = .ok (.getfield 35, 3) := by decide +kernel
theorem dX5_closeTransfer_4 : decode cX5_closeTransfer 4 = .ok (.iconst 3, 1) := by decide +kernel
theorem dX5_closeTransfer_5 : decode cX5_closeTransfer 5 = .ok (.if_icmp .eq 6, 3) := by decide +kernel
theorem dX5_closeTransfer_8 : decode cX5_closeTransfer 8 = .ok (.bipush 127, 2) := by decide +kernel
theorem dX5_closeTransfer_10 : decode cX5_closeTransfer 10 = .ok (.ireturn, 1) := by decide +kernel
theorem dX5_closeTransfer_11 : decode cX5_closeTransfer 11 = .ok (.aload_n 1, 1) := by decide +kernel
theorem dX5_closeTransfer_12 : decode cX5_closeTransfer 12 = .ok (.invokevirtual 236, 3) := by decide +kernel
theorem dX5_closeTransfer_15 : decode cX5_closeTransfer 15 = .ok (.ifCond .eq 6, 3) := by decide +kernel
theorem dX5_closeTransfer_18 : decode cX5_closeTransfer 18 = .ok (.bipush 19, 2) := by decide +kernel
theorem dX5_closeTransfer_20 : decode cX5_closeTransfer 20 = .ok (.ireturn, 1) := by decide +kernel
theorem dX5_closeTransfer_21 : decode cX5_closeTransfer 21 = .ok (.aload_n 0, 1) := by decide +kernel
theorem dX5_closeTransfer_22 : decode cX5_closeTransfer 22 = .ok (.getfield 74, 3) := by decide +kernel
theorem dX5_closeTransfer_25 : decode cX5_closeTransfer 25 = .ok (.getfield 305, 3) := by decide +kernel
theorem dX5_closeTransfer_28 : decode cX5_closeTransfer 28 = .ok (.ifCond .eq 13, 3) := by decide +kernel
theorem dX5_closeTransfer_31 : decode cX5_closeTransfer 31 = .ok (.aload_n 0, 1) := by decide +kernel
theorem dX5_closeTransfer_32 : decode cX5_closeTransfer 32 = .ok (.getfield 74, 3) := by decide +kernel
theorem dX5_closeTransfer_35 : decode cX5_closeTransfer 35 = .ok (.getfield 148, 3) := by decide +kernel
theorem dX5_closeTransfer_38 : decode cX5_closeTransfer 38 = .ok (.ifCond .le 6, 3) := by decide +kernel
theorem dX5_closeTransfer_41 : decode cX5_closeTransfer 41 = .ok (.bipush 36, 2) := by decide +kernel
theorem dX5_closeTransfer_43 : decode cX5_closeTransfer 43 = .ok (.ireturn, 1) := by decide +kernel
theorem dX5_closeTransfer_44 : decode cX5_closeTransfer 44 = .ok (.aload_n 0, 1) := by decide +kernel
theorem dX5_closeTransfer_45 : decode cX5_closeTransfer 45 = .ok (.getfield 74, 3) := by decide +kernel
theorem dX5_closeTransfer_48 : decode cX5_closeTransfer 48 = .ok (.getfield 321, 3) := by decide +kernel
theorem dX5_closeTransfer_51 : decode cX5_closeTransfer 51 = .ok (.istore_n 2, 1) := by decide +kernel
theorem dX5_closeTransfer_52 : decode cX5_closeTransfer 52 = .ok (.aload_n 0, 1) := by decide +kernel
theorem dX5_closeTransfer_53 : decode cX5_closeTransfer 53 = .ok (.getfield 74, 3) := by decide +kernel
theorem dX5_closeTransfer_56 : decode cX5_closeTransfer 56 = .ok (.invokevirtual 174, 3) := by decide +kernel
theorem dX5_closeTransfer_59 : decode cX5_closeTransfer 59 = .ok (.aload_n 0, 1) := by decide +kernel
theorem dX5_closeTransfer_60 : decode cX5_closeTransfer 60 = .ok (.aload_n 1, 1) := by decide +kernel
theorem dX5_closeTransfer_61 : decode cX5_closeTransfer 61 = .ok (.invokevirtual 242, 3) := by decide +kernel
theorem dX5_closeTransfer_64 : decode cX5_closeTransfer 64 = .ok (.aload_n 0, 1) := by decide +kernel
theorem dX5_closeTransfer_65 : decode cX5_closeTransfer 65 = .ok (.getfield 67, 3) := by decide +kernel
theorem dX5_closeTransfer_68 : decode cX5_closeTransfer 68 = .ok (.iload_n 2, 1) := by decide +kernel
theorem dX5_closeTransfer_69 : decode cX5_closeTransfer 69 = .ok (.invokevirtual 265, 3) := by decide +kernel
theorem dX5_closeTransfer_72 : decode cX5_closeTransfer 72 = .ok (.iconst 0, 1) := by decide +kernel
theorem dX5_closeTransfer_73 : decode cX5_closeTransfer 73 = .ok (.ireturn, 1) := by decide +kernel
theorem dX5_beginReply_0 : decode cX5_beginReply 0 = .ok (.aload_n 0, 1) := by decide +kernel
theorem dX5_beginReply_1 : decode cX5_beginReply 1 = .ok (.getfield 67, 3) := by decide +kernel
theorem dX5_beginReply_4 : decode cX5_beginReply 4 = .ok (.aload_n 1, 1) := by decide +kernel
theorem dX5_beginReply_5 : decode cX5_beginReply 5 = .ok (.invokevirtual 193, 3) := by decide +kernel
theorem dX5_beginReply_8 : decode cX5_beginReply 8 = .ok (.bipush 64, 2) := by decide +kernel
theorem dX5_beginReply_10 : decode cX5_beginReply 10 = .ok (.iadd, 1) := by decide +kernel
theorem dX5_beginReply_11 : decode cX5_beginReply 11 = .ok (.invokevirtual 190, 3) := by decide +kernel
theorem dX5_beginReply_14 : decode cX5_beginReply 14 = .ok (.return_, 1) := by decide +kernel
