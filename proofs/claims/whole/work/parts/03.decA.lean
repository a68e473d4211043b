theorem dX0_init_0 : decode cX0_init 0 = .ok (.aload_n 0, 1) := by decide +kernel
theorem dX0_init_1 : decode cX0_init 1 = .ok (.invokespecial 3, 3) := by decide +kernel
theorem dX0_init_4 : decode cX0_init 4 = .ok (.aload_n 0, 1) := by decide +kernel
theorem dX0_init_5 : decode cX0_init 5 = .ok (.bipush 41, 2) := by decide +kernel
theorem dX0_init_7 : decode cX0_init 7 = .ok (.newarray .byte, 2) := by decide +kernel
theorem dX0_init_9 : decode cX0_init 9 = .ok (.putfield 9, 3) := by decide +kernel
theorem dX0_init_12 : decode cX0_init 12 = .ok (.aload_n 0, 1) := by decide +kernel
theorem dX0_init_13 : decode cX0_init 13 = .ok (.iconst 0, 1) := by decide +kernel
theorem dX0_init_14 : decode cX0_init 14 = .ok (.putfield 15, 3) := by decide +kernel
theorem dX0_init_17 : decode cX0_init 17 = .ok (.return_, 1) := by decide +kernel
theorem dX0_clear_0 : decode cX0_clear 0 = .ok (.aload_n 0, 1) := by decide +kernel
theorem dX0_clear_1 : decode cX0_clear 1 = .ok (.iconst 0, 1) := by decide +kernel
theorem dX0_clear_2 : decode cX0_clear 2 = .ok (.putfield 15, 3) := by decide +kernel
theorem dX0_clear_5 : decode cX0_clear 5 = .ok (.return_, 1) := by decide +kernel
theorem dX0_put_0 : decode cX0_put 0 = .ok (.aload_n 0, 1) := by decide +kernel
theorem dX0_put_1 : decode cX0_put 1 = .ok (.getfield 15, 3) := by decide +kernel
theorem dX0_put_4 : decode cX0_put 4 = .ok (.ifCond .lt 36, 3) := by decide +kernel
theorem dX0_put_7 : decode cX0_put 7 = .ok (.aload_n 0, 1) := by decide +kernel
theorem dX0_put_8 : decode cX0_put 8 = .ok (.getfield 15, 3) := by decide +kernel
theorem dX0_put_11 : decode cX0_put 11 = .ok (.aload_n 0, 1) := by decide +kernel
theorem dX0_put_12 : decode cX0_put 12 = .ok (.getfield 9, 3) := by decide +kernel
theorem dX0_put_15 : decode cX0_put 15 = .ok (.arraylength, 1) := by decide +kernel
theorem dX0_put_16 : decode cX0_put 16 = .ok (.if_icmp .ge 24, 3) := by decide +kernel
theorem dX0_put_19 : decode cX0_put 19 = .ok (.aload_n 0, 1) := by decide +kernel
theorem dX0_put_20 : decode cX0_put 20 = .ok (.getfield 9, 3) := by decide +kernel
theorem dX0_put_23 : decode cX0_put 23 = .ok (.aload_n 0, 1) := by decide +kernel
theorem dX0_put_24 : decode cX0_put 24 = .ok (.getfield 15, 3) := by decide +kernel
theorem dX0_put_27 : decode cX0_put 27 = .ok (.iload_n 1, 1) := by decide +kernel
theorem dX0_put_28 : decode cX0_put 28 = .ok (.i2b, 1) := by decide +kernel
theorem dX0_put_29 : decode cX0_put 29 = .ok (.bastore, 1) := by decide +kernel
theorem dX0_put_30 : decode cX0_put 30 = .ok (.aload_n 0, 1) := by decide +kernel
theorem dX0_put_31 : decode cX0_put 31 = .ok (.dup, 1) := by decide +kernel
theorem dX0_put_32 : decode cX0_put 32 = .ok (.getfield 15, 3) := by decide +kernel
theorem dX0_put_35 : decode cX0_put 35 = .ok (.iconst 1, 1) := by decide +kernel
theorem dX0_put_36 : decode cX0_put 36 = .ok (.iadd, 1) := by decide +kernel
theorem dX0_put_37 : decode cX0_put 37 = .ok (.putfield 15, 3) := by decide +kernel
theorem dX0_put_40 : decode cX0_put 40 = .ok (.return_, 1) := by decide +kernel
theorem dX0_putWord_0 : decode cX0_putWord 0 = .ok (.aload_n 0, 1) := by decide +kernel
theorem dX0_putWord_1 : decode cX0_putWord 1 = .ok (.iload_n 1, 1) := by decide +kernel
theorem dX0_putWord_2 : decode cX0_putWord 2 = .ok (.bipush 8, 2) := by decide +kernel
theorem dX0_putWord_4 : decode cX0_putWord 4 = .ok (.ishr, 1) := by decide +kernel
theorem dX0_putWord_5 : decode cX0_putWord 5 = .ok (.invokevirtual 19, 3) := by decide +kernel
theorem dX0_putWord_8 : decode cX0_putWord 8 = .ok (.aload_n 0, 1) := by decide +kernel
theorem dX0_putWord_9 : decode cX0_putWord 9 = .ok (.iload_n 1, 1) := by decide +kernel
theorem dX0_putWord_10 : decode cX0_putWord 10 = .ok (.invokevirtual 19, 3) := by decide +kernel
theorem dX0_putWord_13 : decode cX0_putWord 13 = .ok (.return_, 1) := by decide +kernel
theorem dX0_has_0 : decode cX0_has 0 = .ok (.iload_n 1, 1) := by decide +kernel
theorem dX0_has_1 : decode cX0_has 1 = .ok (.ifCond .lt 24, 3) := by decide +kernel
theorem dX0_has_4 : decode cX0_has 4 = .ok (.iload_n 1, 1) := by decide +kernel
theorem dX0_has_5 : decode cX0_has 5 = .ok (.aload_n 0, 1) := by decide +kernel
theorem dX0_has_6 : decode cX0_has 6 = .ok (.getfield 15, 3) := by decide +kernel
theorem dX0_has_9 : decode cX0_has 9 = .ok (.if_icmp .ge 16, 3) := by decide +kernel
theorem dX0_has_12 : decode cX0_has 12 = .ok (.iload_n 1, 1) := by decide +kernel
theorem dX0_has_13 : decode cX0_has 13 = .ok (.aload_n 0, 1) := by decide +kernel
theorem dX0_has_14 : decode cX0_has 14 = .ok (.getfield 9, 3) := by decide +kernel
theorem dX0_has_17 : decode cX0_has 17 = .ok (.arraylength, 1) := by decide +kernel
theorem dX0_has_18 : decode cX0_has 18 = .ok (.if_icmp .ge 7, 3) := by decide +kernel
theorem dX0_has_21 : decode cX0_has 21 = .ok (.iconst 1, 1) := by decide +kernel
theorem dX0_has_22 : decode cX0_has 22 = .ok (.goto 4, 3) := by decide +kernel
theorem dX0_has_25 : decode cX0_has 25 = .ok (.iconst 0, 1) := by decide +kernel
theorem dX0_has_26 : decode cX0_has 26 = .ok (.ireturn, 1) := by decide +kernel
theorem dX0_octetAt_0 : decode cX0_octetAt 0 = .ok (.aload_n 0, 1) := by decide +kernel
theorem dX0_octetAt_1 : decode cX0_octetAt 1 = .ok (.iload_n 1, 1) := by decide +kernel
theorem dX0_octetAt_2 : decode cX0_octetAt 2 = .ok (.invokevirtual 23, 3) := by decide +kernel
theorem dX0_octetAt_5 : decode cX0_octetAt 5 = .ok (.ifCond .eq 12, 3) := by decide +kernel
theorem dX0_octetAt_8 : decode cX0_octetAt 8 = .ok (.aload_n 0, 1) := by decide +kernel
theorem dX0_octetAt_9 : decode cX0_octetAt 9 = .ok (.getfield 9, 3) := by decide +kernel
theorem dX0_octetAt_12 : decode cX0_octetAt 12 = .ok (.iload_n 1, 1) := by decide +kernel
theorem dX0_octetAt_13 : decode cX0_octetAt 13 = .ok (.baload, 1) := by decide +kernel
theorem dX0_octetAt_14 : decode cX0_octetAt 14 = .ok (.goto 4, 3) := by decide +kernel
theorem dX0_octetAt_17 : decode cX0_octetAt 17 = .ok (.iconst 0, 1) := by decide +kernel
theorem dX0_octetAt_18 : decode cX0_octetAt 18 = .ok (.ireturn, 1) := by decide +kernel
theorem dX1_init_0 : decode cX1_init 0 = .ok (.aload_n 0, 1) := by decide +kernel
theorem dX1_init_1 : decode cX1_init 1 = .ok (.invokespecial 3, 3) := by decide +kernel
theorem dX1_init_4 : decode cX1_init 4 = .ok (.aload_n 0, 1) := by decide +kernel
theorem dX1_init_5 : decode cX1_init 5 = .ok (.iconst 1, 1) := by decide +kernel
theorem dX1_init_6 : decode cX1_init 6 = .ok (.putfield 9, 3) := by decide +kernel
theorem dX1_init_9 : decode cX1_init 9 = .ok (.aload_n 0, 1) := by decide +kernel
theorem dX1_init_10 : decode cX1_init 10 = .ok (.lconst 0, 1) := by decide +kernel
theorem dX1_init_11 : decode cX1_init 11 = .ok (.putfield 15, 3) := by decide +kernel
theorem dX1_init_14 : decode cX1_init 14 = .ok (.aload_n 0, 1) := by decide +kernel
theorem dX1_init_15 : decode cX1_init 15 = .ok (.iconst 0, 1) := by decide +kernel
theorem dX1_init_16 : decode cX1_init 16 = .ok (.putfield 19, 3) := by decide +kernel
theorem dX1_init_19 : decode cX1_init 19 = .ok (.aload_n 0, 1) := by decide +kernel
theorem dX1_init_20 : decode cX1_init 20 = .ok (.lconst 0, 1) := by decide +kernel
theorem dX1_init_21 : decode cX1_init 21 = .ok (.putfield 22, 3) := by decide +kernel
theorem dX1_init_24 : decode cX1_init 24 = .ok (.aload_n 0, 1) := by decide +kernel
theorem dX1_init_25 : decode cX1_init 25 = .ok (.iload_n 1, 1) := by decide +kernel
theorem dX1_init_26 : decode cX1_init 26 = .ok (.putfield 25, 3) := by decide +kernel
theorem dX1_init_29 : decode cX1_init 29 = .ok (.aload_n 0, 1) := by decide +kernel
theorem dX1_init_30 : decode cX1_init 30 = .ok (.iload_n 2, 1) := by decide +kernel
theorem dX1_init_31 : decode cX1_init 31 = .ok (.putfield 29, 3) := by decide +kernel
theorem dX1_init_34 : decode cX1_init 34 = .ok (.aload_n 0, 1) := by decide +kernel
theorem dX1_init_35 : decode cX1_init 35 = .ok (.iload_n 3, 1) := by decide +kernel
theorem dX1_init_36 : decode cX1_init 36 = .ok (.putfield 32, 3) := by decide +kernel
theorem dX1_init_39 : decode cX1_init 39 = .ok (.aload_n 0, 1) := by decide +kernel
theorem dX1_init_40 : decode cX1_init 40 = .ok (.iload 4, 2) := by decide +kernel
theorem dX1_init_42 : decode cX1_init 42 = .ok (.putfield 35, 3) := by decide +kernel
theorem dX1_init_45 : decode cX1_init 45 = .ok (.aload_n 0, 1) := by decide +kernel
theorem dX1_init_46 : decode cX1_init 46 = .ok (.iload 5, 2) := by decide +kernel
theorem dX1_init_48 : decode cX1_init 48 = .ok (.putfield 38, 3) := by decide +kernel
theorem dX1_init_51 : decode cX1_init 51 = .ok (.aload_n 0, 1) := by decide +kernel
theorem dX1_init_52 : decode cX1_init 52 = .ok (.iload 5, 2) := by decide +kernel
theorem dX1_init_54 : decode cX1_init 54 = .ok (.ifCond .eq 8, 3) := by decide +kernel
theorem dX1_init_57 : decode cX1_init 57 = .ok (.bipush 8, 2) := by decide +kernel
theorem dX1_init_59 : decode cX1_init 59 = .ok (.goto 4, 3) := by decide +kernel
theorem dX1_init_62 : decode cX1_init 62 = .ok (.iconst 0, 1) := by decide +kernel
theorem dX1_init_63 : decode cX1_init 63 = .ok (.anewarray 10, 3) := by decide +kernel
theorem dX1_init_66 : decode cX1_init 66 = .ok (.putfield 41, 3) := by decide +kernel
theorem dX1_init_69 : decode cX1_init 69 = .ok (.aload_n 0, 1) := by decide +kernel
theorem dX1_init_70 : decode cX1_init 70 = .ok (.iload 5, 2) := by decide +kernel
theorem dX1_init_72 : decode cX1_init 72 = .ok (.ifCond .eq 8, 3) := by decide +kernel
theorem dX1_init_75 : decode cX1_init 75 = .ok (.bipush 8, 2) := by decide +kernel
theorem dX1_init_77 : decode cX1_init 77 = .ok (.goto 4, 3) := by decide +kernel
theorem dX1_init_80 : decode cX1_init 80 = .ok (.iconst 0, 1) := by decide +kernel
theorem dX1_init_81 : decode cX1_init 81 = .ok (.newarray .int, 2) := by decide +kernel
theorem dX1_init_83 : decode cX1_init 83 = .ok (.putfield 45, 3) := by decide +kernel
theorem dX1_init_86 : decode cX1_init 86 = .ok (.return_, 1) := by decide +kernel
theorem dX1_append_0 : decode cX1_append 0 = .ok (.iconst 0, 1) := by decide +kernel
theorem dX1_append_1 : decode cX1_append 1 = .ok (.istore_n 3, 1) := by decide +kernel
theorem dX1_append_2 : decode cX1_append 2 = .ok (.iload_n 3, 1) := by decide +kernel
theorem dX1_append_3 : decode cX1_append 3 = .ok (.iload_n 2, 1) := by decide +kernel
theorem dX1_append_4 : decode cX1_append 4 = .ok (.if_icmp .ge 70, 3) := by decide +kernel
theorem dX1_append_7 : decode cX1_append 7 = .ok (.aload_n 0, 1) := by decide +kernel
theorem dX1_append_8 : decode cX1_append 8 = .ok (.getfield 29, 3) := by decide +kernel
theorem dX1_append_11 : decode cX1_append 11 = .ok (.ifCond .lt 57, 3) := by decide +kernel
theorem dX1_append_14 : decode cX1_append 14 = .ok (.aload_n 0, 1) := by decide +kernel
theorem dX1_append_15 : decode cX1_append 15 = .ok (.getfield 29, 3) := by decide +kernel
theorem dX1_append_18 : decode cX1_append 18 = .ok (.aload_n 0, 1) := by decide +kernel
theorem dX1_append_19 : decode cX1_append 19 = .ok (.getfield 41, 3) := by decide +kernel
theorem dX1_append_22 : decode cX1_append 22 = .ok (.arraylength, 1) := by decide +kernel
theorem dX1_append_23 : decode cX1_append 23 = .ok (.if_icmp .ge 45, 3) := by decide +kernel
theorem dX1_append_26 : decode cX1_append 26 = .ok (.aload_n 0, 1) := by decide +kernel
theorem dX1_append_27 : decode cX1_append 27 = .ok (.getfield 29, 3) := by decide +kernel
theorem dX1_append_30 : decode cX1_append 30 = .ok (.aload_n 0, 1) := by decide +kernel
theorem dX1_append_31 : decode cX1_append 31 = .ok (.getfield 45, 3) := by decide +kernel
theorem dX1_append_34 : decode cX1_append 34 = .ok (.arraylength, 1) := by decide +kernel
theorem dX1_append_35 : decode cX1_append 35 = .ok (.if_icmp .ge 33, 3) := by decide +kernel
theorem dX1_append_38 : decode cX1_append 38 = .ok (.aload_n 0, 1) := by decide +kernel
theorem dX1_append_39 : decode cX1_append 39 = .ok (.getfield 41, 3) := by decide +kernel
theorem dX1_append_42 : decode cX1_append 42 = .ok (.aload_n 0, 1) := by decide +kernel
theorem dX1_append_43 : decode cX1_append 43 = .ok (.getfield 29, 3) := by decide +kernel
theorem dX1_append_46 : decode cX1_append 46 = .ok (.aload_n 1, 1) := by decide +kernel
theorem dX1_append_47 : decode cX1_append 47 = .ok (.aastore, 1) := by decide +kernel
theorem dX1_append_48 : decode cX1_append 48 = .ok (.aload_n 0, 1) := by decide +kernel
theorem dX1_append_49 : decode cX1_append 49 = .ok (.getfield 45, 3) := by decide +kernel
theorem dX1_append_52 : decode cX1_append 52 = .ok (.aload_n 0, 1) := by decide +kernel
theorem dX1_append_53 : decode cX1_append 53 = .ok (.getfield 29, 3) := by decide +kernel
theorem dX1_append_56 : decode cX1_append 56 = .ok (.iload_n 3, 1) := by decide +kernel
theorem dX1_append_57 : decode cX1_append 57 = .ok (.iastore, 1) := by decide +kernel
theorem dX1_append_58 : decode cX1_append 58 = .ok (.aload_n 0, 1) := by decide +kernel
theorem dX1_append_59 : decode cX1_append 59 = .ok (.dup, 1) := by decide +kernel
theorem dX1_append_60 : decode cX1_append 60 = .ok (.getfield 29, 3) := by decide +kernel
theorem dX1_append_63 : decode cX1_append 63 = .ok (.iconst 1, 1) := by decide +kernel
theorem dX1_append_64 : decode cX1_append 64 = .ok (.iadd, 1) := by decide +kernel
theorem dX1_append_65 : decode cX1_append 65 = .ok (.putfield 29, 3) := by decide +kernel
theorem dX1_append_68 : decode cX1_append 68 = .ok (.iinc 3 1, 3) := by decide +kernel
theorem dX1_append_71 : decode cX1_append 71 = .ok (.goto (-69), 3) := by decide +kernel
theorem dX1_append_74 : decode cX1_append 74 = .ok (.return_, 1) := by decide +kernel
theorem dX1_hold_0 : decode cX1_hold 0 = .ok (.aload_n 0, 1) := by decide +kernel
theorem dX1_hold_1 : decode cX1_hold 1 = .ok (.iconst 1, 1) := by decide +kernel
theorem dX1_hold_2 : decode cX1_hold 2 = .ok (.putfield 19, 3) := by decide +kernel
theorem dX1_hold_5 : decode cX1_hold 5 = .ok (.aload_n 0, 1) := by decide +kernel
theorem dX1_hold_6 : decode cX1_hold 6 = .ok (.lload_n 1, 1) := by decide +kernel
theorem dX1_hold_7 : decode cX1_hold 7 = .ok (.putfield 22, 3) := by decide +kernel
theorem dX1_hold_10 : decode cX1_hold 10 = .ok (.return_, 1) := by decide +kernel
theorem dX1_release_0 : decode cX1_release 0 = .ok (.aload_n 0, 1) := by decide +kernel
theorem dX1_release_1 : decode cX1_release 1 = .ok (.iconst 0, 1) := by decide +kernel
theorem dX1_release_2 : decode cX1_release 2 = .ok (.putfield 19, 3) := by decide +kernel
theorem dX1_release_5 : decode cX1_release 5 = .ok (.return_, 1) := by decide +kernel
theorem dX1_octetAt_0 : decode cX1_octetAt 0 = .ok (.aload_n 0, 1) := by decide +kernel
theorem dX1_octetAt_1 : decode cX1_octetAt 1 = .ok (.getfield 38, 3) := by decide +kernel
theorem dX1_octetAt_4 : decode cX1_octetAt 4 = .ok (.ifCond .ne 9, 3) := by decide +kernel
theorem dX1_octetAt_7 : decode cX1_octetAt 7 = .ok (.aload_n 0, 1) := by decide +kernel
theorem dX1_octetAt_8 : decode cX1_octetAt 8 = .ok (.iload_n 1, 1) := by decide +kernel
theorem dX1_octetAt_9 : decode cX1_octetAt 9 = .ok (.invokevirtual 49, 3) := by decide +kernel
theorem dX1_octetAt_12 : decode cX1_octetAt 12 = .ok (.ireturn, 1) := by decide +kernel
theorem dX1_octetAt_13 : decode cX1_octetAt 13 = .ok (.iload_n 1, 1) := by decide +kernel
theorem dX1_octetAt_14 : decode cX1_octetAt 14 = .ok (.ifCond .lt 21, 3) := by decide +kernel
theorem dX1_octetAt_17 : decode cX1_octetAt 17 = .ok (.iload_n 1, 1) := by decide +kernel
theorem dX1_octetAt_18 : decode cX1_octetAt 18 = .ok (.aload_n 0, 1) := by decide +kernel
theorem dX1_octetAt_19 : decode cX1_octetAt 19 = .ok (.getfield 41, 3) := by decide +kernel
theorem dX1_octetAt_22 : decode cX1_octetAt 22 = .ok (.arraylength, 1) := by decide +kernel
theorem dX1_octetAt_23 : decode cX1_octetAt 23 = .ok (.if_icmp .ge 12, 3) := by decide +kernel
theorem dX1_octetAt_26 : decode cX1_octetAt 26 = .ok (.iload_n 1, 1) := by decide +kernel
theorem dX1_octetAt_27 : decode cX1_octetAt 27 = .ok (.aload_n 0, 1) := by decide +kernel
theorem dX1_octetAt_28 : decode cX1_octetAt 28 = .ok (.getfield 45, 3) := by decide +kernel
theorem dX1_octetAt_31 : decode cX1_octetAt 31 = .ok (.arraylength, 1) := by decide +kernel
theorem dX1_octetAt_32 : decode cX1_octetAt 32 = .ok (.if_icmp .lt 5, 3) := by decide +kernel
theorem dX1_octetAt_35 : decode cX1_octetAt 35 = .ok (.iconst 0, 1) := by decide +kernel
theorem dX1_octetAt_36 : decode cX1_octetAt 36 = .ok (.ireturn, 1) := by decide +kernel
theorem dX1_octetAt_37 : decode cX1_octetAt 37 = .ok (.aload_n 0, 1) := by decide +kernel
theorem dX1_octetAt_38 : decode cX1_octetAt 38 = .ok (.getfield 41, 3) := by decide +kernel
theorem dX1_octetAt_41 : decode cX1_octetAt 41 = .ok (.iload_n 1, 1) := by decide +kernel
theorem dX1_octetAt_42 : decode cX1_octetAt 42 = .ok (.aaload, 1) := by decide +kernel
theorem dX1_octetAt_43 : decode cX1_octetAt 43 = .ok (.astore_n 2, 1) := by decide +kernel
theorem dX1_octetAt_44 : decode cX1_octetAt 44 = .ok (.aload_n 2, 1) := by decide +kernel
theorem dX1_octetAt_45 : decode cX1_octetAt 45 = .ok (.ifnonnull 7, 3) := by decide +kernel
theorem dX1_octetAt_48 : decode cX1_octetAt 48 = .ok (.iconst 0, 1) := by decide +kernel
theorem dX1_octetAt_49 : decode cX1_octetAt 49 = .ok (.goto 13, 3) := by decide +kernel
theorem dX1_octetAt_52 : decode cX1_octetAt 52 = .ok (.aload_n 2, 1) := by decide +kernel
theorem dX1_octetAt_53 : decode cX1_octetAt 53 = .ok (.aload_n 0, 1) := by decide +kernel
theorem dX1_octetAt_54 : decode cX1_octetAt 54 = .ok (.getfield 45, 3) := by decide +kernel
theorem dX1_octetAt_57 : decode cX1_octetAt 57 = .ok (.iload_n 1, 1) := by decide +kernel
theorem dX1_octetAt_58 : decode cX1_octetAt 58 = .ok (.iaload, 1) := by decide +kernel
theorem dX1_octetAt_59 : decode cX1_octetAt 59 = .ok (.invokevirtual 49, 3) := by decide +kernel
theorem dX1_octetAt_62 : decode cX1_octetAt 62 = .ok (.ireturn, 1) := by decide +kernel
theorem dX1_ordinaryOctetAt_0 : decode cX1_ordinaryOctetAt 0 = .ok (.aload_n 0, 1) := by decide +kernel
theorem dX1_ordinaryOctetAt_1 : decode cX1_ordinaryOctetAt 1 = .ok (.getfield 19, 3) := by decide +kernel
theorem dX1_ordinaryOctetAt_4 : decode cX1_ordinaryOctetAt 4 = .ok (.ifCond .eq 10, 3) := by decide +kernel
theorem dX1_ordinaryOctetAt_7 : decode cX1_ordinaryOctetAt 7 = .ok (.aload_n 0, 1) := by decide +kernel
theorem dX1_ordinaryOctetAt_8 : decode cX1_ordinaryOctetAt 8 = .ok (.getfield 22, 3) := by decide +kernel
theorem dX1_ordinaryOctetAt_11 : decode cX1_ordinaryOctetAt 11 = .ok (.goto 7, 3) := by decide +kernel
theorem dX1_ordinaryOctetAt_14 : decode cX1_ordinaryOctetAt 14 = .ok (.aload_n 0, 1) := by decide +kernel
theorem dX1_ordinaryOctetAt_15 : decode cX1_ordinaryOctetAt 15 = .ok (.getfield 15, 3) := by decide +kernel
theorem dX1_ordinaryOctetAt_18 : decode cX1_ordinaryOctetAt 18 = .ok (.lstore_n 2, 1) := by decide +kernel
theorem dX1_ordinaryOctetAt_19 : decode cX1_ordinaryOctetAt 19 = .ok (.lload_n 2, 1) := by decide +kernel
theorem dX1_ordinaryOctetAt_20 : decode cX1_ordinaryOctetAt 20 = .ok (.bipush 8, 2) := by decide +kernel
theorem dX1_ordinaryOctetAt_22 : decode cX1_ordinaryOctetAt 22 = .ok (.aload_n 0, 1) := by decide +kernel
theorem dX1_ordinaryOctetAt_23 : decode cX1_ordinaryOctetAt 23 = .ok (.getfield 29, 3) := by decide +kernel
theorem dX1_ordinaryOctetAt_26 : decode cX1_ordinaryOctetAt 26 = .ok (.iconst 1, 1) := by decide +kernel
theorem dX1_ordinaryOctetAt_27 : decode cX1_ordinaryOctetAt 27 = .ok (.isub, 1) := by decide +kernel
theorem dX1_ordinaryOctetAt_28 : decode cX1_ordinaryOctetAt 28 = .ok (.iload_n 1, 1) := by decide +kernel
theorem dX1_ordinaryOctetAt_29 : decode cX1_ordinaryOctetAt 29 = .ok (.isub, 1) := by decide +kernel
theorem dX1_ordinaryOctetAt_30 : decode cX1_ordinaryOctetAt 30 = .ok (.imul, 1) := by decide +kernel
theorem dX1_ordinaryOctetAt_31 : decode cX1_ordinaryOctetAt 31 = .ok (.lushr, 1) := by decide +kernel
theorem dX1_ordinaryOctetAt_32 : decode cX1_ordinaryOctetAt 32 = .ok (.l2i, 1) := by decide +kernel
theorem dX1_ordinaryOctetAt_33 : decode cX1_ordinaryOctetAt 33 = .ok (.sipush 255, 3) := by decide +kernel
theorem dX1_ordinaryOctetAt_36 : decode cX1_ordinaryOctetAt 36 = .ok (.iand, 1) := by decide +kernel
theorem dX1_ordinaryOctetAt_37 : decode cX1_ordinaryOctetAt 37 = .ok (.ireturn, 1) := by decide +kernel
theorem dX1_number_0 : decode cX1_number 0 = .ok (.lconst 0, 1) := by decide +kernel
theorem dX1_number_1 : decode cX1_number 1 = .ok (.lstore_n 1, 1) := by decide +kernel
theorem dX1_number_2 : decode cX1_number 2 = .ok (.iconst 0, 1) := by decide +kernel
theorem dX1_number_3 : decode cX1_number 3 = .ok (.istore_n 3, 1) := by decide +kernel
theorem dX1_number_4 : decode cX1_number 4 = .ok (.iload_n 3, 1) := by decide +kernel
theorem dX1_number_5 : decode cX1_number 5 = .ok (.aload_n 0, 1) := by decide +kernel
theorem dX1_number_6 : decode cX1_number 6 = .ok (.getfield 29, 3) := by decide +kernel
theorem dX1_number_9 : decode cX1_number 9 = .ok (.if_icmp .ge 21, 3) := by decide +kernel
theorem dX1_number_12 : decode cX1_number 12 = .ok (.lload_n 1, 1) := by decide +kernel
theorem dX1_number_13 : decode cX1_number 13 = .ok (.bipush 8, 2) := by decide +kernel
theorem dX1_number_15 : decode cX1_number 15 = .ok (.lshl, 1) := by decide +kernel
theorem dX1_number_16 : decode cX1_number 16 = .ok (.aload_n 0, 1) := by decide +kernel
theorem dX1_number_17 : decode cX1_number 17 = .ok (.iload_n 3, 1) := by decide +kernel
theorem dX1_number_18 : decode cX1_number 18 = .ok (.invokevirtual 53, 3) := by decide +kernel
theorem dX1_number_21 : decode cX1_number 21 = .ok (.i2l, 1) := by decide +kernel
theorem dX1_number_22 : decode cX1_number 22 = .ok (.lor, 1) := by decide +kernel
theorem dX1_number_23 : decode cX1_number 23 = .ok (.lstore_n 1, 1) := by decide +kernel
theorem dX1_number_24 : decode cX1_number 24 = .ok (.iinc 3 1, 3) := by decide +kernel
theorem dX1_number_27 : decode cX1_number 27 = .ok (.goto (-23), 3) := by decide +kernel
theorem dX1_number_30 : decode cX1_number 30 = .ok (.lload_n 1, 1) := by decide +kernel
theorem dX1_number_31 : decode cX1_number 31 = .ok (.lreturn, 1) := by decide +kernel
theorem dX2_init_0 : decode cX2_init 0 = .ok (.aload_n 0, 1) := by decide +kernel
theorem dX2_init_1 : decode cX2_init 1 = .ok (.invokespecial 3, 3) := by decide +kernel
theorem dX2_init_4 : decode cX2_init 4 = .ok (.aload_n 0, 1) := by decide +kernel
theorem dX2_init_5 : decode cX2_init 5 = .ok (.bipush 60, 2) := by decide +kernel
theorem dX2_init_7 : decode cX2_init 7 = .ok (.newarray .byte, 2) := by decide +kernel
theorem dX2_init_9 : decode cX2_init 9 = .ok (.putfield 9, 3) := by decide +kernel
theorem dX2_init_12 : decode cX2_init 12 = .ok (.aload_n 0, 1) := by decide +kernel
theorem dX2_init_13 : decode cX2_init 13 = .ok (.iconst 0, 1) := by decide +kernel
theorem dX2_init_14 : decode cX2_init 14 = .ok (.putfield 15, 3) := by decide +kernel
theorem dX2_init_17 : decode cX2_init 17 = .ok (.aload_n 0, 1) := by decide +kernel
theorem dX2_init_18 : decode cX2_init 18 = .ok (.iconst 0, 1) := by decide +kernel
theorem dX2_init_19 : decode cX2_init 19 = .ok (.putfield 19, 3) := by decide +kernel
theorem dX2_init_22 : decode cX2_init 22 = .ok (.aload_n 0, 1) := by decide +kernel
theorem dX2_init_23 : decode cX2_init 23 = .ok (.iconst 0, 1) := by decide +kernel
theorem dX2_init_24 : decode cX2_init 24 = .ok (.putfield 23, 3) := by decide +kernel
theorem dX2_init_27 : decode cX2_init 27 = .ok (.aload_n 0, 1) := by decide +kernel
theorem dX2_init_28 : decode cX2_init 28 = .ok (.iconst 0, 1) := by decide +kernel
theorem dX2_init_29 : decode cX2_init 29 = .ok (.putfield 26, 3) := by decide +kernel
theorem dX2_init_32 : decode cX2_init 32 = .ok (.return_, 1) := by decide +kernel
theorem dX2_take_0 : decode cX2_take 0 = .ok (.aload_n 0, 1) := by decide +kernel
theorem dX2_take_1 : decode cX2_take 1 = .ok (.getfield 15, 3) := by decide +kernel
theorem dX2_take_4 : decode cX2_take 4 = .ok (.ifCond .ne 42, 3) := by decide +kernel
theorem dX2_take_7 : decode cX2_take 7 = .ok (.aload_n 0, 1) := by decide +kernel
theorem dX2_take_8 : decode cX2_take 8 = .ok (.iconst 1, 1) := by decide +kernel
theorem dX2_take_9 : decode cX2_take 9 = .ok (.putfield 15, 3) := by decide +kernel
theorem dX2_take_12 : decode cX2_take 12 = .ok (.aload_n 0, 1) := by decide +kernel
theorem dX2_take_13 : decode cX2_take 13 = .ok (.iload_n 1, 1) := by decide +kernel
theorem dX2_take_14 : decode cX2_take 14 = .ok (.ifCond .ge 7, 3) := by decide +kernel
theorem dX2_take_17 : decode cX2_take 17 = .ok (.iconst 1, 1) := by decide +kernel
theorem dX2_take_18 : decode cX2_take 18 = .ok (.goto 4, 3) := by decide +kernel
theorem dX2_take_21 : decode cX2_take 21 = .ok (.iconst 0, 1) := by decide +kernel
theorem dX2_take_22 : decode cX2_take 22 = .ok (.putfield 26, 3) := by decide +kernel
theorem dX2_take_25 : decode cX2_take 25 = .ok (.aload_n 0, 1) := by decide +kernel
theorem dX2_take_26 : decode cX2_take 26 = .ok (.iload_n 1, 1) := by decide +kernel
theorem dX2_take_27 : decode cX2_take 27 = .ok (.bipush 127, 2) := by decide +kernel
theorem dX2_take_29 : decode cX2_take 29 = .ok (.iand, 1) := by decide +kernel
theorem dX2_take_30 : decode cX2_take 30 = .ok (.bipush 60, 2) := by decide +kernel
theorem dX2_take_32 : decode cX2_take 32 = .ok (.invokestatic 29, 3) := by decide +kernel
theorem dX2_take_35 : decode cX2_take 35 = .ok (.putfield 19, 3) := by decide +kernel
theorem dX2_take_38 : decode cX2_take 38 = .ok (.aload_n 0, 1) := by decide +kernel
theorem dX2_take_39 : decode cX2_take 39 = .ok (.iconst 0, 1) := by decide +kernel
theorem dX2_take_40 : decode cX2_take 40 = .ok (.putfield 23, 3) := by decide +kernel
theorem dX2_take_43 : decode cX2_take 43 = .ok (.goto 42, 3) := by decide +kernel
theorem dX2_take_46 : decode cX2_take 46 = .ok (.aload_n 0, 1) := by decide +kernel
theorem dX2_take_47 : decode cX2_take 47 = .ok (.getfield 23, 3) := by decide +kernel
theorem dX2_take_50 : decode cX2_take 50 = .ok (.ifCond .lt 35, 3) := by decide +kernel
theorem dX2_take_53 : decode cX2_take 53 = .ok (.aload_n 0, 1) := by decide +kernel
theorem dX2_take_54 : decode cX2_take 54 = .ok (.getfield 23, 3) := by decide +kernel
theorem dX2_take_57 : decode cX2_take 57 = .ok (.aload_n 0, 1) := by decide +kernel
theorem dX2_take_58 : decode cX2_take 58 = .ok (.getfield 9, 3) := by decide +kernel
theorem dX2_take_61 : decode cX2_take 61 = .ok (.arraylength, 1) := by decide +kernel
theorem dX2_take_62 : decode cX2_take 62 = .ok (.if_icmp .ge 23, 3) := by decide +kernel
theorem dX2_take_65 : decode cX2_take 65 = .ok (.aload_n 0, 1) := by decide +kernel
theorem dX2_take_66 : decode cX2_take 66 = .ok (.getfield 9, 3) := by decide +kernel
theorem dX2_take_69 : decode cX2_take 69 = .ok (.aload_n 0, 1) := by decide +kernel
theorem dX2_take_70 : decode cX2_take 70 = .ok (.getfield 23, 3) := by decide +kernel
theorem dX2_take_73 : decode cX2_take 73 = .ok (.iload_n 1, 1) := by decide +kernel
theorem dX2_take_74 : decode cX2_take 74 = .ok (.bastore, 1) := by decide +kernel
theorem dX2_take_75 : decode cX2_take 75 = .ok (.aload_n 0, 1) := by decide +kernel
theorem dX2_take_76 : decode cX2_take 76 = .ok (.dup, 1) := by decide +kernel
theorem dX2_take_77 : decode cX2_take 77 = .ok (.getfield 23, 3) := by decide +kernel
theorem dX2_take_80 : decode cX2_take 80 = .ok (.iconst 1, 1) := by decide +kernel
theorem dX2_take_81 : decode cX2_take 81 = .ok (.iadd, 1) := by decide +kernel
theorem dX2_take_82 : decode cX2_take 82 = .ok (.putfield 23, 3) := by decide +kernel
theorem dX2_take_85 : decode cX2_take 85 = .ok (.return_, 1) := by decide +kernel
theorem dX2_isWhole_0 : decode cX2_isWhole 0 = .ok (.aload_n 0, 1) := by decide +kernel
theorem dX2_isWhole_1 : decode cX2_isWhole 1 = .ok (.getfield 15, 3) := by decide +kernel
theorem dX2_isWhole_4 : decode cX2_isWhole 4 = .ok (.ifCond .eq 18, 3) := by decide +kernel
theorem dX2_isWhole_7 : decode cX2_isWhole 7 = .ok (.aload_n 0, 1) := by decide +kernel
theorem dX2_isWhole_8 : decode cX2_isWhole 8 = .ok (.getfield 23, 3) := by decide +kernel
theorem dX2_isWhole_11 : decode cX2_isWhole 11 = .ok (.aload_n 0, 1) := by decide +kernel
theorem dX2_isWhole_12 : decode cX2_isWhole 12 = .ok (.getfield 19, 3) := by decide +kernel
theorem dX2_isWhole_15 : decode cX2_isWhole 15 = .ok (.if_icmp .lt 7, 3) := by decide +kernel
theorem dX2_isWhole_18 : decode cX2_isWhole 18 = .ok (.iconst 1, 1) := by decide +kernel
theorem dX2_isWhole_19 : decode cX2_isWhole 19 = .ok (.goto 4, 3) := by decide +kernel
theorem dX2_isWhole_22 : decode cX2_isWhole 22 = .ok (.iconst 0, 1) := by decide +kernel
theorem dX2_isWhole_23 : decode cX2_isWhole 23 = .ok (.ireturn, 1) := by decide +kernel
theorem dX2_end_0 : decode cX2_end 0 = .ok (.aload_n 0, 1) := by decide +kernel
theorem dX2_end_1 : decode cX2_end 1 = .ok (.iconst 0, 1) := by decide +kernel
theorem dX2_end_2 : decode cX2_end 2 = .ok (.putfield 15, 3) := by decide +kernel
theorem dX2_end_5 : decode cX2_end 5 = .ok (.return_, 1) := by decide +kernel
theorem dX2_isEmpty_0 : decode cX2_isEmpty 0 = .ok (.aload_n 0, 1) := by decide +kernel
theorem dX2_isEmpty_1 : decode cX2_isEmpty 1 = .ok (.getfield 23, 3) := by decide +kernel
theorem dX2_isEmpty_4 : decode cX2_isEmpty 4 = .ok (.ifCond .ne 7, 3) := by decide +kernel
theorem dX2_isEmpty_7 : decode cX2_isEmpty 7 = .ok (.iconst 1, 1) := by decide +kernel
theorem dX2_isEmpty_8 : decode cX2_isEmpty 8 = .ok (.goto 4, 3) := by decide +kernel
theorem dX2_isEmpty_11 : decode cX2_isEmpty 11 = .ok (.iconst 0, 1) := by decide +kernel
theorem dX2_isEmpty_12 : decode cX2_isEmpty 12 = .ok (.ireturn, 1) := by decide +kernel
theorem dX2_service_0 : decode cX2_service 0 = .ok (.aload_n 0, 1) := by decide +kernel
theorem dX2_service_1 : decode cX2_service 1 = .ok (.getfield 23, 3) := by decide +kernel
theorem dX2_service_4 : decode cX2_service 4 = .ok (.ifCond .ne 7, 3) := by decide +kernel
theorem dX2_service_7 : decode cX2_service 7 = .ok (.iconst 0, 1) := by decide +kernel
theorem dX2_service_8 : decode cX2_service 8 = .ok (.goto 13, 3) := by decide +kernel
theorem dX2_service_11 : decode cX2_service 11 = .ok (.aload_n 0, 1) := by decide +kernel
theorem dX2_service_12 : decode cX2_service 12 = .ok (.getfield 9, 3) := by decide +kernel
theorem dX2_service_15 : decode cX2_service 15 = .ok (.iconst 0, 1) := by decide +kernel
theorem dX2_service_16 : decode cX2_service 16 = .ok (.baload, 1) := by decide +kernel
theorem dX2_service_17 : decode cX2_service 17 = .ok (.sipush 255, 3) := by decide +kernel
theorem dX2_service_20 : decode cX2_service 20 = .ok (.iand, 1) := by decide +kernel
theorem dX2_service_21 : decode cX2_service 21 = .ok (.ireturn, 1) := by decide +kernel
theorem dX2_size_0 : decode cX2_size 0 = .ok (.aload_n 0, 1) := by decide +kernel
theorem dX2_size_1 : decode cX2_size 1 = .ok (.getfield 23, 3) := by decide +kernel
theorem dX2_size_4 : decode cX2_size 4 = .ok (.ifCond .ne 7, 3) := by decide +kernel
theorem dX2_size_7 : decode cX2_size 7 = .ok (.iconst 0, 1) := by decide +kernel
theorem dX2_size_8 : decode cX2_size 8 = .ok (.goto 9, 3) := by decide +kernel
theorem dX2_size_11 : decode cX2_size 11 = .ok (.aload_n 0, 1) := by decide +kernel
theorem dX2_size_12 : decode cX2_size 12 = .ok (.getfield 23, 3) := by decide +kernel
theorem dX2_size_15 : decode cX2_size 15 = .ok (.iconst 1, 1) := by decide +kernel
theorem dX2_size_16 : decode cX2_size 16 = .ok (.isub, 1) := by decide +kernel
theorem dX2_size_17 : decode cX2_size 17 = .ok (.ireturn, 1) := by decide +kernel
theorem dX2_octetAt_0 : decode cX2_octetAt 0 = .ok (.iload_n 1, 1) := by decide +kernel
theorem dX2_octetAt_1 : decode cX2_octetAt 1 = .ok (.iconst 1, 1) := by decide +kernel
theorem dX2_octetAt_2 : decode cX2_octetAt 2 = .ok (.iadd, 1) := by decide +kernel
theorem dX2_octetAt_3 : decode cX2_octetAt 3 = .ok (.istore_n 2, 1) := by decide +kernel
theorem dX2_octetAt_4 : decode cX2_octetAt 4 = .ok (.iload_n 2, 1) := by decide +kernel
theorem dX2_octetAt_5 : decode cX2_octetAt 5 = .ok (.iconst 1, 1) := by decide +kernel
theorem dX2_octetAt_6 : decode cX2_octetAt 6 = .ok (.if_icmp .lt 20, 3) := by decide +kernel
theorem dX2_octetAt_9 : decode cX2_octetAt 9 = .ok (.iload_n 2, 1) := by decide +kernel
theorem dX2_octetAt_10 : decode cX2_octetAt 10 = .ok (.aload_n 0, 1) := by decide +kernel
theorem dX2_octetAt_11 : decode cX2_octetAt 11 = .ok (.getfield 23, 3) := by decide +kernel
theorem dX2_octetAt_14 : decode cX2_octetAt 14 = .ok (.if_icmp .ge 12, 3) := by decide +kernel
theorem dX2_octetAt_17 : decode cX2_octetAt 17 = .ok (.iload_n 2, 1) := by decide +kernel
theorem dX2_octetAt_18 : decode cX2_octetAt 18 = .ok (.aload_n 0, 1) := by decide +kernel
theorem dX2_octetAt_19 : decode cX2_octetAt 19 = .ok (.getfield 9, 3) := by decide +kernel
theorem dX2_octetAt_22 : decode cX2_octetAt 22 = .ok (.arraylength, 1) := by decide +kernel
theorem dX2_octetAt_23 : decode cX2_octetAt 23 = .ok (.if_icmp .lt 7, 3) := by decide +kernel
theorem dX2_octetAt_26 : decode cX2_octetAt 26 = .ok (.iconst 0, 1) := by decide +kernel
theorem dX2_octetAt_27 : decode cX2_octetAt 27 = .ok (.goto 13, 3) := by decide +kernel
theorem dX2_octetAt_30 : decode cX2_octetAt 30 = .ok (.aload_n 0, 1) := by decide +kernel
theorem dX2_octetAt_31 : decode cX2_octetAt 31 = .ok (.getfield 9, 3) := by decide +kernel
theorem dX2_octetAt_34 : decode cX2_octetAt 34 = .ok (.iload_n 2, 1) := by decide +kernel
theorem dX2_octetAt_35 : decode cX2_octetAt 35 = .ok (.baload, 1) := by decide +kernel
theorem dX2_octetAt_36 : decode cX2_octetAt 36 = .ok (.sipush 255, 3) := by decide +kernel
theorem dX2_octetAt_39 : decode cX2_octetAt 39 = .ok (.iand, 1) := by decide +kernel
theorem dX2_octetAt_40 : decode cX2_octetAt 40 = .ok (.ireturn, 1) := by decide +kernel
theorem dX2_word_0 : decode cX2_word 0 = .ok (.aload_n 0, 1) := by decide +kernel
theorem dX2_word_1 : decode cX2_word 1 = .ok (.iload_n 1, 1) := by decide +kernel
theorem dX2_word_2 : decode cX2_word 2 = .ok (.invokevirtual 35, 3) := by decide +kernel
theorem dX2_word_5 : decode cX2_word 5 = .ok (.bipush 8, 2) := by decide +kernel
theorem dX2_word_7 : decode cX2_word 7 = .ok (.ishl, 1) := by decide +kernel
theorem dX2_word_8 : decode cX2_word 8 = .ok (.aload_n 0, 1) := by decide +kernel
theorem dX2_word_9 : decode cX2_word 9 = .ok (.iload_n 1, 1) := by decide +kernel
theorem dX2_word_10 : decode cX2_word 10 = .ok (.iconst 1, 1) := by decide +kernel
theorem dX2_word_11 : decode cX2_word 11 = .ok (.iadd, 1) := by decide +kernel
theorem dX2_word_12 : decode cX2_word 12 = .ok (.invokevirtual 35, 3) := by decide +kernel
theorem dX2_word_15 : decode cX2_word 15 = .ok (.ior, 1) := by decide +kernel
theorem dX2_word_16 : decode cX2_word 16 = .ok (.ireturn, 1) := by decide +kernel
theorem dX2_number_0 : decode cX2_number 0 = .ok (.lconst 0, 1) := by decide +kernel
theorem dX2_number_1 : decode cX2_number 1 = .ok (.lstore_n 3, 1) := by decide +kernel
theorem dX2_number_2 : decode cX2_number 2 = .ok (.iconst 0, 1) := by decide +kernel
theorem dX2_number_3 : decode cX2_number 3 = .ok (.istore 5, 2) := by decide +kernel
theorem dX2_number_5 : decode cX2_number 5 = .ok (.iload 5, 2) := by decide +kernel
theorem dX2_number_7 : decode cX2_number 7 = .ok (.iload_n 2, 1) := by decide +kernel
theorem dX2_number_8 : decode cX2_number 8 = .ok (.if_icmp .ge 24, 3) := by decide +kernel
theorem dX2_number_11 : decode cX2_number 11 = .ok (.lload_n 3, 1) := by decide +kernel
theorem dX2_number_12 : decode cX2_number 12 = .ok (.bipush 8, 2) := by decide +kernel
theorem dX2_number_14 : decode cX2_number 14 = .ok (.lshl, 1) := by decide +kernel
theorem dX2_number_15 : decode cX2_number 15 = .ok (.aload_n 0, 1) := by decide +kernel
theorem dX2_number_16 : decode cX2_number 16 = .ok (.iload_n 1, 1) := by decide +kernel
theorem dX2_number_17 : decode cX2_number 17 = .ok (.iload 5, 2) := by decide +kernel
theorem dX2_number_19 : decode cX2_number 19 = .ok (.iadd, 1) := by decide +kernel
theorem dX2_number_20 : decode cX2_number 20 = .ok (.invokevirtual 35, 3) := by decide +kernel
theorem dX2_number_23 : decode cX2_number 23 = .ok (.i2l, 1) := by decide +kernel
theorem dX2_number_24 : decode cX2_number 24 = .ok (.lor, 1) := by decide +kernel
theorem dX2_number_25 : decode cX2_number 25 = .ok (.lstore_n 3, 1) := by decide +kernel
theorem dX2_number_26 : decode cX2_number 26 = .ok (.iinc 5 1, 3) := by decide +kernel
theorem dX2_number_29 : decode cX2_number 29 = .ok (.goto (-24), 3) := by decide +kernel
theorem dX2_number_32 : decode cX2_number 32 = .ok (.lload_n 3, 1) := by decide +kernel
theorem dX2_number_33 : decode cX2_number 33 = .ok (.lreturn, 1) := by decide +kernel
theorem dX2_function_0 : decode cX2_function 0 = .ok (.aload_n 0, 1) := by decide +kernel
theorem dX2_function_1 : decode cX2_function 1 = .ok (.iconst 0, 1) := by decide +kernel
theorem dX2_function_2 : decode cX2_function 2 = .ok (.invokevirtual 35, 3) := by decide +kernel
theorem dX2_function_5 : decode cX2_function 5 = .ok (.bipush 127, 2) := by decide +kernel
theorem dX2_function_7 : decode cX2_function 7 = .ok (.iand, 1) := by decide +kernel
theorem dX2_function_8 : decode cX2_function 8 = .ok (.ireturn, 1) := by decide +kernel
theorem dX2_wantsNoAnswer_0 : decode cX2_wantsNoAnswer 0 = .ok (.aload_n 0, 1) := by decide +kernel
theorem dX2_wantsNoAnswer_1 : decode cX2_wantsNoAnswer 1 = .ok (.invokevirtual 39, 3) := by decide +kernel
theorem dX2_wantsNoAnswer_4 : decode cX2_wantsNoAnswer 4 = .ok (.istore_n 1, 1) := by decide +kernel
theorem dX2_wantsNoAnswer_5 : decode cX2_wantsNoAnswer 5 = .ok (.aload_n 0, 1) := by decide +kernel
theorem dX2_wantsNoAnswer_6 : decode cX2_wantsNoAnswer 6 = .ok (.iconst 0, 1) := by decide +kernel
theorem dX2_wantsNoAnswer_7 : decode cX2_wantsNoAnswer 7 = .ok (.invokevirtual 35, 3) := by decide +kernel
theorem dX2_wantsNoAnswer_10 : decode cX2_wantsNoAnswer 10 = .ok (.bipush 127, 2) := by decide +kernel
theorem dX2_wantsNoAnswer_12 : decode cX2_wantsNoAnswer 12 = .ok (.if_icmp .le 31, 3) := by decide +kernel
theorem dX2_wantsNoAnswer_15 : decode cX2_wantsNoAnswer 15 = .ok (.iload_n 1, 1) := by decide +kernel
theorem dX2_wantsNoAnswer_16 : decode cX2_wantsNoAnswer 16 = .ok (.bipush 16, 2) := by decide +kernel
theorem dX2_wantsNoAnswer_18 : decode cX2_wantsNoAnswer 18 = .ok (.if_icmp .eq 21, 3) := by decide +kernel
theorem dX2_wantsNoAnswer_21 : decode cX2_wantsNoAnswer 21 = .ok (.iload_n 1, 1) := by decide +kernel
theorem dX2_wantsNoAnswer_22 : decode cX2_wantsNoAnswer 22 = .ok (.bipush 17, 2) := by decide +kernel
theorem dX2_wantsNoAnswer_24 : decode cX2_wantsNoAnswer 24 = .ok (.if_icmp .eq 15, 3) := by decide +kernel
theorem dX2_wantsNoAnswer_27 : decode cX2_wantsNoAnswer 27 = .ok (.iload_n 1, 1) := by decide +kernel
theorem dX2_wantsNoAnswer_28 : decode cX2_wantsNoAnswer 28 = .ok (.bipush 49, 2) := by decide +kernel
theorem dX2_wantsNoAnswer_30 : decode cX2_wantsNoAnswer 30 = .ok (.if_icmp .eq 9, 3) := by decide +kernel
theorem dX2_wantsNoAnswer_33 : decode cX2_wantsNoAnswer 33 = .ok (.iload_n 1, 1) := by decide +kernel
theorem dX2_wantsNoAnswer_34 : decode cX2_wantsNoAnswer 34 = .ok (.bipush 62, 2) := by decide +kernel
theorem dX2_wantsNoAnswer_36 : decode cX2_wantsNoAnswer 36 = .ok (.if_icmp .ne 7, 3) := by decide +kernel
theorem dX2_wantsNoAnswer_39 : decode cX2_wantsNoAnswer 39 = .ok (.iconst 1, 1) := by decide +kernel
theorem dX2_wantsNoAnswer_40 : decode cX2_wantsNoAnswer 40 = .ok (.goto 4, 3) := by decide +kernel
theorem dX2_wantsNoAnswer_43 : decode cX2_wantsNoAnswer 43 = .ok (.iconst 0, 1) := by decide +kernel
theorem dX2_wantsNoAnswer_44 : decode cX2_wantsNoAnswer 44 = .ok (.ireturn, 1) := by decide +kernel
theorem dX3_init_0 : decode cX3_init 0 = .ok (.aload_n 0, 1) := by decide +kernel
theorem dX3_init_1 : decode cX3_init 1 = .ok (.invokespecial 1, 3) := by decide +kernel
theorem dX3_init_4 : decode cX3_init 4 = .ok (.aload_n 0, 1) := by decide +kernel
theorem dX3_init_5 : decode cX3_init 5 = .ok (.iconst 0, 1) := by decide +kernel
theorem dX3_init_6 : decode cX3_init 6 = .ok (.putfield 7, 3) := by decide +kernel
theorem dX3_init_9 : decode cX3_init 9 = .ok (.aload_n 0, 1) := by decide +kernel
theorem dX3_init_10 : decode cX3_init 10 = .ok (.iconst 0, 1) := by decide +kernel
theorem dX3_init_11 : decode cX3_init 11 = .ok (.putfield 13, 3) := by decide +kernel
theorem dX3_init_14 : decode cX3_init 14 = .ok (.aload_n 0, 1) := by decide +kernel
theorem dX3_init_15 : decode cX3_init 15 = .ok (.iconst 0, 1) := by decide +kernel
theorem dX3_init_16 : decode cX3_init 16 = .ok (.putfield 17, 3) := by decide +kernel
theorem dX3_init_19 : decode cX3_init 19 = .ok (.aload_n 0, 1) := by decide +kernel
theorem dX3_init_20 : decode cX3_init 20 = .ok (.iload_n 1, 1) := by decide +kernel
theorem dX3_init_21 : decode cX3_init 21 = .ok (.putfield 20, 3) := by decide +kernel
theorem dX3_init_24 : decode cX3_init 24 = .ok (.aload_n 0, 1) := by decide +kernel
theorem dX3_init_25 : decode cX3_init 25 = .ok (.iload_n 2, 1) := by decide +kernel
theorem dX3_init_26 : decode cX3_init 26 = .ok (.putfield 23, 3) := by decide +kernel
theorem dX3_init_29 : decode cX3_init 29 = .ok (.return_, 1) := by decide +kernel
theorem dX3_start_0 : decode cX3_start 0 = .ok (.aload_n 0, 1) := by decide +kernel
theorem dX3_start_1 : decode cX3_start 1 = .ok (.iconst 1, 1) := by decide +kernel
theorem dX3_start_2 : decode cX3_start 2 = .ok (.putfield 7, 3) := by decide +kernel
theorem dX3_start_5 : decode cX3_start 5 = .ok (.aload_n 0, 1) := by decide +kernel
theorem dX3_start_6 : decode cX3_start 6 = .ok (.aload_n 0, 1) := by decide +kernel
theorem dX3_start_7 : decode cX3_start 7 = .ok (.getfield 23, 3) := by decide +kernel
theorem dX3_start_10 : decode cX3_start 10 = .ok (.putfield 13, 3) := by decide +kernel
theorem dX3_start_13 : decode cX3_start 13 = .ok (.aload_n 0, 1) := by decide +kernel
theorem dX3_start_14 : decode cX3_start 14 = .ok (.iconst 0, 1) := by decide +kernel
theorem dX3_start_15 : decode cX3_start 15 = .ok (.putfield 17, 3) := by decide +kernel
theorem dX3_start_18 : decode cX3_start 18 = .ok (.return_, 1) := by decide +kernel
theorem dX3_step_0 : decode cX3_step 0 = .ok (.aload_n 0, 1) := by decide +kernel
theorem dX3_step_1 : decode cX3_step 1 = .ok (.getfield 7, 3) := by decide +kernel
theorem dX3_step_4 : decode cX3_step 4 = .ok (.ifCond .eq 20, 3) := by decide +kernel
theorem dX3_step_7 : decode cX3_step 7 = .ok (.aload_n 0, 1) := by decide +kernel
theorem dX3_step_8 : decode cX3_step 8 = .ok (.getfield 13, 3) := by decide +kernel
theorem dX3_step_11 : decode cX3_step 11 = .ok (.ifCond .le 13, 3) := by decide +kernel
theorem dX3_step_14 : decode cX3_step 14 = .ok (.aload_n 0, 1) := by decide +kernel
theorem dX3_step_15 : decode cX3_step 15 = .ok (.dup, 1) := by decide +kernel
theorem dX3_step_16 : decode cX3_step 16 = .ok (.getfield 13, 3) := by decide +kernel
theorem dX3_step_19 : decode cX3_step 19 = .ok (.iconst 1, 1) := by decide +kernel
theorem dX3_step_20 : decode cX3_step 20 = .ok (.isub, 1) := by decide +kernel
theorem dX3_step_21 : decode cX3_step 21 = .ok (.putfield 13, 3) := by decide +kernel
theorem dX3_step_24 : decode cX3_step 24 = .ok (.return_, 1) := by decide +kernel
theorem dX3_forget_0 : decode cX3_forget 0 = .ok (.aload_n 0, 1) := by decide +kernel
theorem dX3_forget_1 : decode cX3_forget 1 = .ok (.iconst 0, 1) := by decide +kernel
theorem dX3_forget_2 : decode cX3_forget 2 = .ok (.putfield 7, 3) := by decide +kernel
theorem dX3_forget_5 : decode cX3_forget 5 = .ok (.aload_n 0, 1) := by decide +kernel
theorem dX3_forget_6 : decode cX3_forget 6 = .ok (.iconst 0, 1) := by decide +kernel
theorem dX3_forget_7 : decode cX3_forget 7 = .ok (.putfield 13, 3) := by decide +kernel
theorem dX3_forget_10 : decode cX3_forget 10 = .ok (.return_, 1) := by decide +kernel
theorem dX4_init_0 : decode cX4_init 0 = .ok (.aload_n 0, 1) := by decide +kernel
theorem dX4_init_1 : decode cX4_init 1 = .ok (.invokespecial 1, 3) := by decide +kernel
theorem dX4_init_4 : decode cX4_init 4 = .ok (.aload_n 0, 1) := by decide +kernel
theorem dX4_init_5 : decode cX4_init 5 = .ok (.iconst 0, 1) := by decide +kernel
theorem dX4_init_6 : decode cX4_init 6 = .ok (.putfield 7, 3) := by decide +kernel
theorem dX4_init_9 : decode cX4_init 9 = .ok (.aload_n 0, 1) := by decide +kernel
theorem dX4_init_10 : decode cX4_init 10 = .ok (.iconst 0, 1) := by decide +kernel
theorem dX4_init_11 : decode cX4_init 11 = .ok (.putfield 13, 3) := by decide +kernel
theorem dX4_init_14 : decode cX4_init 14 = .ok (.aload_n 0, 1) := by decide +kernel
theorem dX4_init_15 : decode cX4_init 15 = .ok (.iconst 0, 1) := by decide +kernel
theorem dX4_init_16 : decode cX4_init 16 = .ok (.putfield 17, 3) := by decide +kernel
theorem dX4_init_19 : decode cX4_init 19 = .ok (.aload_n 0, 1) := by decide +kernel
theorem dX4_init_20 : decode cX4_init 20 = .ok (.iconst 0, 1) := by decide +kernel
theorem dX4_init_21 : decode cX4_init 21 = .ok (.putfield 20, 3) := by decide +kernel
theorem dX4_init_24 : decode cX4_init 24 = .ok (.return_, 1) := by decide +kernel
theorem dX4_open_0 : decode cX4_open 0 = .ok (.aload_n 0, 1) := by decide +kernel
theorem dX4_open_1 : decode cX4_open 1 = .ok (.iconst 1, 1) := by decide +kernel
theorem dX4_open_2 : decode cX4_open 2 = .ok (.putfield 7, 3) := by decide +kernel
theorem dX4_open_5 : decode cX4_open 5 = .ok (.aload_n 0, 1) := by decide +kernel
theorem dX4_open_6 : decode cX4_open 6 = .ok (.iload_n 1, 1) := by decide +kernel
theorem dX4_open_7 : decode cX4_open 7 = .ok (.putfield 13, 3) := by decide +kernel
theorem dX4_open_10 : decode cX4_open 10 = .ok (.aload_n 0, 1) := by decide +kernel
theorem dX4_open_11 : decode cX4_open 11 = .ok (.iconst 0, 1) := by decide +kernel
theorem dX4_open_12 : decode cX4_open 12 = .ok (.putfield 17, 3) := by decide +kernel
theorem dX4_open_15 : decode cX4_open 15 = .ok (.aload_n 0, 1) := by decide +kernel
theorem dX4_open_16 : decode cX4_open 16 = .ok (.iconst 0, 1) := by decide +kernel
theorem dX4_open_17 : decode cX4_open 17 = .ok (.putfield 20, 3) := by decide +kernel
theorem dX4_open_20 : decode cX4_open 20 = .ok (.return_, 1) := by decide +kernel
theorem dX4_close_0 : decode cX4_close 0 = .ok (.aload_n 0, 1) := by decide +kernel
theorem dX4_close_1 : decode cX4_close 1 = .ok (.iconst 0, 1) := by decide +kernel
theorem dX4_close_2 : decode cX4_close 2 = .ok (.putfield 7, 3) := by decide +kernel
theorem dX4_close_5 : decode cX4_close 5 = .ok (.aload_n 0, 1) := by decide +kernel
theorem dX4_close_6 : decode cX4_close 6 = .ok (.iconst 0, 1) := by decide +kernel
theorem dX4_close_7 : decode cX4_close 7 = .ok (.putfield 13, 3) := by decide +kernel
theorem dX4_close_10 : decode cX4_close 10 = .ok (.return_, 1) := by decide +kernel
theorem dX4_isBlockBefore_0 : decode cX4_isBlockBefore 0 = .ok (.aload_n 0, 1) := by decide +kernel
theorem dX4_isBlockBefore_1 : decode cX4_isBlockBefore 1 = .ok (.getfield 20, 3) := by decide +kernel
theorem dX4_isBlockBefore_4 : decode cX4_isBlockBefore 4 = .ok (.ifCond .le 19, 3) := by decide +kernel
theorem dX4_isBlockBefore_7 : decode cX4_isBlockBefore 7 = .ok (.iload_n 1, 1) := by decide +kernel
theorem dX4_isBlockBefore_8 : decode cX4_isBlockBefore 8 = .ok (.aload_n 0, 1) := by decide +kernel
theorem dX4_isBlockBefore_9 : decode cX4_isBlockBefore 9 = .ok (.getfield 20, 3) := by decide +kernel
theorem dX4_isBlockBefore_12 : decode cX4_isBlockBefore 12 = .ok (.sipush 255, 3) := by decide +kernel
theorem dX4_isBlockBefore_15 : decode cX4_isBlockBefore 15 = .ok (.iand, 1) := by decide +kernel
theorem dX4_isBlockBefore_16 : decode cX4_isBlockBefore 16 = .ok (.if_icmp .ne 7, 3) := by decide +kernel
theorem dX4_isBlockBefore_19 : decode cX4_isBlockBefore 19 = .ok (.iconst 1, 1) := by decide +kernel
theorem dX4_isBlockBefore_20 : decode cX4_isBlockBefore 20 = .ok (.goto 4, 3) := by decide +kernel
theorem dX4_isBlockBefore_23 : decode cX4_isBlockBefore 23 = .ok (.iconst 0, 1) := by decide +kernel
theorem dX4_isBlockBefore_24 : decode cX4_isBlockBefore 24 = .ok (.ireturn, 1) := by decide +kernel
theorem dX4_nextBlock_0 : decode cX4_nextBlock 0 = .ok (.aload_n 0, 1) := by decide +kernel
theorem dX4_nextBlock_1 : decode cX4_nextBlock 1 = .ok (.getfield 20, 3) := by decide +kernel
theorem dX4_nextBlock_4 : decode cX4_nextBlock 4 = .ok (.iconst 1, 1) := by decide +kernel
theorem dX4_nextBlock_5 : decode cX4_nextBlock 5 = .ok (.iadd, 1) := by decide +kernel
theorem dX4_nextBlock_6 : decode cX4_nextBlock 6 = .ok (.sipush 255, 3) := by decide +kernel
theorem dX4_nextBlock_9 : decode cX4_nextBlock 9 = .ok (.iand, 1) := by decide +kernel
theorem dX4_nextBlock_10 : decode cX4_nextBlock 10 = .ok (.ireturn, 1) := by decide +kernel
theorem dX4_add_0 : decode cX4_add 0 = .ok (.iconst 1, 1) := by decide +kernel
theorem dX4_add_1 : decode cX4_add 1 = .ok (.istore_n 3, 1) := by decide +kernel
theorem dX4_add_2 : decode cX4_add 2 = .ok (.iload_n 3, 1) := by decide +kernel
theorem dX4_add_3 : decode cX4_add 3 = .ok (.iload_n 2, 1) := by decide +kernel
theorem dX4_add_4 : decode cX4_add 4 = .ok (.if_icmp .gt 26, 3) := by decide +kernel
theorem dX4_add_7 : decode cX4_add 7 = .ok (.aload_n 0, 1) := by decide +kernel
theorem dX4_add_8 : decode cX4_add 8 = .ok (.aload_n 0, 1) := by decide +kernel
theorem dX4_add_9 : decode cX4_add 9 = .ok (.getfield 17, 3) := by decide +kernel
theorem dX4_add_12 : decode cX4_add 12 = .ok (.aload_n 1, 1) := by decide +kernel
theorem dX4_add_13 : decode cX4_add 13 = .ok (.iload_n 3, 1) := by decide +kernel
theorem dX4_add_14 : decode cX4_add 14 = .ok (.invokevirtual 23, 3) := by decide +kernel
theorem dX4_add_17 : decode cX4_add 17 = .ok (.iadd, 1) := by decide +kernel
theorem dX4_add_18 : decode cX4_add 18 = .ok (.ldc 29, 2) := by decide +kernel
theorem dX4_add_20 : decode cX4_add 20 = .ok (.iand, 1) := by decide +kernel
theorem dX4_add_21 : decode cX4_add 21 = .ok (.putfield 17, 3) := by decide +kernel
theorem dX4_add_24 : decode cX4_add 24 = .ok (.iinc 3 1, 3) := by decide +kernel
theorem dX4_add_27 : decode cX4_add 27 = .ok (.goto (-25), 3) := by decide +kernel
theorem dX4_add_30 : decode cX4_add 30 = .ok (.aload_n 0, 1) := by decide +kernel
theorem dX4_add_31 : decode cX4_add 31 = .ok (.dup, 1) := by decide +kernel
theorem dX4_add_32 : decode cX4_add 32 = .ok (.getfield 13, 3) := by decide +kernel
theorem dX4_add_35 : decode cX4_add 35 = .ok (.iload_n 2, 1) := by decide +kernel
theorem dX4_add_36 : decode cX4_add 36 = .ok (.isub, 1) := by decide +kernel
theorem dX4_add_37 : decode cX4_add 37 = .ok (.putfield 13, 3) := by decide +kernel
theorem dX4_add_40 : decode cX4_add 40 = .ok (.aload_n 0, 1) := by decide +kernel
theorem dX4_add_41 : decode cX4_add 41 = .ok (.dup, 1) := by decide +kernel
theorem dX4_add_42 : decode cX4_add 42 = .ok (.getfield 20, 3) := by decide +kernel
theorem dX4_add_45 : decode cX4_add 45 = .ok (.iconst 1, 1) := by decide +kernel
theorem dX4_add_46 : decode cX4_add 46 = .ok (.iadd, 1) := by decide +kernel
theorem dX4_add_47 : decode cX4_add 47 = .ok (.putfield 20, 3) := by decide +kernel
theorem dX4_add_50 : decode cX4_add 50 = .ok (.return_, 1) := by decide +kernel
theorem dJx00060_init_a7421_0 : decode cJx00060_init_a7421 0 = .ok (.aload_n 0, 1) := by decide +kernel
theorem dJx00060_init_a7421_1 : decode cJx00060_init_a7421 1 = .ok (.aload_n 1, 1) := by decide +kernel
theorem dJx00060_init_a7421_2 : decode cJx00060_init_a7421 2 = .ok (.invokespecial 7, 3) := by decide +kernel
theorem dJx00060_init_a7421_5 : decode cJx00060_init_a7421 5 = .ok (.return_, 1) := by decide +kernel
theorem dJ9_min_7cf53_0 : decode cJ9_min_7cf53 0 = .ok (.iload_n 0, 1) := by decide +kernel
theorem dJ9_min_7cf53_1 : decode cJ9_min_7cf53 1 = .ok (.iload_n 1, 1) := by decide +kernel
theorem dJ9_min_7cf53_2 : decode cJ9_min_7cf53 2 = .ok (.if_icmp .gt 7, 3) := by decide +kernel
theorem dJ9_min_7cf53_5 : decode cJ9_min_7cf53 5 = .ok (.iload_n 0, 1) := by decide +kernel
theorem dJ9_min_7cf53_6 : decode cJ9_min_7cf53 6 = .ok (.goto 4, 3) := by decide +kernel
theorem dJ9_min_7cf53_9 : decode cJ9_min_7cf53 9 = .ok (.iload_n 1, 1) := by decide +kernel
theorem dJ9_min_7cf53_10 : decode cJ9_min_7cf53 10 = .ok (.ireturn, 1) := by decide +kernel
