theorem dY_init_0 : decode cY_init 0 = .ok (.aload_n 0, 1) := by decide +kernel
theorem dY_init_1 : decode cY_init 1 = .ok (.invokespecial 1, 3) := by decide +kernel
theorem dY_init_4 : decode cY_init 4 = .ok (.aload_n 0, 1) := by decide +kernel
theorem dY_init_5 : decode cY_init 5 = .ok (.bipush 8, 2) := by decide +kernel
theorem dY_init_7 : decode cY_init 7 = .ok (.newarray .long, 2) := by decide +kernel
theorem dY_init_9 : decode cY_init 9 = .ok (.putfield 7, 3) := by decide +kernel
theorem dY_init_12 : decode cY_init 12 = .ok (.return_, 1) := by decide +kernel
theorem dY_set_0 : decode cY_set 0 = .ok (.iload_n 1, 1) := by decide +kernel
theorem dY_set_1 : decode cY_set 1 = .ok (.ifCond .lt 9, 3) := by decide +kernel
theorem dY_set_4 : decode cY_set 4 = .ok (.iload_n 1, 1) := by decide +kernel
theorem dY_set_5 : decode cY_set 5 = .ok (.bipush 7, 2) := by decide +kernel
theorem dY_set_7 : decode cY_set 7 = .ok (.if_icmp .le 5, 3) := by decide +kernel
theorem dY_set_10 : decode cY_set 10 = .ok (.iconst 0, 1) := by decide +kernel
theorem dY_set_11 : decode cY_set 11 = .ok (.ireturn, 1) := by decide +kernel
theorem dY_set_12 : decode cY_set 12 = .ok (.aload_n 0, 1) := by decide +kernel
theorem dY_set_13 : decode cY_set 13 = .ok (.getfield 7, 3) := by decide +kernel
theorem dY_set_16 : decode cY_set 16 = .ok (.iload_n 1, 1) := by decide +kernel
theorem dY_set_17 : decode cY_set 17 = .ok (.lload_n 2, 1) := by decide +kernel
theorem dY_set_18 : decode cY_set 18 = .ok (.lastore, 1) := by decide +kernel
theorem dY_set_19 : decode cY_set 19 = .ok (.iconst 1, 1) := by decide +kernel
theorem dY_set_20 : decode cY_set 20 = .ok (.ireturn, 1) := by decide +kernel
theorem dY_get_0 : decode cY_get 0 = .ok (.iload_n 1, 1) := by decide +kernel
theorem dY_get_1 : decode cY_get 1 = .ok (.ifCond .lt 9, 3) := by decide +kernel
theorem dY_get_4 : decode cY_get 4 = .ok (.iload_n 1, 1) := by decide +kernel
theorem dY_get_5 : decode cY_get 5 = .ok (.bipush 7, 2) := by decide +kernel
theorem dY_get_7 : decode cY_get 7 = .ok (.if_icmp .le 7, 3) := by decide +kernel
theorem dY_get_10 : decode cY_get 10 = .ok (.lconst 0, 1) := by decide +kernel
theorem dY_get_11 : decode cY_get 11 = .ok (.goto 9, 3) := by decide +kernel
theorem dY_get_14 : decode cY_get 14 = .ok (.aload_n 0, 1) := by decide +kernel
theorem dY_get_15 : decode cY_get 15 = .ok (.getfield 7, 3) := by decide +kernel
theorem dY_get_18 : decode cY_get 18 = .ok (.iload_n 1, 1) := by decide +kernel
theorem dY_get_19 : decode cY_get 19 = .ok (.laload, 1) := by decide +kernel
theorem dY_get_20 : decode cY_get 20 = .ok (.lreturn, 1) := by decide +kernel
theorem dY_under_0 : decode cY_under 0 = .ok (.aload_n 0, 1) := by decide +kernel
theorem dY_under_1 : decode cY_under 1 = .ok (.iload_n 1, 1) := by decide +kernel
theorem dY_under_2 : decode cY_under 2 = .ok (.putfield 13, 3) := by decide +kernel
theorem dY_under_5 : decode cY_under 5 = .ok (.return_, 1) := by decide +kernel
theorem dY_isSize_0 : decode cY_isSize 0 = .ok (.iload_n 0, 1) := by decide +kernel
theorem dY_isSize_1 : decode cY_isSize 1 = .ok (.iconst 4, 1) := by decide +kernel
theorem dY_isSize_2 : decode cY_isSize 2 = .ok (.if_icmp .eq 9, 3) := by decide +kernel
theorem dY_isSize_5 : decode cY_isSize 5 = .ok (.iload_n 0, 1) := by decide +kernel
theorem dY_isSize_6 : decode cY_isSize 6 = .ok (.bipush 8, 2) := by decide +kernel
theorem dY_isSize_8 : decode cY_isSize 8 = .ok (.if_icmp .ne 7, 3) := by decide +kernel
theorem dY_isSize_11 : decode cY_isSize 11 = .ok (.iconst 1, 1) := by decide +kernel
theorem dY_isSize_12 : decode cY_isSize 12 = .ok (.goto 4, 3) := by decide +kernel
theorem dY_isSize_15 : decode cY_isSize 15 = .ok (.iconst 0, 1) := by decide +kernel
theorem dY_isSize_16 : decode cY_isSize 16 = .ok (.ireturn, 1) := by decide +kernel
theorem dY_isRegister_0 : decode cY_isRegister 0 = .ok (.iload_n 0, 1) := by decide +kernel
theorem dY_isRegister_1 : decode cY_isRegister 1 = .ok (.ifCond .lt 13, 3) := by decide +kernel
theorem dY_isRegister_4 : decode cY_isRegister 4 = .ok (.iload_n 0, 1) := by decide +kernel
theorem dY_isRegister_5 : decode cY_isRegister 5 = .ok (.bipush 7, 2) := by decide +kernel
theorem dY_isRegister_7 : decode cY_isRegister 7 = .ok (.if_icmp .gt 7, 3) := by decide +kernel
theorem dY_isRegister_10 : decode cY_isRegister 10 = .ok (.iconst 1, 1) := by decide +kernel
theorem dY_isRegister_11 : decode cY_isRegister 11 = .ok (.goto 4, 3) := by decide +kernel
theorem dY_isRegister_14 : decode cY_isRegister 14 = .ok (.iconst 0, 1) := by decide +kernel
theorem dY_isRegister_15 : decode cY_isRegister 15 = .ok (.ireturn, 1) := by decide +kernel
theorem dY_many_0 : decode cY_many 0 = .ok (.iload_n 0, 1) := by decide +kernel
theorem dY_many_1 : decode cY_many 1 = .ok (.bipush 8, 2) := by decide +kernel
theorem dY_many_3 : decode cY_many 3 = .ok (.if_icmp .ne 8, 3) := by decide +kernel
theorem dY_many_6 : decode cY_many 6 = .ok (.bipush 56, 2) := by decide +kernel
theorem dY_many_8 : decode cY_many 8 = .ok (.goto 5, 3) := by decide +kernel
theorem dY_many_11 : decode cY_many 11 = .ok (.bipush 24, 2) := by decide +kernel
theorem dY_many_13 : decode cY_many 13 = .ok (.ireturn, 1) := by decide +kernel
theorem dY_in_0 : decode cY_in 0 = .ok (.iload_n 1, 1) := by decide +kernel
theorem dY_in_1 : decode cY_in 1 = .ok (.bipush 8, 2) := by decide +kernel
theorem dY_in_3 : decode cY_in 3 = .ok (.if_icmp .ne 12, 3) := by decide +kernel
theorem dY_in_6 : decode cY_in 6 = .ok (.aload_n 0, 1) := by decide +kernel
theorem dY_in_7 : decode cY_in 7 = .ok (.getfield 7, 3) := by decide +kernel
theorem dY_in_10 : decode cY_in 10 = .ok (.iload_n 2, 1) := by decide +kernel
theorem dY_in_11 : decode cY_in 11 = .ok (.laload, 1) := by decide +kernel
theorem dY_in_12 : decode cY_in 12 = .ok (.goto 13, 3) := by decide +kernel
theorem dY_in_15 : decode cY_in 15 = .ok (.aload_n 0, 1) := by decide +kernel
theorem dY_in_16 : decode cY_in 16 = .ok (.getfield 7, 3) := by decide +kernel
theorem dY_in_19 : decode cY_in 19 = .ok (.iload_n 2, 1) := by decide +kernel
theorem dY_in_20 : decode cY_in 20 = .ok (.laload, 1) := by decide +kernel
theorem dY_in_21 : decode cY_in 21 = .ok (.ldc2_w 17, 3) := by decide +kernel
theorem dY_in_24 : decode cY_in 24 = .ok (.land, 1) := by decide +kernel
theorem dY_in_25 : decode cY_in 25 = .ok (.lreturn, 1) := by decide +kernel
theorem dY_isReserved_0 : decode cY_isReserved 0 = .ok (.lload_n 0, 1) := by decide +kernel
theorem dY_isReserved_1 : decode cY_isReserved 1 = .ok (.ldc2_w 19, 3) := by decide +kernel
theorem dY_isReserved_4 : decode cY_isReserved 4 = .ok (.land, 1) := by decide +kernel
theorem dY_isReserved_5 : decode cY_isReserved 5 = .ok (.ldc2_w 21, 3) := by decide +kernel
theorem dY_isReserved_8 : decode cY_isReserved 8 = .ok (.lcmp, 1) := by decide +kernel
theorem dY_isReserved_9 : decode cY_isReserved 9 = .ok (.ifCond .ne 7, 3) := by decide +kernel
theorem dY_isReserved_12 : decode cY_isReserved 12 = .ok (.iconst 1, 1) := by decide +kernel
theorem dY_isReserved_13 : decode cY_isReserved 13 = .ok (.goto 4, 3) := by decide +kernel
theorem dY_isReserved_16 : decode cY_isReserved 16 = .ok (.iconst 0, 1) := by decide +kernel
theorem dY_isReserved_17 : decode cY_isReserved 17 = .ok (.ireturn, 1) := by decide +kernel
theorem dY_isZero_0 : decode cY_isZero 0 = .ok (.lload_n 0, 1) := by decide +kernel
theorem dY_isZero_1 : decode cY_isZero 1 = .ok (.ldc2_w 23, 3) := by decide +kernel
theorem dY_isZero_4 : decode cY_isZero 4 = .ok (.land, 1) := by decide +kernel
theorem dY_isZero_5 : decode cY_isZero 5 = .ok (.lconst 0, 1) := by decide +kernel
theorem dY_isZero_6 : decode cY_isZero 6 = .ok (.lcmp, 1) := by decide +kernel
theorem dY_isZero_7 : decode cY_isZero 7 = .ok (.ifCond .ne 7, 3) := by decide +kernel
theorem dY_isZero_10 : decode cY_isZero 10 = .ok (.iconst 1, 1) := by decide +kernel
theorem dY_isZero_11 : decode cY_isZero 11 = .ok (.goto 4, 3) := by decide +kernel
theorem dY_isZero_14 : decode cY_isZero 14 = .ok (.iconst 0, 1) := by decide +kernel
theorem dY_isZero_15 : decode cY_isZero 15 = .ok (.ireturn, 1) := by decide +kernel
theorem dY_isBelow_0 : decode cY_isBelow 0 = .ok (.lload_n 0, 1) := by decide +kernel
theorem dY_isBelow_1 : decode cY_isBelow 1 = .ok (.ldc2_w 21, 3) := by decide +kernel
theorem dY_isBelow_4 : decode cY_isBelow 4 = .ok (.land, 1) := by decide +kernel
theorem dY_isBelow_5 : decode cY_isBelow 5 = .ok (.lconst 0, 1) := by decide +kernel
theorem dY_isBelow_6 : decode cY_isBelow 6 = .ok (.lcmp, 1) := by decide +kernel
theorem dY_isBelow_7 : decode cY_isBelow 7 = .ok (.ifCond .eq 7, 3) := by decide +kernel
theorem dY_isBelow_10 : decode cY_isBelow 10 = .ok (.iconst 1, 1) := by decide +kernel
theorem dY_isBelow_11 : decode cY_isBelow 11 = .ok (.goto 4, 3) := by decide +kernel
theorem dY_isBelow_14 : decode cY_isBelow 14 = .ok (.iconst 0, 1) := by decide +kernel
theorem dY_isBelow_15 : decode cY_isBelow 15 = .ok (.ireturn, 1) := by decide +kernel
theorem dY_take_0 : decode cY_take 0 = .ok (.aload_n 0, 1) := by decide +kernel
theorem dY_take_1 : decode cY_take 1 = .ok (.lload_n 2, 1) := by decide +kernel
theorem dY_take_2 : decode cY_take 2 = .ok (.invokestatic 25, 3) := by decide +kernel
theorem dY_take_5 : decode cY_take 5 = .ok (.putfield 29, 3) := by decide +kernel
theorem dY_take_8 : decode cY_take 8 = .ok (.aload_n 0, 1) := by decide +kernel
theorem dY_take_9 : decode cY_take 9 = .ok (.lload_n 2, 1) := by decide +kernel
theorem dY_take_10 : decode cY_take 10 = .ok (.bipush 7, 2) := by decide +kernel
theorem dY_take_12 : decode cY_take 12 = .ok (.lshr, 1) := by decide +kernel
theorem dY_take_13 : decode cY_take 13 = .ok (.ldc2_w 32, 3) := by decide +kernel
theorem dY_take_16 : decode cY_take 16 = .ok (.land, 1) := by decide +kernel
theorem dY_take_17 : decode cY_take 17 = .ok (.l2i, 1) := by decide +kernel
theorem dY_take_18 : decode cY_take 18 = .ok (.putfield 34, 3) := by decide +kernel
theorem dY_take_21 : decode cY_take 21 = .ok (.lload_n 2, 1) := by decide +kernel
theorem dY_take_22 : decode cY_take 22 = .ok (.ldc2_w 38, 3) := by decide +kernel
theorem dY_take_25 : decode cY_take 25 = .ok (.land, 1) := by decide +kernel
theorem dY_take_26 : decode cY_take 26 = .ok (.bipush 48, 2) := by decide +kernel
theorem dY_take_28 : decode cY_take 28 = .ok (.lshl, 1) := by decide +kernel
theorem dY_take_29 : decode cY_take 29 = .ok (.lload_n 2, 1) := by decide +kernel
theorem dY_take_30 : decode cY_take 30 = .ok (.bipush 16, 2) := by decide +kernel
theorem dY_take_32 : decode cY_take 32 = .ok (.lshr, 1) := by decide +kernel
theorem dY_take_33 : decode cY_take 33 = .ok (.ldc2_w 40, 3) := by decide +kernel
theorem dY_take_36 : decode cY_take 36 = .ok (.land, 1) := by decide +kernel
theorem dY_take_37 : decode cY_take 37 = .ok (.bipush 32, 2) := by decide +kernel
theorem dY_take_39 : decode cY_take 39 = .ok (.lshl, 1) := by decide +kernel
theorem dY_take_40 : decode cY_take 40 = .ok (.lor, 1) := by decide +kernel
theorem dY_take_41 : decode cY_take 41 = .ok (.lstore 4, 2) := by decide +kernel
theorem dY_take_43 : decode cY_take 43 = .ok (.iload_n 1, 1) := by decide +kernel
theorem dY_take_44 : decode cY_take 44 = .ok (.bipush 8, 2) := by decide +kernel
theorem dY_take_46 : decode cY_take 46 = .ok (.if_icmp .ne 28, 3) := by decide +kernel
theorem dY_take_49 : decode cY_take 49 = .ok (.lload 4, 2) := by decide +kernel
theorem dY_take_51 : decode cY_take 51 = .ok (.lload_n 2, 1) := by decide +kernel
theorem dY_take_52 : decode cY_take 52 = .ok (.bipush 32, 2) := by decide +kernel
theorem dY_take_54 : decode cY_take 54 = .ok (.lshr, 1) := by decide +kernel
theorem dY_take_55 : decode cY_take 55 = .ok (.ldc2_w 40, 3) := by decide +kernel
theorem dY_take_58 : decode cY_take 58 = .ok (.land, 1) := by decide +kernel
theorem dY_take_59 : decode cY_take 59 = .ok (.bipush 16, 2) := by decide +kernel
theorem dY_take_61 : decode cY_take 61 = .ok (.lshl, 1) := by decide +kernel
theorem dY_take_62 : decode cY_take 62 = .ok (.lor, 1) := by decide +kernel
theorem dY_take_63 : decode cY_take 63 = .ok (.lload_n 2, 1) := by decide +kernel
theorem dY_take_64 : decode cY_take 64 = .ok (.bipush 48, 2) := by decide +kernel
theorem dY_take_66 : decode cY_take 66 = .ok (.lshr, 1) := by decide +kernel
theorem dY_take_67 : decode cY_take 67 = .ok (.ldc2_w 40, 3) := by decide +kernel
theorem dY_take_70 : decode cY_take 70 = .ok (.land, 1) := by decide +kernel
theorem dY_take_71 : decode cY_take 71 = .ok (.lor, 1) := by decide +kernel
theorem dY_take_72 : decode cY_take 72 = .ok (.lstore 4, 2) := by decide +kernel
theorem dY_take_74 : decode cY_take 74 = .ok (.aload_n 0, 1) := by decide +kernel
theorem dY_take_75 : decode cY_take 75 = .ok (.aload_n 0, 1) := by decide +kernel
theorem dY_take_76 : decode cY_take 76 = .ok (.getfield 34, 3) := by decide +kernel
theorem dY_take_79 : decode cY_take 79 = .ok (.ifCond .ne 7, 3) := by decide +kernel
theorem dY_take_82 : decode cY_take 82 = .ok (.lconst 0, 1) := by decide +kernel
theorem dY_take_83 : decode cY_take 83 = .ok (.goto 9, 3) := by decide +kernel
theorem dY_take_86 : decode cY_take 86 = .ok (.ldc2_w 42, 3) := by decide +kernel
theorem dY_take_89 : decode cY_take 89 = .ok (.lload 4, 2) := by decide +kernel
theorem dY_take_91 : decode cY_take 91 = .ok (.lor, 1) := by decide +kernel
theorem dY_take_92 : decode cY_take 92 = .ok (.putfield 44, 3) := by decide +kernel
theorem dY_take_95 : decode cY_take 95 = .ok (.return_, 1) := by decide +kernel
theorem dY_rounds_0 : decode cY_rounds 0 = .ok (.aload_n 0, 1) := by decide +kernel
theorem dY_rounds_1 : decode cY_rounds 1 = .ok (.iconst 0, 1) := by decide +kernel
theorem dY_rounds_2 : decode cY_rounds 2 = .ok (.putfield 48, 3) := by decide +kernel
theorem dY_rounds_5 : decode cY_rounds 5 = .ok (.aload_n 0, 1) := by decide +kernel
theorem dY_rounds_6 : decode cY_rounds 6 = .ok (.iconst 0, 1) := by decide +kernel
theorem dY_rounds_7 : decode cY_rounds 7 = .ok (.putfield 51, 3) := by decide +kernel
theorem dY_rounds_10 : decode cY_rounds 10 = .ok (.lload_n 3, 1) := by decide +kernel
theorem dY_rounds_11 : decode cY_rounds 11 = .ok (.lconst 0, 1) := by decide +kernel
theorem dY_rounds_12 : decode cY_rounds 12 = .ok (.lcmp, 1) := by decide +kernel
theorem dY_rounds_13 : decode cY_rounds 13 = .ok (.ifCond .ne 5, 3) := by decide +kernel
theorem dY_rounds_16 : decode cY_rounds 16 = .ok (.lconst 0, 1) := by decide +kernel
theorem dY_rounds_17 : decode cY_rounds 17 = .ok (.lreturn, 1) := by decide +kernel
theorem dY_rounds_18 : decode cY_rounds 18 = .ok (.iload_n 1, 1) := by decide +kernel
theorem dY_rounds_19 : decode cY_rounds 19 = .ok (.invokestatic 54, 3) := by decide +kernel
theorem dY_rounds_22 : decode cY_rounds 22 = .ok (.istore 7, 2) := by decide +kernel
theorem dY_rounds_24 : decode cY_rounds 24 = .ok (.iconst 0, 1) := by decide +kernel
theorem dY_rounds_25 : decode cY_rounds 25 = .ok (.istore 8, 2) := by decide +kernel
theorem dY_rounds_27 : decode cY_rounds 27 = .ok (.iload 8, 2) := by decide +kernel
theorem dY_rounds_29 : decode cY_rounds 29 = .ok (.bipush 63, 2) := by decide +kernel
theorem dY_rounds_31 : decode cY_rounds 31 = .ok (.if_icmp .ge 18, 3) := by decide +kernel
theorem dY_rounds_34 : decode cY_rounds 34 = .ok (.lload_n 3, 1) := by decide +kernel
theorem dY_rounds_35 : decode cY_rounds 35 = .ok (.iload 8, 2) := by decide +kernel
theorem dY_rounds_37 : decode cY_rounds 37 = .ok (.lshr, 1) := by decide +kernel
theorem dY_rounds_38 : decode cY_rounds 38 = .ok (.lconst 0, 1) := by decide +kernel
theorem dY_rounds_39 : decode cY_rounds 39 = .ok (.lcmp, 1) := by decide +kernel
theorem dY_rounds_40 : decode cY_rounds 40 = .ok (.ifCond .eq 9, 3) := by decide +kernel
theorem dY_rounds_43 : decode cY_rounds 43 = .ok (.iinc 8 1, 3) := by decide +kernel
theorem dY_rounds_46 : decode cY_rounds 46 = .ok (.goto (-19), 3) := by decide +kernel
theorem dY_rounds_49 : decode cY_rounds 49 = .ok (.iload 8, 2) := by decide +kernel
theorem dY_rounds_51 : decode cY_rounds 51 = .ok (.iload 7, 2) := by decide +kernel
theorem dY_rounds_53 : decode cY_rounds 53 = .ok (.isub, 1) := by decide +kernel
theorem dY_rounds_54 : decode cY_rounds 54 = .ok (.istore 9, 2) := by decide +kernel
theorem dY_rounds_56 : decode cY_rounds 56 = .ok (.iload 9, 2) := by decide +kernel
theorem dY_rounds_58 : decode cY_rounds 58 = .ok (.ifCond .le 48, 3) := by decide +kernel
theorem dY_rounds_61 : decode cY_rounds 61 = .ok (.lload_n 3, 1) := by decide +kernel
theorem dY_rounds_62 : decode cY_rounds 62 = .ok (.iload 9, 2) := by decide +kernel
theorem dY_rounds_64 : decode cY_rounds 64 = .ok (.lshr, 1) := by decide +kernel
theorem dY_rounds_65 : decode cY_rounds 65 = .ok (.lload_n 3, 1) := by decide +kernel
theorem dY_rounds_66 : decode cY_rounds 66 = .ok (.iload 9, 2) := by decide +kernel
theorem dY_rounds_68 : decode cY_rounds 68 = .ok (.iconst 1, 1) := by decide +kernel
theorem dY_rounds_69 : decode cY_rounds 69 = .ok (.isub, 1) := by decide +kernel
theorem dY_rounds_70 : decode cY_rounds 70 = .ok (.lshr, 1) := by decide +kernel
theorem dY_rounds_71 : decode cY_rounds 71 = .ok (.lconst 1, 1) := by decide +kernel
theorem dY_rounds_72 : decode cY_rounds 72 = .ok (.land, 1) := by decide +kernel
theorem dY_rounds_73 : decode cY_rounds 73 = .ok (.ladd, 1) := by decide +kernel
theorem dY_rounds_74 : decode cY_rounds 74 = .ok (.lstore 10, 2) := by decide +kernel
theorem dY_rounds_76 : decode cY_rounds 76 = .ok (.aload_n 0, 1) := by decide +kernel
theorem dY_rounds_77 : decode cY_rounds 77 = .ok (.iload 6, 2) := by decide +kernel
theorem dY_rounds_79 : decode cY_rounds 79 = .ok (.ifCond .ne 16, 3) := by decide +kernel
theorem dY_rounds_82 : decode cY_rounds 82 = .ok (.lload_n 3, 1) := by decide +kernel
theorem dY_rounds_83 : decode cY_rounds 83 = .ok (.lconst 1, 1) := by decide +kernel
theorem dY_rounds_84 : decode cY_rounds 84 = .ok (.iload 9, 2) := by decide +kernel
theorem dY_rounds_86 : decode cY_rounds 86 = .ok (.lshl, 1) := by decide +kernel
theorem dY_rounds_87 : decode cY_rounds 87 = .ok (.lconst 1, 1) := by decide +kernel
theorem dY_rounds_88 : decode cY_rounds 88 = .ok (.lsub, 1) := by decide +kernel
theorem dY_rounds_89 : decode cY_rounds 89 = .ok (.land, 1) := by decide +kernel
theorem dY_rounds_90 : decode cY_rounds 90 = .ok (.lconst 0, 1) := by decide +kernel
theorem dY_rounds_91 : decode cY_rounds 91 = .ok (.lcmp, 1) := by decide +kernel
theorem dY_rounds_92 : decode cY_rounds 92 = .ok (.ifCond .eq 7, 3) := by decide +kernel
theorem dY_rounds_95 : decode cY_rounds 95 = .ok (.iconst 1, 1) := by decide +kernel
theorem dY_rounds_96 : decode cY_rounds 96 = .ok (.goto 4, 3) := by decide +kernel
theorem dY_rounds_99 : decode cY_rounds 99 = .ok (.iconst 0, 1) := by decide +kernel
theorem dY_rounds_100 : decode cY_rounds 100 = .ok (.putfield 51, 3) := by decide +kernel
theorem dY_rounds_103 : decode cY_rounds 103 = .ok (.goto 16, 3) := by decide +kernel
theorem dY_rounds_106 : decode cY_rounds 106 = .ok (.lload_n 3, 1) := by decide +kernel
theorem dY_rounds_107 : decode cY_rounds 107 = .ok (.iload 9, 2) := by decide +kernel
theorem dY_rounds_109 : decode cY_rounds 109 = .ok (.ineg, 1) := by decide +kernel
theorem dY_rounds_110 : decode cY_rounds 110 = .ok (.lshl, 1) := by decide +kernel
theorem dY_rounds_111 : decode cY_rounds 111 = .ok (.lstore 10, 2) := by decide +kernel
theorem dY_rounds_113 : decode cY_rounds 113 = .ok (.aload_n 0, 1) := by decide +kernel
theorem dY_rounds_114 : decode cY_rounds 114 = .ok (.iload 6, 2) := by decide +kernel
theorem dY_rounds_116 : decode cY_rounds 116 = .ok (.putfield 51, 3) := by decide +kernel
theorem dY_rounds_119 : decode cY_rounds 119 = .ok (.lload 10, 2) := by decide +kernel
theorem dY_rounds_121 : decode cY_rounds 121 = .ok (.iload 7, 2) := by decide +kernel
theorem dY_rounds_123 : decode cY_rounds 123 = .ok (.lshr, 1) := by decide +kernel
theorem dY_rounds_124 : decode cY_rounds 124 = .ok (.lconst 0, 1) := by decide +kernel
theorem dY_rounds_125 : decode cY_rounds 125 = .ok (.lcmp, 1) := by decide +kernel
theorem dY_rounds_126 : decode cY_rounds 126 = .ok (.ifCond .eq 12, 3) := by decide +kernel
theorem dY_rounds_129 : decode cY_rounds 129 = .ok (.lload 10, 2) := by decide +kernel
theorem dY_rounds_131 : decode cY_rounds 131 = .ok (.iconst 1, 1) := by decide +kernel
theorem dY_rounds_132 : decode cY_rounds 132 = .ok (.lshr, 1) := by decide +kernel
theorem dY_rounds_133 : decode cY_rounds 133 = .ok (.lstore 10, 2) := by decide +kernel
theorem dY_rounds_135 : decode cY_rounds 135 = .ok (.iinc 9 1, 3) := by decide +kernel
theorem dY_rounds_138 : decode cY_rounds 138 = .ok (.iload 5, 2) := by decide +kernel
theorem dY_rounds_140 : decode cY_rounds 140 = .ok (.iload 9, 2) := by decide +kernel
theorem dY_rounds_142 : decode cY_rounds 142 = .ok (.iadd, 1) := by decide +kernel
theorem dY_rounds_143 : decode cY_rounds 143 = .ok (.iload 7, 2) := by decide +kernel
theorem dY_rounds_145 : decode cY_rounds 145 = .ok (.iadd, 1) := by decide +kernel
theorem dY_rounds_146 : decode cY_rounds 146 = .ok (.sipush 128, 3) := by decide +kernel
theorem dY_rounds_149 : decode cY_rounds 149 = .ok (.iadd, 1) := by decide +kernel
theorem dY_rounds_150 : decode cY_rounds 150 = .ok (.istore 12, 2) := by decide +kernel
theorem dY_rounds_152 : decode cY_rounds 152 = .ok (.iload 12, 2) := by decide +kernel
theorem dY_rounds_154 : decode cY_rounds 154 = .ok (.sipush 255, 3) := by decide +kernel
theorem dY_rounds_157 : decode cY_rounds 157 = .ok (.if_icmp .le 11, 3) := by decide +kernel
theorem dY_rounds_160 : decode cY_rounds 160 = .ok (.aload_n 0, 1) := by decide +kernel
theorem dY_rounds_161 : decode cY_rounds 161 = .ok (.bipush (-2), 2) := by decide +kernel
theorem dY_rounds_163 : decode cY_rounds 163 = .ok (.putfield 48, 3) := by decide +kernel
theorem dY_rounds_166 : decode cY_rounds 166 = .ok (.lconst 0, 1) := by decide +kernel
theorem dY_rounds_167 : decode cY_rounds 167 = .ok (.lreturn, 1) := by decide +kernel
theorem dY_rounds_168 : decode cY_rounds 168 = .ok (.iload 12, 2) := by decide +kernel
theorem dY_rounds_170 : decode cY_rounds 170 = .ok (.iconst 1, 1) := by decide +kernel
theorem dY_rounds_171 : decode cY_rounds 171 = .ok (.if_icmp .ge 23, 3) := by decide +kernel
theorem dY_rounds_174 : decode cY_rounds 174 = .ok (.aload_n 0, 1) := by decide +kernel
theorem dY_rounds_175 : decode cY_rounds 175 = .ok (.getfield 13, 3) := by decide +kernel
theorem dY_rounds_178 : decode cY_rounds 178 = .ok (.ifCond .eq 9, 3) := by decide +kernel
theorem dY_rounds_181 : decode cY_rounds 181 = .ok (.aload_n 0, 1) := by decide +kernel
theorem dY_rounds_182 : decode cY_rounds 182 = .ok (.bipush (-3), 2) := by decide +kernel
theorem dY_rounds_184 : decode cY_rounds 184 = .ok (.putfield 48, 3) := by decide +kernel
theorem dY_rounds_187 : decode cY_rounds 187 = .ok (.aload_n 0, 1) := by decide +kernel
theorem dY_rounds_188 : decode cY_rounds 188 = .ok (.iconst 1, 1) := by decide +kernel
theorem dY_rounds_189 : decode cY_rounds 189 = .ok (.putfield 51, 3) := by decide +kernel
theorem dY_rounds_192 : decode cY_rounds 192 = .ok (.lconst 0, 1) := by decide +kernel
theorem dY_rounds_193 : decode cY_rounds 193 = .ok (.lreturn, 1) := by decide +kernel
theorem dY_rounds_194 : decode cY_rounds 194 = .ok (.iload_n 1, 1) := by decide +kernel
theorem dY_rounds_195 : decode cY_rounds 195 = .ok (.bipush 8, 2) := by decide +kernel
theorem dY_rounds_197 : decode cY_rounds 197 = .ok (.if_icmp .ne 8, 3) := by decide +kernel
theorem dY_rounds_200 : decode cY_rounds 200 = .ok (.lload 10, 2) := by decide +kernel
theorem dY_rounds_202 : decode cY_rounds 202 = .ok (.goto 8, 3) := by decide +kernel
theorem dY_rounds_205 : decode cY_rounds 205 = .ok (.lload 10, 2) := by decide +kernel
theorem dY_rounds_207 : decode cY_rounds 207 = .ok (.bipush 32, 2) := by decide +kernel
theorem dY_rounds_209 : decode cY_rounds 209 = .ok (.lshl, 1) := by decide +kernel
theorem dY_rounds_210 : decode cY_rounds 210 = .ok (.ldc2_w 58, 3) := by decide +kernel
theorem dY_rounds_213 : decode cY_rounds 213 = .ok (.land, 1) := by decide +kernel
theorem dY_rounds_214 : decode cY_rounds 214 = .ok (.lstore 13, 2) := by decide +kernel
theorem dY_rounds_216 : decode cY_rounds 216 = .ok (.iload_n 2, 1) := by decide +kernel
theorem dY_rounds_217 : decode cY_rounds 217 = .ok (.ifCond .eq 9, 3) := by decide +kernel
theorem dY_rounds_220 : decode cY_rounds 220 = .ok (.ldc2_w 21, 3) := by decide +kernel
theorem dY_rounds_223 : decode cY_rounds 223 = .ok (.goto 4, 3) := by decide +kernel
theorem dY_rounds_226 : decode cY_rounds 226 = .ok (.lconst 0, 1) := by decide +kernel
theorem dY_rounds_227 : decode cY_rounds 227 = .ok (.iload 12, 2) := by decide +kernel
theorem dY_rounds_229 : decode cY_rounds 229 = .ok (.i2l, 1) := by decide +kernel
theorem dY_rounds_230 : decode cY_rounds 230 = .ok (.bipush 7, 2) := by decide +kernel
theorem dY_rounds_232 : decode cY_rounds 232 = .ok (.lshl, 1) := by decide +kernel
theorem dY_rounds_233 : decode cY_rounds 233 = .ok (.lor, 1) := by decide +kernel
theorem dY_rounds_234 : decode cY_rounds 234 = .ok (.lload 13, 2) := by decide +kernel
theorem dY_rounds_236 : decode cY_rounds 236 = .ok (.bipush 48, 2) := by decide +kernel
theorem dY_rounds_238 : decode cY_rounds 238 = .ok (.lshr, 1) := by decide +kernel
theorem dY_rounds_239 : decode cY_rounds 239 = .ok (.lor, 1) := by decide +kernel
theorem dY_rounds_240 : decode cY_rounds 240 = .ok (.lload 13, 2) := by decide +kernel
theorem dY_rounds_242 : decode cY_rounds 242 = .ok (.bipush 32, 2) := by decide +kernel
theorem dY_rounds_244 : decode cY_rounds 244 = .ok (.lshr, 1) := by decide +kernel
theorem dY_rounds_245 : decode cY_rounds 245 = .ok (.ldc2_w 40, 3) := by decide +kernel
theorem dY_rounds_248 : decode cY_rounds 248 = .ok (.land, 1) := by decide +kernel
theorem dY_rounds_249 : decode cY_rounds 249 = .ok (.bipush 16, 2) := by decide +kernel
theorem dY_rounds_251 : decode cY_rounds 251 = .ok (.lshl, 1) := by decide +kernel
theorem dY_rounds_252 : decode cY_rounds 252 = .ok (.lor, 1) := by decide +kernel
theorem dY_rounds_253 : decode cY_rounds 253 = .ok (.lstore 15, 2) := by decide +kernel
theorem dY_rounds_255 : decode cY_rounds 255 = .ok (.iload_n 1, 1) := by decide +kernel
theorem dY_rounds_256 : decode cY_rounds 256 = .ok (.bipush 8, 2) := by decide +kernel
theorem dY_rounds_258 : decode cY_rounds 258 = .ok (.if_icmp .ne 31, 3) := by decide +kernel
theorem dY_rounds_261 : decode cY_rounds 261 = .ok (.lload 15, 2) := by decide +kernel
theorem dY_rounds_263 : decode cY_rounds 263 = .ok (.lload 13, 2) := by decide +kernel
theorem dY_rounds_265 : decode cY_rounds 265 = .ok (.bipush 16, 2) := by decide +kernel
theorem dY_rounds_267 : decode cY_rounds 267 = .ok (.lshr, 1) := by decide +kernel
theorem dY_rounds_268 : decode cY_rounds 268 = .ok (.ldc2_w 40, 3) := by decide +kernel
theorem dY_rounds_271 : decode cY_rounds 271 = .ok (.land, 1) := by decide +kernel
theorem dY_rounds_272 : decode cY_rounds 272 = .ok (.bipush 32, 2) := by decide +kernel
theorem dY_rounds_274 : decode cY_rounds 274 = .ok (.lshl, 1) := by decide +kernel
theorem dY_rounds_275 : decode cY_rounds 275 = .ok (.lor, 1) := by decide +kernel
theorem dY_rounds_276 : decode cY_rounds 276 = .ok (.lload 13, 2) := by decide +kernel
theorem dY_rounds_278 : decode cY_rounds 278 = .ok (.ldc2_w 40, 3) := by decide +kernel
theorem dY_rounds_281 : decode cY_rounds 281 = .ok (.land, 1) := by decide +kernel
theorem dY_rounds_282 : decode cY_rounds 282 = .ok (.bipush 48, 2) := by decide +kernel
theorem dY_rounds_284 : decode cY_rounds 284 = .ok (.lshl, 1) := by decide +kernel
theorem dY_rounds_285 : decode cY_rounds 285 = .ok (.lor, 1) := by decide +kernel
theorem dY_rounds_286 : decode cY_rounds 286 = .ok (.goto 5, 3) := by decide +kernel
theorem dY_rounds_289 : decode cY_rounds 289 = .ok (.lload 15, 2) := by decide +kernel
theorem dY_rounds_291 : decode cY_rounds 291 = .ok (.lreturn, 1) := by decide +kernel
theorem dY_flags_0 : decode cY_flags 0 = .ok (.lload_n 0, 1) := by decide +kernel
theorem dY_flags_1 : decode cY_flags 1 = .ok (.invokestatic 60, 3) := by decide +kernel
theorem dY_flags_4 : decode cY_flags 4 = .ok (.ifCond .eq 7, 3) := by decide +kernel
theorem dY_flags_7 : decode cY_flags 7 = .ok (.iconst 4, 1) := by decide +kernel
theorem dY_flags_8 : decode cY_flags 8 = .ok (.goto 16, 3) := by decide +kernel
theorem dY_flags_11 : decode cY_flags 11 = .ok (.lload_n 0, 1) := by decide +kernel
theorem dY_flags_12 : decode cY_flags 12 = .ok (.invokestatic 25, 3) := by decide +kernel
theorem dY_flags_15 : decode cY_flags 15 = .ok (.ifCond .eq 8, 3) := by decide +kernel
theorem dY_flags_18 : decode cY_flags 18 = .ok (.bipush 8, 2) := by decide +kernel
theorem dY_flags_20 : decode cY_flags 20 = .ok (.goto 4, 3) := by decide +kernel
theorem dY_flags_23 : decode cY_flags 23 = .ok (.iconst 0, 1) := by decide +kernel
theorem dY_flags_24 : decode cY_flags 24 = .ok (.ireturn, 1) := by decide +kernel
theorem dY_gives_0 : decode cY_gives 0 = .ok (.aload_n 0, 1) := by decide +kernel
theorem dY_gives_1 : decode cY_gives 1 = .ok (.getfield 48, 3) := by decide +kernel
theorem dY_gives_4 : decode cY_gives 4 = .ok (.ifCond .eq 8, 3) := by decide +kernel
theorem dY_gives_7 : decode cY_gives 7 = .ok (.aload_n 0, 1) := by decide +kernel
theorem dY_gives_8 : decode cY_gives 8 = .ok (.getfield 48, 3) := by decide +kernel
theorem dY_gives_11 : decode cY_gives 11 = .ok (.ireturn, 1) := by decide +kernel
theorem dY_gives_12 : decode cY_gives 12 = .ok (.aload_n 0, 1) := by decide +kernel
theorem dY_gives_13 : decode cY_gives 13 = .ok (.getfield 7, 3) := by decide +kernel
theorem dY_gives_16 : decode cY_gives 16 = .ok (.iload_n 3, 1) := by decide +kernel
theorem dY_gives_17 : decode cY_gives 17 = .ok (.lload_n 1, 1) := by decide +kernel
theorem dY_gives_18 : decode cY_gives 18 = .ok (.lastore, 1) := by decide +kernel
theorem dY_gives_19 : decode cY_gives 19 = .ok (.aload_n 0, 1) := by decide +kernel
theorem dY_gives_20 : decode cY_gives 20 = .ok (.aload_n 0, 1) := by decide +kernel
theorem dY_gives_21 : decode cY_gives 21 = .ok (.getfield 51, 3) := by decide +kernel
theorem dY_gives_24 : decode cY_gives 24 = .ok (.putfield 63, 3) := by decide +kernel
theorem dY_gives_27 : decode cY_gives 27 = .ok (.lload_n 1, 1) := by decide +kernel
theorem dY_gives_28 : decode cY_gives 28 = .ok (.invokestatic 66, 3) := by decide +kernel
theorem dY_gives_31 : decode cY_gives 31 = .ok (.ireturn, 1) := by decide +kernel
theorem dY_other_0 : decode cY_other 0 = .ok (.lload_n 0, 1) := by decide +kernel
theorem dY_other_1 : decode cY_other 1 = .ok (.invokestatic 60, 3) := by decide +kernel
theorem dY_other_4 : decode cY_other 4 = .ok (.ifCond .eq 7, 3) := by decide +kernel
theorem dY_other_7 : decode cY_other 7 = .ok (.lconst 0, 1) := by decide +kernel
theorem dY_other_8 : decode cY_other 8 = .ok (.goto 8, 3) := by decide +kernel
theorem dY_other_11 : decode cY_other 11 = .ok (.lload_n 0, 1) := by decide +kernel
theorem dY_other_12 : decode cY_other 12 = .ok (.ldc2_w 21, 3) := by decide +kernel
theorem dY_other_15 : decode cY_other 15 = .ok (.lxor, 1) := by decide +kernel
theorem dY_other_16 : decode cY_other 16 = .ok (.lreturn, 1) := by decide +kernel
theorem dY_added_0 : decode cY_added 0 = .ok (.aload_n 0, 1) := by decide +kernel
theorem dY_added_1 : decode cY_added 1 = .ok (.iconst 0, 1) := by decide +kernel
theorem dY_added_2 : decode cY_added 2 = .ok (.putfield 48, 3) := by decide +kernel
theorem dY_added_5 : decode cY_added 5 = .ok (.aload_n 0, 1) := by decide +kernel
theorem dY_added_6 : decode cY_added 6 = .ok (.iconst 0, 1) := by decide +kernel
theorem dY_added_7 : decode cY_added 7 = .ok (.putfield 51, 3) := by decide +kernel
theorem dY_added_10 : decode cY_added 10 = .ok (.lload_n 2, 1) := by decide +kernel
theorem dY_added_11 : decode cY_added 11 = .ok (.invokestatic 60, 3) := by decide +kernel
theorem dY_added_14 : decode cY_added 14 = .ok (.ifCond .eq 18, 3) := by decide +kernel
theorem dY_added_17 : decode cY_added 17 = .ok (.lload 4, 2) := by decide +kernel
theorem dY_added_19 : decode cY_added 19 = .ok (.invokestatic 60, 3) := by decide +kernel
theorem dY_added_22 : decode cY_added 22 = .ok (.ifCond .eq 7, 3) := by decide +kernel
theorem dY_added_25 : decode cY_added 25 = .ok (.lconst 0, 1) := by decide +kernel
theorem dY_added_26 : decode cY_added 26 = .ok (.goto 5, 3) := by decide +kernel
theorem dY_added_29 : decode cY_added 29 = .ok (.lload 4, 2) := by decide +kernel
theorem dY_added_31 : decode cY_added 31 = .ok (.lreturn, 1) := by decide +kernel
theorem dY_added_32 : decode cY_added 32 = .ok (.lload 4, 2) := by decide +kernel
theorem dY_added_34 : decode cY_added 34 = .ok (.invokestatic 60, 3) := by decide +kernel
theorem dY_added_37 : decode cY_added 37 = .ok (.ifCond .eq 5, 3) := by decide +kernel
theorem dY_added_40 : decode cY_added 40 = .ok (.lload_n 2, 1) := by decide +kernel
theorem dY_added_41 : decode cY_added 41 = .ok (.lreturn, 1) := by decide +kernel
theorem dY_added_42 : decode cY_added 42 = .ok (.iload_n 1, 1) := by decide +kernel
theorem dY_added_43 : decode cY_added 43 = .ok (.invokestatic 54, 3) := by decide +kernel
theorem dY_added_46 : decode cY_added 46 = .ok (.istore 6, 2) := by decide +kernel
theorem dY_added_48 : decode cY_added 48 = .ok (.aload_n 0, 1) := by decide +kernel
theorem dY_added_49 : decode cY_added 49 = .ok (.iload_n 1, 1) := by decide +kernel
theorem dY_added_50 : decode cY_added 50 = .ok (.lload_n 2, 1) := by decide +kernel
theorem dY_added_51 : decode cY_added 51 = .ok (.invokevirtual 70, 3) := by decide +kernel
theorem dY_added_54 : decode cY_added 54 = .ok (.aload_n 0, 1) := by decide +kernel
theorem dY_added_55 : decode cY_added 55 = .ok (.getfield 29, 3) := by decide +kernel
theorem dY_added_58 : decode cY_added 58 = .ok (.istore 7, 2) := by decide +kernel
theorem dY_added_60 : decode cY_added 60 = .ok (.aload_n 0, 1) := by decide +kernel
theorem dY_added_61 : decode cY_added 61 = .ok (.getfield 34, 3) := by decide +kernel
theorem dY_added_64 : decode cY_added 64 = .ok (.istore 8, 2) := by decide +kernel
theorem dY_added_66 : decode cY_added 66 = .ok (.aload_n 0, 1) := by decide +kernel
theorem dY_added_67 : decode cY_added 67 = .ok (.getfield 44, 3) := by decide +kernel
theorem dY_added_70 : decode cY_added 70 = .ok (.bipush 56, 2) := by decide +kernel
theorem dY_added_72 : decode cY_added 72 = .ok (.iload 6, 2) := by decide +kernel
theorem dY_added_74 : decode cY_added 74 = .ok (.isub, 1) := by decide +kernel
theorem dY_added_75 : decode cY_added 75 = .ok (.lshr, 1) := by decide +kernel
theorem dY_added_76 : decode cY_added 76 = .ok (.lstore 9, 2) := by decide +kernel
theorem dY_added_78 : decode cY_added 78 = .ok (.aload_n 0, 1) := by decide +kernel
theorem dY_added_79 : decode cY_added 79 = .ok (.iload_n 1, 1) := by decide +kernel
theorem dY_added_80 : decode cY_added 80 = .ok (.lload 4, 2) := by decide +kernel
theorem dY_added_82 : decode cY_added 82 = .ok (.invokevirtual 70, 3) := by decide +kernel
theorem dY_added_85 : decode cY_added 85 = .ok (.aload_n 0, 1) := by decide +kernel
theorem dY_added_86 : decode cY_added 86 = .ok (.getfield 29, 3) := by decide +kernel
theorem dY_added_89 : decode cY_added 89 = .ok (.istore 11, 2) := by decide +kernel
theorem dY_added_91 : decode cY_added 91 = .ok (.aload_n 0, 1) := by decide +kernel
theorem dY_added_92 : decode cY_added 92 = .ok (.getfield 34, 3) := by decide +kernel
theorem dY_added_95 : decode cY_added 95 = .ok (.istore 12, 2) := by decide +kernel
theorem dY_added_97 : decode cY_added 97 = .ok (.aload_n 0, 1) := by decide +kernel
theorem dY_added_98 : decode cY_added 98 = .ok (.getfield 44, 3) := by decide +kernel
theorem dY_added_101 : decode cY_added 101 = .ok (.bipush 56, 2) := by decide +kernel
theorem dY_added_103 : decode cY_added 103 = .ok (.iload 6, 2) := by decide +kernel
theorem dY_added_105 : decode cY_added 105 = .ok (.isub, 1) := by decide +kernel
theorem dY_added_106 : decode cY_added 106 = .ok (.lshr, 1) := by decide +kernel
