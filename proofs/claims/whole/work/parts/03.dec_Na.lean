theorem dNa_init_0 : decode cNa_init 0 = .ok (.aload_n 0, 1) := by decide +kernel
theorem dNa_init_1 : decode cNa_init 1 = .ok (.invokespecial 1, 3) := by decide +kernel
theorem dNa_init_4 : decode cNa_init 4 = .ok (.aload_n 0, 1) := by decide +kernel
theorem dNa_init_5 : decode cNa_init 5 = .ok (.bipush 100, 2) := by decide +kernel
theorem dNa_init_7 : decode cNa_init 7 = .ok (.newarray .int, 2) := by decide +kernel
theorem dNa_init_9 : decode cNa_init 9 = .ok (.putfield 9, 3) := by decide +kernel
theorem dNa_init_12 : decode cNa_init 12 = .ok (.aload_n 0, 1) := by decide +kernel
theorem dNa_init_13 : decode cNa_init 13 = .ok (.iconst 1, 1) := by decide +kernel
theorem dNa_init_14 : decode cNa_init 14 = .ok (.putfield 13, 3) := by decide +kernel
theorem dNa_init_17 : decode cNa_init 17 = .ok (.return_, 1) := by decide +kernel
theorem dNa_begin_0 : decode cNa_begin 0 = .ok (.aload_n 0, 1) := by decide +kernel
theorem dNa_begin_1 : decode cNa_begin 1 = .ok (.iconst 0, 1) := by decide +kernel
theorem dNa_begin_2 : decode cNa_begin 2 = .ok (.putfield 17, 3) := by decide +kernel
theorem dNa_begin_5 : decode cNa_begin 5 = .ok (.aload_n 0, 1) := by decide +kernel
theorem dNa_begin_6 : decode cNa_begin 6 = .ok (.iconst 0, 1) := by decide +kernel
theorem dNa_begin_7 : decode cNa_begin 7 = .ok (.putfield 20, 3) := by decide +kernel
theorem dNa_begin_10 : decode cNa_begin 10 = .ok (.aload_n 0, 1) := by decide +kernel
theorem dNa_begin_11 : decode cNa_begin 11 = .ok (.iconst 1, 1) := by decide +kernel
theorem dNa_begin_12 : decode cNa_begin 12 = .ok (.putfield 13, 3) := by decide +kernel
theorem dNa_begin_15 : decode cNa_begin 15 = .ok (.return_, 1) := by decide +kernel
theorem dNa_pushDigit_0 : decode cNa_pushDigit 0 = .ok (.aload_n 0, 1) := by decide +kernel
theorem dNa_pushDigit_1 : decode cNa_pushDigit 1 = .ok (.aload_n 0, 1) := by decide +kernel
theorem dNa_pushDigit_2 : decode cNa_pushDigit 2 = .ok (.getfield 20, 3) := by decide +kernel
theorem dNa_pushDigit_5 : decode cNa_pushDigit 5 = .ok (.bipush 10, 2) := by decide +kernel
theorem dNa_pushDigit_7 : decode cNa_pushDigit 7 = .ok (.imul, 1) := by decide +kernel
theorem dNa_pushDigit_8 : decode cNa_pushDigit 8 = .ok (.iload_n 1, 1) := by decide +kernel
theorem dNa_pushDigit_9 : decode cNa_pushDigit 9 = .ok (.iadd, 1) := by decide +kernel
theorem dNa_pushDigit_10 : decode cNa_pushDigit 10 = .ok (.putfield 20, 3) := by decide +kernel
theorem dNa_pushDigit_13 : decode cNa_pushDigit 13 = .ok (.aload_n 0, 1) := by decide +kernel
theorem dNa_pushDigit_14 : decode cNa_pushDigit 14 = .ok (.dup, 1) := by decide +kernel
theorem dNa_pushDigit_15 : decode cNa_pushDigit 15 = .ok (.getfield 13, 3) := by decide +kernel
theorem dNa_pushDigit_18 : decode cNa_pushDigit 18 = .ok (.bipush 10, 2) := by decide +kernel
theorem dNa_pushDigit_20 : decode cNa_pushDigit 20 = .ok (.imul, 1) := by decide +kernel
theorem dNa_pushDigit_21 : decode cNa_pushDigit 21 = .ok (.putfield 13, 3) := by decide +kernel
theorem dNa_pushDigit_24 : decode cNa_pushDigit 24 = .ok (.aload_n 0, 1) := by decide +kernel
theorem dNa_pushDigit_25 : decode cNa_pushDigit 25 = .ok (.getfield 13, 3) := by decide +kernel
theorem dNa_pushDigit_28 : decode cNa_pushDigit 28 = .ok (.ldc 23, 2) := by decide +kernel
theorem dNa_pushDigit_30 : decode cNa_pushDigit 30 = .ok (.if_icmp .ne 7, 3) := by decide +kernel
theorem dNa_pushDigit_33 : decode cNa_pushDigit 33 = .ok (.aload_n 0, 1) := by decide +kernel
theorem dNa_pushDigit_34 : decode cNa_pushDigit 34 = .ok (.invokevirtual 24, 3) := by decide +kernel
theorem dNa_pushDigit_37 : decode cNa_pushDigit 37 = .ok (.return_, 1) := by decide +kernel
theorem dNa_end_0 : decode cNa_end 0 = .ok (.aload_n 0, 1) := by decide +kernel
theorem dNa_end_1 : decode cNa_end 1 = .ok (.aload_n 0, 1) := by decide +kernel
theorem dNa_end_2 : decode cNa_end 2 = .ok (.getfield 13, 3) := by decide +kernel
theorem dNa_end_5 : decode cNa_end 5 = .ok (.aload_n 0, 1) := by decide +kernel
theorem dNa_end_6 : decode cNa_end 6 = .ok (.getfield 20, 3) := by decide +kernel
theorem dNa_end_9 : decode cNa_end 9 = .ok (.invokevirtual 27, 3) := by decide +kernel
theorem dNa_end_12 : decode cNa_end 12 = .ok (.aload_n 0, 1) := by decide +kernel
theorem dNa_end_13 : decode cNa_end 13 = .ok (.iconst 0, 1) := by decide +kernel
theorem dNa_end_14 : decode cNa_end 14 = .ok (.putfield 20, 3) := by decide +kernel
theorem dNa_end_17 : decode cNa_end 17 = .ok (.aload_n 0, 1) := by decide +kernel
theorem dNa_end_18 : decode cNa_end 18 = .ok (.iconst 1, 1) := by decide +kernel
theorem dNa_end_19 : decode cNa_end 19 = .ok (.putfield 13, 3) := by decide +kernel
theorem dNa_end_22 : decode cNa_end 22 = .ok (.return_, 1) := by decide +kernel
theorem dNa_multiplyAdd_0 : decode cNa_multiplyAdd 0 = .ok (.iload_n 2, 1) := by decide +kernel
theorem dNa_multiplyAdd_1 : decode cNa_multiplyAdd 1 = .ok (.i2l, 1) := by decide +kernel
theorem dNa_multiplyAdd_2 : decode cNa_multiplyAdd 2 = .ok (.lstore_n 3, 1) := by decide +kernel
theorem dNa_multiplyAdd_3 : decode cNa_multiplyAdd 3 = .ok (.iconst 0, 1) := by decide +kernel
theorem dNa_multiplyAdd_4 : decode cNa_multiplyAdd 4 = .ok (.istore 5, 2) := by decide +kernel
theorem dNa_multiplyAdd_6 : decode cNa_multiplyAdd 6 = .ok (.iload 5, 2) := by decide +kernel
theorem dNa_multiplyAdd_8 : decode cNa_multiplyAdd 8 = .ok (.aload_n 0, 1) := by decide +kernel
theorem dNa_multiplyAdd_9 : decode cNa_multiplyAdd 9 = .ok (.getfield 17, 3) := by decide +kernel
theorem dNa_multiplyAdd_12 : decode cNa_multiplyAdd 12 = .ok (.if_icmp .ge 54, 3) := by decide +kernel
theorem dNa_multiplyAdd_15 : decode cNa_multiplyAdd 15 = .ok (.iload 5, 2) := by decide +kernel
theorem dNa_multiplyAdd_17 : decode cNa_multiplyAdd 17 = .ok (.aload_n 0, 1) := by decide +kernel
theorem dNa_multiplyAdd_18 : decode cNa_multiplyAdd 18 = .ok (.getfield 9, 3) := by decide +kernel
theorem dNa_multiplyAdd_21 : decode cNa_multiplyAdd 21 = .ok (.arraylength, 1) := by decide +kernel
theorem dNa_multiplyAdd_22 : decode cNa_multiplyAdd 22 = .ok (.if_icmp .ge 44, 3) := by decide +kernel
theorem dNa_multiplyAdd_25 : decode cNa_multiplyAdd 25 = .ok (.aload_n 0, 1) := by decide +kernel
theorem dNa_multiplyAdd_26 : decode cNa_multiplyAdd 26 = .ok (.getfield 9, 3) := by decide +kernel
theorem dNa_multiplyAdd_29 : decode cNa_multiplyAdd 29 = .ok (.iload 5, 2) := by decide +kernel
theorem dNa_multiplyAdd_31 : decode cNa_multiplyAdd 31 = .ok (.iaload, 1) := by decide +kernel
theorem dNa_multiplyAdd_32 : decode cNa_multiplyAdd 32 = .ok (.i2l, 1) := by decide +kernel
theorem dNa_multiplyAdd_33 : decode cNa_multiplyAdd 33 = .ok (.ldc2_w 31, 3) := by decide +kernel
theorem dNa_multiplyAdd_36 : decode cNa_multiplyAdd 36 = .ok (.land, 1) := by decide +kernel
theorem dNa_multiplyAdd_37 : decode cNa_multiplyAdd 37 = .ok (.iload_n 1, 1) := by decide +kernel
theorem dNa_multiplyAdd_38 : decode cNa_multiplyAdd 38 = .ok (.i2l, 1) := by decide +kernel
theorem dNa_multiplyAdd_39 : decode cNa_multiplyAdd 39 = .ok (.lmul, 1) := by decide +kernel
theorem dNa_multiplyAdd_40 : decode cNa_multiplyAdd 40 = .ok (.lload_n 3, 1) := by decide +kernel
theorem dNa_multiplyAdd_41 : decode cNa_multiplyAdd 41 = .ok (.ladd, 1) := by decide +kernel
theorem dNa_multiplyAdd_42 : decode cNa_multiplyAdd 42 = .ok (.lstore 6, 2) := by decide +kernel
theorem dNa_multiplyAdd_44 : decode cNa_multiplyAdd 44 = .ok (.aload_n 0, 1) := by decide +kernel
theorem dNa_multiplyAdd_45 : decode cNa_multiplyAdd 45 = .ok (.getfield 9, 3) := by decide +kernel
theorem dNa_multiplyAdd_48 : decode cNa_multiplyAdd 48 = .ok (.iload 5, 2) := by decide +kernel
theorem dNa_multiplyAdd_50 : decode cNa_multiplyAdd 50 = .ok (.lload 6, 2) := by decide +kernel
theorem dNa_multiplyAdd_52 : decode cNa_multiplyAdd 52 = .ok (.l2i, 1) := by decide +kernel
theorem dNa_multiplyAdd_53 : decode cNa_multiplyAdd 53 = .ok (.iastore, 1) := by decide +kernel
theorem dNa_multiplyAdd_54 : decode cNa_multiplyAdd 54 = .ok (.lload 6, 2) := by decide +kernel
theorem dNa_multiplyAdd_56 : decode cNa_multiplyAdd 56 = .ok (.bipush 32, 2) := by decide +kernel
theorem dNa_multiplyAdd_58 : decode cNa_multiplyAdd 58 = .ok (.lushr, 1) := by decide +kernel
theorem dNa_multiplyAdd_59 : decode cNa_multiplyAdd 59 = .ok (.lstore_n 3, 1) := by decide +kernel
theorem dNa_multiplyAdd_60 : decode cNa_multiplyAdd 60 = .ok (.iinc 5 1, 3) := by decide +kernel
theorem dNa_multiplyAdd_63 : decode cNa_multiplyAdd 63 = .ok (.goto (-57), 3) := by decide +kernel
theorem dNa_multiplyAdd_66 : decode cNa_multiplyAdd 66 = .ok (.lload_n 3, 1) := by decide +kernel
theorem dNa_multiplyAdd_67 : decode cNa_multiplyAdd 67 = .ok (.lconst 0, 1) := by decide +kernel
theorem dNa_multiplyAdd_68 : decode cNa_multiplyAdd 68 = .ok (.lcmp, 1) := by decide +kernel
theorem dNa_multiplyAdd_69 : decode cNa_multiplyAdd 69 = .ok (.ifCond .eq 43, 3) := by decide +kernel
theorem dNa_multiplyAdd_72 : decode cNa_multiplyAdd 72 = .ok (.aload_n 0, 1) := by decide +kernel
theorem dNa_multiplyAdd_73 : decode cNa_multiplyAdd 73 = .ok (.getfield 17, 3) := by decide +kernel
theorem dNa_multiplyAdd_76 : decode cNa_multiplyAdd 76 = .ok (.ifCond .lt 36, 3) := by decide +kernel
theorem dNa_multiplyAdd_79 : decode cNa_multiplyAdd 79 = .ok (.aload_n 0, 1) := by decide +kernel
theorem dNa_multiplyAdd_80 : decode cNa_multiplyAdd 80 = .ok (.getfield 17, 3) := by decide +kernel
theorem dNa_multiplyAdd_83 : decode cNa_multiplyAdd 83 = .ok (.aload_n 0, 1) := by decide +kernel
theorem dNa_multiplyAdd_84 : decode cNa_multiplyAdd 84 = .ok (.getfield 9, 3) := by decide +kernel
theorem dNa_multiplyAdd_87 : decode cNa_multiplyAdd 87 = .ok (.arraylength, 1) := by decide +kernel
theorem dNa_multiplyAdd_88 : decode cNa_multiplyAdd 88 = .ok (.if_icmp .ge 24, 3) := by decide +kernel
theorem dNa_multiplyAdd_91 : decode cNa_multiplyAdd 91 = .ok (.aload_n 0, 1) := by decide +kernel
theorem dNa_multiplyAdd_92 : decode cNa_multiplyAdd 92 = .ok (.getfield 9, 3) := by decide +kernel
theorem dNa_multiplyAdd_95 : decode cNa_multiplyAdd 95 = .ok (.aload_n 0, 1) := by decide +kernel
theorem dNa_multiplyAdd_96 : decode cNa_multiplyAdd 96 = .ok (.getfield 17, 3) := by decide +kernel
theorem dNa_multiplyAdd_99 : decode cNa_multiplyAdd 99 = .ok (.lload_n 3, 1) := by decide +kernel
theorem dNa_multiplyAdd_100 : decode cNa_multiplyAdd 100 = .ok (.l2i, 1) := by decide +kernel
theorem dNa_multiplyAdd_101 : decode cNa_multiplyAdd 101 = .ok (.iastore, 1) := by decide +kernel
theorem dNa_multiplyAdd_102 : decode cNa_multiplyAdd 102 = .ok (.aload_n 0, 1) := by decide +kernel
theorem dNa_multiplyAdd_103 : decode cNa_multiplyAdd 103 = .ok (.dup, 1) := by decide +kernel
theorem dNa_multiplyAdd_104 : decode cNa_multiplyAdd 104 = .ok (.getfield 17, 3) := by decide +kernel
theorem dNa_multiplyAdd_107 : decode cNa_multiplyAdd 107 = .ok (.iconst 1, 1) := by decide +kernel
theorem dNa_multiplyAdd_108 : decode cNa_multiplyAdd 108 = .ok (.iadd, 1) := by decide +kernel
theorem dNa_multiplyAdd_109 : decode cNa_multiplyAdd 109 = .ok (.putfield 17, 3) := by decide +kernel
theorem dNa_multiplyAdd_112 : decode cNa_multiplyAdd 112 = .ok (.return_, 1) := by decide +kernel
theorem dNa_multiplyByFives_0 : decode cNa_multiplyByFives 0 = .ok (.iload_n 1, 1) := by decide +kernel
theorem dNa_multiplyByFives_1 : decode cNa_multiplyByFives 1 = .ok (.istore_n 2, 1) := by decide +kernel
theorem dNa_multiplyByFives_2 : decode cNa_multiplyByFives 2 = .ok (.iload_n 2, 1) := by decide +kernel
theorem dNa_multiplyByFives_3 : decode cNa_multiplyByFives 3 = .ok (.ifCond .le 23, 3) := by decide +kernel
theorem dNa_multiplyByFives_6 : decode cNa_multiplyByFives 6 = .ok (.aload_n 0, 1) := by decide +kernel
theorem dNa_multiplyByFives_7 : decode cNa_multiplyByFives 7 = .ok (.iload_n 2, 1) := by decide +kernel
theorem dNa_multiplyByFives_8 : decode cNa_multiplyByFives 8 = .ok (.bipush 13, 2) := by decide +kernel
theorem dNa_multiplyByFives_10 : decode cNa_multiplyByFives 10 = .ok (.invokestatic 36, 3) := by decide +kernel
theorem dNa_multiplyByFives_13 : decode cNa_multiplyByFives 13 = .ok (.invokestatic 42, 3) := by decide +kernel
theorem dNa_multiplyByFives_16 : decode cNa_multiplyByFives 16 = .ok (.iconst 0, 1) := by decide +kernel
theorem dNa_multiplyByFives_17 : decode cNa_multiplyByFives 17 = .ok (.invokevirtual 27, 3) := by decide +kernel
theorem dNa_multiplyByFives_20 : decode cNa_multiplyByFives 20 = .ok (.iinc 2 (-13), 3) := by decide +kernel
theorem dNa_multiplyByFives_23 : decode cNa_multiplyByFives 23 = .ok (.goto (-21), 3) := by decide +kernel
theorem dNa_multiplyByFives_26 : decode cNa_multiplyByFives 26 = .ok (.return_, 1) := by decide +kernel
theorem dNa_powerOfFive_0 : decode cNa_powerOfFive 0 = .ok (.iload_n 0, 1) := by decide +kernel
theorem dNa_powerOfFive_1 : decode cNa_powerOfFive 1 = .ok (.ifCond .lt 19, 3) := by decide +kernel
theorem dNa_powerOfFive_4 : decode cNa_powerOfFive 4 = .ok (.iload_n 0, 1) := by decide +kernel
theorem dNa_powerOfFive_5 : decode cNa_powerOfFive 5 = .ok (.getstatic 33, 3) := by decide +kernel
theorem dNa_powerOfFive_8 : decode cNa_powerOfFive 8 = .ok (.arraylength, 1) := by decide +kernel
theorem dNa_powerOfFive_9 : decode cNa_powerOfFive 9 = .ok (.if_icmp .ge 11, 3) := by decide +kernel
theorem dNa_powerOfFive_12 : decode cNa_powerOfFive 12 = .ok (.getstatic 33, 3) := by decide +kernel
theorem dNa_powerOfFive_15 : decode cNa_powerOfFive 15 = .ok (.iload_n 0, 1) := by decide +kernel
theorem dNa_powerOfFive_16 : decode cNa_powerOfFive 16 = .ok (.iaload, 1) := by decide +kernel
theorem dNa_powerOfFive_17 : decode cNa_powerOfFive 17 = .ok (.goto 4, 3) := by decide +kernel
theorem dNa_powerOfFive_20 : decode cNa_powerOfFive 20 = .ok (.iconst 1, 1) := by decide +kernel
theorem dNa_powerOfFive_21 : decode cNa_powerOfFive 21 = .ok (.ireturn, 1) := by decide +kernel
theorem dNa_raiseAboveFives_0 : decode cNa_raiseAboveFives 0 = .ok (.iload_n 1, 1) := by decide +kernel
theorem dNa_raiseAboveFives_1 : decode cNa_raiseAboveFives 1 = .ok (.bipush 7, 2) := by decide +kernel
theorem dNa_raiseAboveFives_3 : decode cNa_raiseAboveFives 3 = .ok (.imul, 1) := by decide +kernel
theorem dNa_raiseAboveFives_4 : decode cNa_raiseAboveFives 4 = .ok (.bipush 96, 2) := by decide +kernel
theorem dNa_raiseAboveFives_6 : decode cNa_raiseAboveFives 6 = .ok (.idiv, 1) := by decide +kernel
theorem dNa_raiseAboveFives_7 : decode cNa_raiseAboveFives 7 = .ok (.iconst 4, 1) := by decide +kernel
theorem dNa_raiseAboveFives_8 : decode cNa_raiseAboveFives 8 = .ok (.iadd, 1) := by decide +kernel
theorem dNa_raiseAboveFives_9 : decode cNa_raiseAboveFives 9 = .ok (.aload_n 0, 1) := by decide +kernel
theorem dNa_raiseAboveFives_10 : decode cNa_raiseAboveFives 10 = .ok (.getfield 9, 3) := by decide +kernel
theorem dNa_raiseAboveFives_13 : decode cNa_raiseAboveFives 13 = .ok (.arraylength, 1) := by decide +kernel
theorem dNa_raiseAboveFives_14 : decode cNa_raiseAboveFives 14 = .ok (.invokestatic 36, 3) := by decide +kernel
theorem dNa_raiseAboveFives_17 : decode cNa_raiseAboveFives 17 = .ok (.istore_n 2, 1) := by decide +kernel
theorem dNa_raiseAboveFives_18 : decode cNa_raiseAboveFives 18 = .ok (.iload_n 2, 1) := by decide +kernel
theorem dNa_raiseAboveFives_19 : decode cNa_raiseAboveFives 19 = .ok (.aload_n 0, 1) := by decide +kernel
theorem dNa_raiseAboveFives_20 : decode cNa_raiseAboveFives 20 = .ok (.getfield 17, 3) := by decide +kernel
theorem dNa_raiseAboveFives_23 : decode cNa_raiseAboveFives 23 = .ok (.isub, 1) := by decide +kernel
theorem dNa_raiseAboveFives_24 : decode cNa_raiseAboveFives 24 = .ok (.istore_n 3, 1) := by decide +kernel
theorem dNa_raiseAboveFives_25 : decode cNa_raiseAboveFives 25 = .ok (.iload_n 3, 1) := by decide +kernel
theorem dNa_raiseAboveFives_26 : decode cNa_raiseAboveFives 26 = .ok (.ifCond .gt 5, 3) := by decide +kernel
theorem dNa_raiseAboveFives_29 : decode cNa_raiseAboveFives 29 = .ok (.iconst 0, 1) := by decide +kernel
theorem dNa_raiseAboveFives_30 : decode cNa_raiseAboveFives 30 = .ok (.ireturn, 1) := by decide +kernel
theorem dNa_raiseAboveFives_31 : decode cNa_raiseAboveFives 31 = .ok (.iload_n 2, 1) := by decide +kernel
theorem dNa_raiseAboveFives_32 : decode cNa_raiseAboveFives 32 = .ok (.iconst 1, 1) := by decide +kernel
theorem dNa_raiseAboveFives_33 : decode cNa_raiseAboveFives 33 = .ok (.isub, 1) := by decide +kernel
theorem dNa_raiseAboveFives_34 : decode cNa_raiseAboveFives 34 = .ok (.istore 4, 2) := by decide +kernel
theorem dNa_raiseAboveFives_36 : decode cNa_raiseAboveFives 36 = .ok (.iload 4, 2) := by decide +kernel
theorem dNa_raiseAboveFives_38 : decode cNa_raiseAboveFives 38 = .ok (.ifCond .lt 24, 3) := by decide +kernel
theorem dNa_raiseAboveFives_41 : decode cNa_raiseAboveFives 41 = .ok (.aload_n 0, 1) := by decide +kernel
theorem dNa_raiseAboveFives_42 : decode cNa_raiseAboveFives 42 = .ok (.getfield 9, 3) := by decide +kernel
theorem dNa_raiseAboveFives_45 : decode cNa_raiseAboveFives 45 = .ok (.iload 4, 2) := by decide +kernel
theorem dNa_raiseAboveFives_47 : decode cNa_raiseAboveFives 47 = .ok (.aload_n 0, 1) := by decide +kernel
theorem dNa_raiseAboveFives_48 : decode cNa_raiseAboveFives 48 = .ok (.iload 4, 2) := by decide +kernel
theorem dNa_raiseAboveFives_50 : decode cNa_raiseAboveFives 50 = .ok (.iload_n 3, 1) := by decide +kernel
theorem dNa_raiseAboveFives_51 : decode cNa_raiseAboveFives 51 = .ok (.isub, 1) := by decide +kernel
theorem dNa_raiseAboveFives_52 : decode cNa_raiseAboveFives 52 = .ok (.invokevirtual 50, 3) := by decide +kernel
theorem dNa_raiseAboveFives_55 : decode cNa_raiseAboveFives 55 = .ok (.iastore, 1) := by decide +kernel
theorem dNa_raiseAboveFives_56 : decode cNa_raiseAboveFives 56 = .ok (.iinc 4 (-1), 3) := by decide +kernel
theorem dNa_raiseAboveFives_59 : decode cNa_raiseAboveFives 59 = .ok (.goto (-23), 3) := by decide +kernel
theorem dNa_raiseAboveFives_62 : decode cNa_raiseAboveFives 62 = .ok (.aload_n 0, 1) := by decide +kernel
theorem dNa_raiseAboveFives_63 : decode cNa_raiseAboveFives 63 = .ok (.iload_n 2, 1) := by decide +kernel
theorem dNa_raiseAboveFives_64 : decode cNa_raiseAboveFives 64 = .ok (.putfield 17, 3) := by decide +kernel
theorem dNa_raiseAboveFives_67 : decode cNa_raiseAboveFives 67 = .ok (.bipush 32, 2) := by decide +kernel
theorem dNa_raiseAboveFives_69 : decode cNa_raiseAboveFives 69 = .ok (.iload_n 3, 1) := by decide +kernel
theorem dNa_raiseAboveFives_70 : decode cNa_raiseAboveFives 70 = .ok (.imul, 1) := by decide +kernel
theorem dNa_raiseAboveFives_71 : decode cNa_raiseAboveFives 71 = .ok (.ireturn, 1) := by decide +kernel
theorem dNa_wordAt_0 : decode cNa_wordAt 0 = .ok (.iload_n 1, 1) := by decide +kernel
theorem dNa_wordAt_1 : decode cNa_wordAt 1 = .ok (.ifCond .lt 29, 3) := by decide +kernel
theorem dNa_wordAt_4 : decode cNa_wordAt 4 = .ok (.iload_n 1, 1) := by decide +kernel
theorem dNa_wordAt_5 : decode cNa_wordAt 5 = .ok (.aload_n 0, 1) := by decide +kernel
theorem dNa_wordAt_6 : decode cNa_wordAt 6 = .ok (.getfield 17, 3) := by decide +kernel
theorem dNa_wordAt_9 : decode cNa_wordAt 9 = .ok (.if_icmp .ge 21, 3) := by decide +kernel
theorem dNa_wordAt_12 : decode cNa_wordAt 12 = .ok (.iload_n 1, 1) := by decide +kernel
theorem dNa_wordAt_13 : decode cNa_wordAt 13 = .ok (.aload_n 0, 1) := by decide +kernel
theorem dNa_wordAt_14 : decode cNa_wordAt 14 = .ok (.getfield 9, 3) := by decide +kernel
theorem dNa_wordAt_17 : decode cNa_wordAt 17 = .ok (.arraylength, 1) := by decide +kernel
theorem dNa_wordAt_18 : decode cNa_wordAt 18 = .ok (.if_icmp .ge 12, 3) := by decide +kernel
theorem dNa_wordAt_21 : decode cNa_wordAt 21 = .ok (.aload_n 0, 1) := by decide +kernel
theorem dNa_wordAt_22 : decode cNa_wordAt 22 = .ok (.getfield 9, 3) := by decide +kernel
theorem dNa_wordAt_25 : decode cNa_wordAt 25 = .ok (.iload_n 1, 1) := by decide +kernel
theorem dNa_wordAt_26 : decode cNa_wordAt 26 = .ok (.iaload, 1) := by decide +kernel
theorem dNa_wordAt_27 : decode cNa_wordAt 27 = .ok (.goto 4, 3) := by decide +kernel
theorem dNa_wordAt_30 : decode cNa_wordAt 30 = .ok (.iconst 0, 1) := by decide +kernel
theorem dNa_wordAt_31 : decode cNa_wordAt 31 = .ok (.ireturn, 1) := by decide +kernel
theorem dNa_divideByFives_0 : decode cNa_divideByFives 0 = .ok (.iconst 0, 1) := by decide +kernel
theorem dNa_divideByFives_1 : decode cNa_divideByFives 1 = .ok (.istore_n 2, 1) := by decide +kernel
theorem dNa_divideByFives_2 : decode cNa_divideByFives 2 = .ok (.iload_n 1, 1) := by decide +kernel
theorem dNa_divideByFives_3 : decode cNa_divideByFives 3 = .ok (.istore_n 3, 1) := by decide +kernel
theorem dNa_divideByFives_4 : decode cNa_divideByFives 4 = .ok (.iload_n 3, 1) := by decide +kernel
theorem dNa_divideByFives_5 : decode cNa_divideByFives 5 = .ok (.ifCond .le 25, 3) := by decide +kernel
theorem dNa_divideByFives_8 : decode cNa_divideByFives 8 = .ok (.iload_n 2, 1) := by decide +kernel
theorem dNa_divideByFives_9 : decode cNa_divideByFives 9 = .ok (.aload_n 0, 1) := by decide +kernel
theorem dNa_divideByFives_10 : decode cNa_divideByFives 10 = .ok (.iload_n 3, 1) := by decide +kernel
theorem dNa_divideByFives_11 : decode cNa_divideByFives 11 = .ok (.bipush 13, 2) := by decide +kernel
theorem dNa_divideByFives_13 : decode cNa_divideByFives 13 = .ok (.invokestatic 36, 3) := by decide +kernel
theorem dNa_divideByFives_16 : decode cNa_divideByFives 16 = .ok (.invokestatic 42, 3) := by decide +kernel
theorem dNa_divideByFives_19 : decode cNa_divideByFives 19 = .ok (.invokevirtual 46, 3) := by decide +kernel
theorem dNa_divideByFives_22 : decode cNa_divideByFives 22 = .ok (.ior, 1) := by decide +kernel
theorem dNa_divideByFives_23 : decode cNa_divideByFives 23 = .ok (.istore_n 2, 1) := by decide +kernel
theorem dNa_divideByFives_24 : decode cNa_divideByFives 24 = .ok (.iinc 3 (-13), 3) := by decide +kernel
theorem dNa_divideByFives_27 : decode cNa_divideByFives 27 = .ok (.goto (-23), 3) := by decide +kernel
theorem dNa_divideByFives_30 : decode cNa_divideByFives 30 = .ok (.iload_n 2, 1) := by decide +kernel
theorem dNa_divideByFives_31 : decode cNa_divideByFives 31 = .ok (.ireturn, 1) := by decide +kernel
theorem dNa_divide_0 : decode cNa_divide 0 = .ok (.iload_n 1, 1) := by decide +kernel
theorem dNa_divide_1 : decode cNa_divide 1 = .ok (.iconst 1, 1) := by decide +kernel
theorem dNa_divide_2 : decode cNa_divide 2 = .ok (.if_icmp .ge 5, 3) := by decide +kernel
theorem dNa_divide_5 : decode cNa_divide 5 = .ok (.iconst 0, 1) := by decide +kernel
theorem dNa_divide_6 : decode cNa_divide 6 = .ok (.ireturn, 1) := by decide +kernel
theorem dNa_divide_7 : decode cNa_divide 7 = .ok (.lconst 0, 1) := by decide +kernel
theorem dNa_divide_8 : decode cNa_divide 8 = .ok (.lstore_n 2, 1) := by decide +kernel
theorem dNa_divide_9 : decode cNa_divide 9 = .ok (.aload_n 0, 1) := by decide +kernel
theorem dNa_divide_10 : decode cNa_divide 10 = .ok (.getfield 17, 3) := by decide +kernel
theorem dNa_divide_13 : decode cNa_divide 13 = .ok (.aload_n 0, 1) := by decide +kernel
theorem dNa_divide_14 : decode cNa_divide 14 = .ok (.getfield 9, 3) := by decide +kernel
theorem dNa_divide_17 : decode cNa_divide 17 = .ok (.arraylength, 1) := by decide +kernel
theorem dNa_divide_18 : decode cNa_divide 18 = .ok (.invokestatic 36, 3) := by decide +kernel
theorem dNa_divide_21 : decode cNa_divide 21 = .ok (.iconst 1, 1) := by decide +kernel
theorem dNa_divide_22 : decode cNa_divide 22 = .ok (.isub, 1) := by decide +kernel
theorem dNa_divide_23 : decode cNa_divide 23 = .ok (.istore 4, 2) := by decide +kernel
theorem dNa_divide_25 : decode cNa_divide 25 = .ok (.iload 4, 2) := by decide +kernel
theorem dNa_divide_27 : decode cNa_divide 27 = .ok (.ifCond .lt 54, 3) := by decide +kernel
theorem dNa_divide_30 : decode cNa_divide 30 = .ok (.lload_n 2, 1) := by decide +kernel
theorem dNa_divide_31 : decode cNa_divide 31 = .ok (.bipush 32, 2) := by decide +kernel
theorem dNa_divide_33 : decode cNa_divide 33 = .ok (.lshl, 1) := by decide +kernel
theorem dNa_divide_34 : decode cNa_divide 34 = .ok (.aload_n 0, 1) := by decide +kernel
theorem dNa_divide_35 : decode cNa_divide 35 = .ok (.getfield 9, 3) := by decide +kernel
theorem dNa_divide_38 : decode cNa_divide 38 = .ok (.iload 4, 2) := by decide +kernel
theorem dNa_divide_40 : decode cNa_divide 40 = .ok (.iaload, 1) := by decide +kernel
theorem dNa_divide_41 : decode cNa_divide 41 = .ok (.i2l, 1) := by decide +kernel
theorem dNa_divide_42 : decode cNa_divide 42 = .ok (.ldc2_w 31, 3) := by decide +kernel
theorem dNa_divide_45 : decode cNa_divide 45 = .ok (.land, 1) := by decide +kernel
theorem dNa_divide_46 : decode cNa_divide 46 = .ok (.lor, 1) := by decide +kernel
theorem dNa_divide_47 : decode cNa_divide 47 = .ok (.lstore 5, 2) := by decide +kernel
theorem dNa_divide_49 : decode cNa_divide 49 = .ok (.lload 5, 2) := by decide +kernel
theorem dNa_divide_51 : decode cNa_divide 51 = .ok (.iload_n 1, 1) := by decide +kernel
theorem dNa_divide_52 : decode cNa_divide 52 = .ok (.i2l, 1) := by decide +kernel
theorem dNa_divide_53 : decode cNa_divide 53 = .ok (.ldiv, 1) := by decide +kernel
theorem dNa_divide_54 : decode cNa_divide 54 = .ok (.lstore 7, 2) := by decide +kernel
theorem dNa_divide_56 : decode cNa_divide 56 = .ok (.aload_n 0, 1) := by decide +kernel
theorem dNa_divide_57 : decode cNa_divide 57 = .ok (.getfield 9, 3) := by decide +kernel
theorem dNa_divide_60 : decode cNa_divide 60 = .ok (.iload 4, 2) := by decide +kernel
theorem dNa_divide_62 : decode cNa_divide 62 = .ok (.lload 7, 2) := by decide +kernel
theorem dNa_divide_64 : decode cNa_divide 64 = .ok (.l2i, 1) := by decide +kernel
theorem dNa_divide_65 : decode cNa_divide 65 = .ok (.iastore, 1) := by decide +kernel
theorem dNa_divide_66 : decode cNa_divide 66 = .ok (.lload 5, 2) := by decide +kernel
theorem dNa_divide_68 : decode cNa_divide 68 = .ok (.lload 7, 2) := by decide +kernel
theorem dNa_divide_70 : decode cNa_divide 70 = .ok (.iload_n 1, 1) := by decide +kernel
theorem dNa_divide_71 : decode cNa_divide 71 = .ok (.i2l, 1) := by decide +kernel
theorem dNa_divide_72 : decode cNa_divide 72 = .ok (.lmul, 1) := by decide +kernel
theorem dNa_divide_73 : decode cNa_divide 73 = .ok (.lsub, 1) := by decide +kernel
theorem dNa_divide_74 : decode cNa_divide 74 = .ok (.lstore_n 2, 1) := by decide +kernel
theorem dNa_divide_75 : decode cNa_divide 75 = .ok (.iinc 4 (-1), 3) := by decide +kernel
theorem dNa_divide_78 : decode cNa_divide 78 = .ok (.goto (-53), 3) := by decide +kernel
theorem dNa_divide_81 : decode cNa_divide 81 = .ok (.aload_n 0, 1) := by decide +kernel
theorem dNa_divide_82 : decode cNa_divide 82 = .ok (.getfield 17, 3) := by decide +kernel
theorem dNa_divide_85 : decode cNa_divide 85 = .ok (.ifCond .le 29, 3) := by decide +kernel
theorem dNa_divide_88 : decode cNa_divide 88 = .ok (.aload_n 0, 1) := by decide +kernel
theorem dNa_divide_89 : decode cNa_divide 89 = .ok (.aload_n 0, 1) := by decide +kernel
theorem dNa_divide_90 : decode cNa_divide 90 = .ok (.getfield 17, 3) := by decide +kernel
theorem dNa_divide_93 : decode cNa_divide 93 = .ok (.iconst 1, 1) := by decide +kernel
theorem dNa_divide_94 : decode cNa_divide 94 = .ok (.isub, 1) := by decide +kernel
theorem dNa_divide_95 : decode cNa_divide 95 = .ok (.invokevirtual 50, 3) := by decide +kernel
theorem dNa_divide_98 : decode cNa_divide 98 = .ok (.ifCond .ne 16, 3) := by decide +kernel
theorem dNa_divide_101 : decode cNa_divide 101 = .ok (.aload_n 0, 1) := by decide +kernel
theorem dNa_divide_102 : decode cNa_divide 102 = .ok (.dup, 1) := by decide +kernel
theorem dNa_divide_103 : decode cNa_divide 103 = .ok (.getfield 17, 3) := by decide +kernel
theorem dNa_divide_106 : decode cNa_divide 106 = .ok (.iconst 1, 1) := by decide +kernel
theorem dNa_divide_107 : decode cNa_divide 107 = .ok (.isub, 1) := by decide +kernel
theorem dNa_divide_108 : decode cNa_divide 108 = .ok (.putfield 17, 3) := by decide +kernel
theorem dNa_divide_111 : decode cNa_divide 111 = .ok (.goto (-30), 3) := by decide +kernel
theorem dNa_divide_114 : decode cNa_divide 114 = .ok (.lload_n 2, 1) := by decide +kernel
theorem dNa_divide_115 : decode cNa_divide 115 = .ok (.lconst 0, 1) := by decide +kernel
theorem dNa_divide_116 : decode cNa_divide 116 = .ok (.lcmp, 1) := by decide +kernel
theorem dNa_divide_117 : decode cNa_divide 117 = .ok (.ifCond .eq 7, 3) := by decide +kernel
theorem dNa_divide_120 : decode cNa_divide 120 = .ok (.iconst 1, 1) := by decide +kernel
theorem dNa_divide_121 : decode cNa_divide 121 = .ok (.goto 4, 3) := by decide +kernel
theorem dNa_divide_124 : decode cNa_divide 124 = .ok (.iconst 0, 1) := by decide +kernel
theorem dNa_divide_125 : decode cNa_divide 125 = .ok (.ireturn, 1) := by decide +kernel
