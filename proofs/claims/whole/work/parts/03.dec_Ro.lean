theorem dRo_init_0 : decode cRo_init 0 = .ok (.aload_n 0, 1) := by decide +kernel
theorem dRo_init_1 : decode cRo_init 1 = .ok (.invokespecial 1, 3) := by decide +kernel
theorem dRo_init_4 : decode cRo_init 4 = .ok (.return_, 1) := by decide +kernel
theorem dRo_round_0 : decode cRo_round 0 = .ok (.aload_n 0, 1) := by decide +kernel
theorem dRo_round_1 : decode cRo_round 1 = .ok (.aload_n 2, 1) := by decide +kernel
theorem dRo_round_2 : decode cRo_round 2 = .ok (.getfield 7, 3) := by decide +kernel
theorem dRo_round_5 : decode cRo_round 5 = .ok (.aload_n 1, 1) := by decide +kernel
theorem dRo_round_6 : decode cRo_round 6 = .ok (.getfield 13, 3) := by decide +kernel
theorem dRo_round_9 : decode cRo_round 9 = .ok (.bipush 63, 2) := by decide +kernel
theorem dRo_round_11 : decode cRo_round 11 = .ok (.iadd, 1) := by decide +kernel
theorem dRo_round_12 : decode cRo_round 12 = .ok (.aload_n 2, 1) := by decide +kernel
theorem dRo_round_13 : decode cRo_round 13 = .ok (.getfield 20, 3) := by decide +kernel
theorem dRo_round_16 : decode cRo_round 16 = .ok (.isub, 1) := by decide +kernel
theorem dRo_round_17 : decode cRo_round 17 = .ok (.invokestatic 23, 3) := by decide +kernel
theorem dRo_round_20 : decode cRo_round 20 = .ok (.putfield 29, 3) := by decide +kernel
theorem dRo_round_23 : decode cRo_round 23 = .ok (.aload_n 0, 1) := by decide +kernel
theorem dRo_round_24 : decode cRo_round 24 = .ok (.iconst 0, 1) := by decide +kernel
theorem dRo_round_25 : decode cRo_round 25 = .ok (.putfield 32, 3) := by decide +kernel
theorem dRo_round_28 : decode cRo_round 28 = .ok (.aload_n 0, 1) := by decide +kernel
theorem dRo_round_29 : decode cRo_round 29 = .ok (.getfield 29, 3) := by decide +kernel
theorem dRo_round_32 : decode cRo_round 32 = .ok (.aload_n 1, 1) := by decide +kernel
theorem dRo_round_33 : decode cRo_round 33 = .ok (.getfield 13, 3) := by decide +kernel
theorem dRo_round_36 : decode cRo_round 36 = .ok (.isub, 1) := by decide +kernel
theorem dRo_round_37 : decode cRo_round 37 = .ok (.istore_n 3, 1) := by decide +kernel
theorem dRo_round_38 : decode cRo_round 38 = .ok (.aload_n 1, 1) := by decide +kernel
theorem dRo_round_39 : decode cRo_round 39 = .ok (.getfield 36, 3) := by decide +kernel
theorem dRo_round_42 : decode cRo_round 42 = .ok (.lconst 0, 1) := by decide +kernel
theorem dRo_round_43 : decode cRo_round 43 = .ok (.lcmp, 1) := by decide +kernel
theorem dRo_round_44 : decode cRo_round 44 = .ok (.ifCond .ne 12, 3) := by decide +kernel
theorem dRo_round_47 : decode cRo_round 47 = .ok (.aload_n 0, 1) := by decide +kernel
theorem dRo_round_48 : decode cRo_round 48 = .ok (.lconst 0, 1) := by decide +kernel
theorem dRo_round_49 : decode cRo_round 49 = .ok (.iconst 0, 1) := by decide +kernel
theorem dRo_round_50 : decode cRo_round 50 = .ok (.invokevirtual 40, 3) := by decide +kernel
theorem dRo_round_53 : decode cRo_round 53 = .ok (.goto 29, 3) := by decide +kernel
theorem dRo_round_56 : decode cRo_round 56 = .ok (.iload_n 3, 1) := by decide +kernel
theorem dRo_round_57 : decode cRo_round 57 = .ok (.bipush 63, 2) := by decide +kernel
theorem dRo_round_59 : decode cRo_round 59 = .ok (.if_icmp .le 12, 3) := by decide +kernel
theorem dRo_round_62 : decode cRo_round 62 = .ok (.aload_n 0, 1) := by decide +kernel
theorem dRo_round_63 : decode cRo_round 63 = .ok (.lconst 0, 1) := by decide +kernel
theorem dRo_round_64 : decode cRo_round 64 = .ok (.iconst (-1), 1) := by decide +kernel
theorem dRo_round_65 : decode cRo_round 65 = .ok (.invokevirtual 40, 3) := by decide +kernel
theorem dRo_round_68 : decode cRo_round 68 = .ok (.goto 14, 3) := by decide +kernel
theorem dRo_round_71 : decode cRo_round 71 = .ok (.aload_n 0, 1) := by decide +kernel
theorem dRo_round_72 : decode cRo_round 72 = .ok (.aload_n 1, 1) := by decide +kernel
theorem dRo_round_73 : decode cRo_round 73 = .ok (.iload_n 3, 1) := by decide +kernel
theorem dRo_round_74 : decode cRo_round 74 = .ok (.invokevirtual 44, 3) := by decide +kernel
theorem dRo_round_77 : decode cRo_round 77 = .ok (.aload_n 0, 1) := by decide +kernel
theorem dRo_round_78 : decode cRo_round 78 = .ok (.aload_n 2, 1) := by decide +kernel
theorem dRo_round_79 : decode cRo_round 79 = .ok (.invokevirtual 48, 3) := by decide +kernel
theorem dRo_round_82 : decode cRo_round 82 = .ok (.return_, 1) := by decide +kernel
theorem dRo_setWhole_0 : decode cRo_setWhole 0 = .ok (.aload_n 0, 1) := by decide +kernel
theorem dRo_setWhole_1 : decode cRo_setWhole 1 = .ok (.lload_n 1, 1) := by decide +kernel
theorem dRo_setWhole_2 : decode cRo_setWhole 2 = .ok (.putfield 52, 3) := by decide +kernel
theorem dRo_setWhole_5 : decode cRo_setWhole 5 = .ok (.aload_n 0, 1) := by decide +kernel
theorem dRo_setWhole_6 : decode cRo_setWhole 6 = .ok (.iload_n 3, 1) := by decide +kernel
theorem dRo_setWhole_7 : decode cRo_setWhole 7 = .ok (.putfield 55, 3) := by decide +kernel
theorem dRo_setWhole_10 : decode cRo_setWhole 10 = .ok (.return_, 1) := by decide +kernel
theorem dRo_roundLead_0 : decode cRo_roundLead 0 = .ok (.aload_n 1, 1) := by decide +kernel
theorem dRo_roundLead_1 : decode cRo_roundLead 1 = .ok (.getfield 36, 3) := by decide +kernel
theorem dRo_roundLead_4 : decode cRo_roundLead 4 = .ok (.iload_n 2, 1) := by decide +kernel
theorem dRo_roundLead_5 : decode cRo_roundLead 5 = .ok (.lushr, 1) := by decide +kernel
theorem dRo_roundLead_6 : decode cRo_roundLead 6 = .ok (.lstore_n 3, 1) := by decide +kernel
theorem dRo_roundLead_7 : decode cRo_roundLead 7 = .ok (.aload_n 1, 1) := by decide +kernel
theorem dRo_roundLead_8 : decode cRo_roundLead 8 = .ok (.getfield 36, 3) := by decide +kernel
theorem dRo_roundLead_11 : decode cRo_roundLead 11 = .ok (.lconst 1, 1) := by decide +kernel
theorem dRo_roundLead_12 : decode cRo_roundLead 12 = .ok (.iload_n 2, 1) := by decide +kernel
theorem dRo_roundLead_13 : decode cRo_roundLead 13 = .ok (.lshl, 1) := by decide +kernel
theorem dRo_roundLead_14 : decode cRo_roundLead 14 = .ok (.lconst 1, 1) := by decide +kernel
theorem dRo_roundLead_15 : decode cRo_roundLead 15 = .ok (.lsub, 1) := by decide +kernel
theorem dRo_roundLead_16 : decode cRo_roundLead 16 = .ok (.land, 1) := by decide +kernel
theorem dRo_roundLead_17 : decode cRo_roundLead 17 = .ok (.lstore 5, 2) := by decide +kernel
theorem dRo_roundLead_19 : decode cRo_roundLead 19 = .ok (.lconst 1, 1) := by decide +kernel
theorem dRo_roundLead_20 : decode cRo_roundLead 20 = .ok (.iload_n 2, 1) := by decide +kernel
theorem dRo_roundLead_21 : decode cRo_roundLead 21 = .ok (.iconst 1, 1) := by decide +kernel
theorem dRo_roundLead_22 : decode cRo_roundLead 22 = .ok (.isub, 1) := by decide +kernel
theorem dRo_roundLead_23 : decode cRo_roundLead 23 = .ok (.lshl, 1) := by decide +kernel
theorem dRo_roundLead_24 : decode cRo_roundLead 24 = .ok (.lstore 7, 2) := by decide +kernel
theorem dRo_roundLead_26 : decode cRo_roundLead 26 = .ok (.lload 5, 2) := by decide +kernel
theorem dRo_roundLead_28 : decode cRo_roundLead 28 = .ok (.lload 7, 2) := by decide +kernel
theorem dRo_roundLead_30 : decode cRo_roundLead 30 = .ok (.lcmp, 1) := by decide +kernel
theorem dRo_roundLead_31 : decode cRo_roundLead 31 = .ok (.ifCond .gt 18, 3) := by decide +kernel
theorem dRo_roundLead_34 : decode cRo_roundLead 34 = .ok (.lload 5, 2) := by decide +kernel
theorem dRo_roundLead_36 : decode cRo_roundLead 36 = .ok (.lload 7, 2) := by decide +kernel
theorem dRo_roundLead_38 : decode cRo_roundLead 38 = .ok (.lcmp, 1) := by decide +kernel
theorem dRo_roundLead_39 : decode cRo_roundLead 39 = .ok (.ifCond .ne 14, 3) := by decide +kernel
theorem dRo_roundLead_42 : decode cRo_roundLead 42 = .ok (.aload_n 1, 1) := by decide +kernel
theorem dRo_roundLead_43 : decode cRo_roundLead 43 = .ok (.getfield 58, 3) := by decide +kernel
theorem dRo_roundLead_46 : decode cRo_roundLead 46 = .ok (.ifCond .eq 7, 3) := by decide +kernel
theorem dRo_roundLead_49 : decode cRo_roundLead 49 = .ok (.iconst 1, 1) := by decide +kernel
theorem dRo_roundLead_50 : decode cRo_roundLead 50 = .ok (.goto 4, 3) := by decide +kernel
theorem dRo_roundLead_53 : decode cRo_roundLead 53 = .ok (.iconst 0, 1) := by decide +kernel
theorem dRo_roundLead_54 : decode cRo_roundLead 54 = .ok (.istore 9, 2) := by decide +kernel
theorem dRo_roundLead_56 : decode cRo_roundLead 56 = .ok (.lload 5, 2) := by decide +kernel
theorem dRo_roundLead_58 : decode cRo_roundLead 58 = .ok (.lload 7, 2) := by decide +kernel
theorem dRo_roundLead_60 : decode cRo_roundLead 60 = .ok (.lcmp, 1) := by decide +kernel
theorem dRo_roundLead_61 : decode cRo_roundLead 61 = .ok (.ifCond .ne 15, 3) := by decide +kernel
theorem dRo_roundLead_64 : decode cRo_roundLead 64 = .ok (.lload_n 3, 1) := by decide +kernel
theorem dRo_roundLead_65 : decode cRo_roundLead 65 = .ok (.lconst 1, 1) := by decide +kernel
theorem dRo_roundLead_66 : decode cRo_roundLead 66 = .ok (.land, 1) := by decide +kernel
theorem dRo_roundLead_67 : decode cRo_roundLead 67 = .ok (.lconst 1, 1) := by decide +kernel
theorem dRo_roundLead_68 : decode cRo_roundLead 68 = .ok (.lcmp, 1) := by decide +kernel
theorem dRo_roundLead_69 : decode cRo_roundLead 69 = .ok (.ifCond .ne 7, 3) := by decide +kernel
theorem dRo_roundLead_72 : decode cRo_roundLead 72 = .ok (.iconst 1, 1) := by decide +kernel
theorem dRo_roundLead_73 : decode cRo_roundLead 73 = .ok (.goto 4, 3) := by decide +kernel
theorem dRo_roundLead_76 : decode cRo_roundLead 76 = .ok (.iconst 0, 1) := by decide +kernel
theorem dRo_roundLead_77 : decode cRo_roundLead 77 = .ok (.istore 10, 2) := by decide +kernel
theorem dRo_roundLead_79 : decode cRo_roundLead 79 = .ok (.iload 9, 2) := by decide +kernel
theorem dRo_roundLead_81 : decode cRo_roundLead 81 = .ok (.ifCond .ne 8, 3) := by decide +kernel
theorem dRo_roundLead_84 : decode cRo_roundLead 84 = .ok (.iload 10, 2) := by decide +kernel
theorem dRo_roundLead_86 : decode cRo_roundLead 86 = .ok (.ifCond .eq 14, 3) := by decide +kernel
theorem dRo_roundLead_89 : decode cRo_roundLead 89 = .ok (.aload_n 0, 1) := by decide +kernel
theorem dRo_roundLead_90 : decode cRo_roundLead 90 = .ok (.lload_n 3, 1) := by decide +kernel
theorem dRo_roundLead_91 : decode cRo_roundLead 91 = .ok (.lconst 1, 1) := by decide +kernel
theorem dRo_roundLead_92 : decode cRo_roundLead 92 = .ok (.ladd, 1) := by decide +kernel
theorem dRo_roundLead_93 : decode cRo_roundLead 93 = .ok (.iconst 1, 1) := by decide +kernel
theorem dRo_roundLead_94 : decode cRo_roundLead 94 = .ok (.invokevirtual 40, 3) := by decide +kernel
theorem dRo_roundLead_97 : decode cRo_roundLead 97 = .ok (.goto 27, 3) := by decide +kernel
theorem dRo_roundLead_100 : decode cRo_roundLead 100 = .ok (.aload_n 0, 1) := by decide +kernel
theorem dRo_roundLead_101 : decode cRo_roundLead 101 = .ok (.lload_n 3, 1) := by decide +kernel
theorem dRo_roundLead_102 : decode cRo_roundLead 102 = .ok (.lload 5, 2) := by decide +kernel
theorem dRo_roundLead_104 : decode cRo_roundLead 104 = .ok (.lconst 0, 1) := by decide +kernel
theorem dRo_roundLead_105 : decode cRo_roundLead 105 = .ok (.lcmp, 1) := by decide +kernel
theorem dRo_roundLead_106 : decode cRo_roundLead 106 = .ok (.ifCond .ne 14, 3) := by decide +kernel
theorem dRo_roundLead_109 : decode cRo_roundLead 109 = .ok (.aload_n 1, 1) := by decide +kernel
theorem dRo_roundLead_110 : decode cRo_roundLead 110 = .ok (.getfield 58, 3) := by decide +kernel
theorem dRo_roundLead_113 : decode cRo_roundLead 113 = .ok (.ifCond .ne 7, 3) := by decide +kernel
theorem dRo_roundLead_116 : decode cRo_roundLead 116 = .ok (.iconst 0, 1) := by decide +kernel
theorem dRo_roundLead_117 : decode cRo_roundLead 117 = .ok (.goto 4, 3) := by decide +kernel
theorem dRo_roundLead_120 : decode cRo_roundLead 120 = .ok (.iconst (-1), 1) := by decide +kernel
theorem dRo_roundLead_121 : decode cRo_roundLead 121 = .ok (.invokevirtual 40, 3) := by decide +kernel
theorem dRo_roundLead_124 : decode cRo_roundLead 124 = .ok (.return_, 1) := by decide +kernel
theorem dRo_carry_0 : decode cRo_carry 0 = .ok (.aload_n 0, 1) := by decide +kernel
theorem dRo_carry_1 : decode cRo_carry 1 = .ok (.getfield 52, 3) := by decide +kernel
theorem dRo_carry_4 : decode cRo_carry 4 = .ok (.ldc2_w 61, 3) := by decide +kernel
theorem dRo_carry_7 : decode cRo_carry 7 = .ok (.aload_n 1, 1) := by decide +kernel
theorem dRo_carry_8 : decode cRo_carry 8 = .ok (.invokevirtual 63, 3) := by decide +kernel
theorem dRo_carry_11 : decode cRo_carry 11 = .ok (.lmul, 1) := by decide +kernel
theorem dRo_carry_12 : decode cRo_carry 12 = .ok (.lcmp, 1) := by decide +kernel
theorem dRo_carry_13 : decode cRo_carry 13 = .ok (.ifCond .lt 23, 3) := by decide +kernel
theorem dRo_carry_16 : decode cRo_carry 16 = .ok (.aload_n 0, 1) := by decide +kernel
theorem dRo_carry_17 : decode cRo_carry 17 = .ok (.dup, 1) := by decide +kernel
theorem dRo_carry_18 : decode cRo_carry 18 = .ok (.getfield 52, 3) := by decide +kernel
theorem dRo_carry_21 : decode cRo_carry 21 = .ok (.iconst 1, 1) := by decide +kernel
theorem dRo_carry_22 : decode cRo_carry 22 = .ok (.lushr, 1) := by decide +kernel
theorem dRo_carry_23 : decode cRo_carry 23 = .ok (.putfield 52, 3) := by decide +kernel
theorem dRo_carry_26 : decode cRo_carry 26 = .ok (.aload_n 0, 1) := by decide +kernel
theorem dRo_carry_27 : decode cRo_carry 27 = .ok (.dup, 1) := by decide +kernel
theorem dRo_carry_28 : decode cRo_carry 28 = .ok (.getfield 29, 3) := by decide +kernel
theorem dRo_carry_31 : decode cRo_carry 31 = .ok (.iconst 1, 1) := by decide +kernel
theorem dRo_carry_32 : decode cRo_carry 32 = .ok (.iadd, 1) := by decide +kernel
theorem dRo_carry_33 : decode cRo_carry 33 = .ok (.putfield 29, 3) := by decide +kernel
theorem dRo_carry_36 : decode cRo_carry 36 = .ok (.aload_n 0, 1) := by decide +kernel
theorem dRo_carry_37 : decode cRo_carry 37 = .ok (.getfield 29, 3) := by decide +kernel
theorem dRo_carry_40 : decode cRo_carry 40 = .ok (.aload_n 1, 1) := by decide +kernel
theorem dRo_carry_41 : decode cRo_carry 41 = .ok (.aload_n 1, 1) := by decide +kernel
theorem dRo_carry_42 : decode cRo_carry 42 = .ok (.invokevirtual 67, 3) := by decide +kernel
theorem dRo_carry_45 : decode cRo_carry 45 = .ok (.iconst 1, 1) := by decide +kernel
theorem dRo_carry_46 : decode cRo_carry 46 = .ok (.isub, 1) := by decide +kernel
theorem dRo_carry_47 : decode cRo_carry 47 = .ok (.invokevirtual 71, 3) := by decide +kernel
theorem dRo_carry_50 : decode cRo_carry 50 = .ok (.if_icmp .le 13, 3) := by decide +kernel
theorem dRo_carry_53 : decode cRo_carry 53 = .ok (.aload_n 0, 1) := by decide +kernel
theorem dRo_carry_54 : decode cRo_carry 54 = .ok (.iconst 1, 1) := by decide +kernel
theorem dRo_carry_55 : decode cRo_carry 55 = .ok (.putfield 32, 3) := by decide +kernel
theorem dRo_carry_58 : decode cRo_carry 58 = .ok (.aload_n 0, 1) := by decide +kernel
theorem dRo_carry_59 : decode cRo_carry 59 = .ok (.iconst 1, 1) := by decide +kernel
theorem dRo_carry_60 : decode cRo_carry 60 = .ok (.putfield 55, 3) := by decide +kernel
theorem dRo_carry_63 : decode cRo_carry 63 = .ok (.return_, 1) := by decide +kernel
theorem dRo_bitsOfSize_0 : decode cRo_bitsOfSize 0 = .ok (.aload_n 0, 1) := by decide +kernel
theorem dRo_bitsOfSize_1 : decode cRo_bitsOfSize 1 = .ok (.getfield 32, 3) := by decide +kernel
theorem dRo_bitsOfSize_4 : decode cRo_bitsOfSize 4 = .ok (.ifCond .eq 13, 3) := by decide +kernel
theorem dRo_bitsOfSize_7 : decode cRo_bitsOfSize 7 = .ok (.aload_n 1, 1) := by decide +kernel
theorem dRo_bitsOfSize_8 : decode cRo_bitsOfSize 8 = .ok (.aload_n 1, 1) := by decide +kernel
theorem dRo_bitsOfSize_9 : decode cRo_bitsOfSize 9 = .ok (.invokevirtual 67, 3) := by decide +kernel
theorem dRo_bitsOfSize_12 : decode cRo_bitsOfSize 12 = .ok (.lconst 0, 1) := by decide +kernel
theorem dRo_bitsOfSize_13 : decode cRo_bitsOfSize 13 = .ok (.invokevirtual 75, 3) := by decide +kernel
theorem dRo_bitsOfSize_16 : decode cRo_bitsOfSize 16 = .ok (.lreturn, 1) := by decide +kernel
theorem dRo_bitsOfSize_17 : decode cRo_bitsOfSize 17 = .ok (.aload_n 0, 1) := by decide +kernel
theorem dRo_bitsOfSize_18 : decode cRo_bitsOfSize 18 = .ok (.getfield 52, 3) := by decide +kernel
theorem dRo_bitsOfSize_21 : decode cRo_bitsOfSize 21 = .ok (.aload_n 1, 1) := by decide +kernel
theorem dRo_bitsOfSize_22 : decode cRo_bitsOfSize 22 = .ok (.invokevirtual 63, 3) := by decide +kernel
theorem dRo_bitsOfSize_25 : decode cRo_bitsOfSize 25 = .ok (.lcmp, 1) := by decide +kernel
theorem dRo_bitsOfSize_26 : decode cRo_bitsOfSize 26 = .ok (.ifCond .ge 7, 3) := by decide +kernel
theorem dRo_bitsOfSize_29 : decode cRo_bitsOfSize 29 = .ok (.iconst 0, 1) := by decide +kernel
theorem dRo_bitsOfSize_30 : decode cRo_bitsOfSize 30 = .ok (.goto 14, 3) := by decide +kernel
theorem dRo_bitsOfSize_33 : decode cRo_bitsOfSize 33 = .ok (.aload_n 0, 1) := by decide +kernel
theorem dRo_bitsOfSize_34 : decode cRo_bitsOfSize 34 = .ok (.getfield 29, 3) := by decide +kernel
theorem dRo_bitsOfSize_37 : decode cRo_bitsOfSize 37 = .ok (.aload_n 1, 1) := by decide +kernel
theorem dRo_bitsOfSize_38 : decode cRo_bitsOfSize 38 = .ok (.getfield 7, 3) := by decide +kernel
theorem dRo_bitsOfSize_41 : decode cRo_bitsOfSize 41 = .ok (.isub, 1) := by decide +kernel
theorem dRo_bitsOfSize_42 : decode cRo_bitsOfSize 42 = .ok (.iconst 1, 1) := by decide +kernel
theorem dRo_bitsOfSize_43 : decode cRo_bitsOfSize 43 = .ok (.iadd, 1) := by decide +kernel
theorem dRo_bitsOfSize_44 : decode cRo_bitsOfSize 44 = .ok (.istore_n 2, 1) := by decide +kernel
theorem dRo_bitsOfSize_45 : decode cRo_bitsOfSize 45 = .ok (.aload_n 1, 1) := by decide +kernel
theorem dRo_bitsOfSize_46 : decode cRo_bitsOfSize 46 = .ok (.iload_n 2, 1) := by decide +kernel
theorem dRo_bitsOfSize_47 : decode cRo_bitsOfSize 47 = .ok (.aload_n 0, 1) := by decide +kernel
theorem dRo_bitsOfSize_48 : decode cRo_bitsOfSize 48 = .ok (.getfield 52, 3) := by decide +kernel
theorem dRo_bitsOfSize_51 : decode cRo_bitsOfSize 51 = .ok (.invokevirtual 75, 3) := by decide +kernel
theorem dRo_bitsOfSize_54 : decode cRo_bitsOfSize 54 = .ok (.lreturn, 1) := by decide +kernel
