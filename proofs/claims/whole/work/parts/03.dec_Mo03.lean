theorem dMo_bitAt_29 : decode cMo_bitAt 29 = .ok (.ldiv, 1) := by decide +kernel
theorem dMo_bitAt_30 : decode cMo_bitAt 30 = .ok (.lneg, 1) := by decide +kernel
theorem dMo_bitAt_31 : decode cMo_bitAt 31 = .ok (.lstore 5, 2) := by decide +kernel
theorem dMo_bitAt_33 : decode cMo_bitAt 33 = .ok (.aload_n 0, 1) := by decide +kernel
theorem dMo_bitAt_34 : decode cMo_bitAt 34 = .ok (.getfield 42, 3) := by decide +kernel
theorem dMo_bitAt_37 : decode cMo_bitAt 37 = .ok (.i2l, 1) := by decide +kernel
theorem dMo_bitAt_38 : decode cMo_bitAt 38 = .ok (.lconst 1, 1) := by decide +kernel
theorem dMo_bitAt_39 : decode cMo_bitAt 39 = .ok (.lsub, 1) := by decide +kernel
theorem dMo_bitAt_40 : decode cMo_bitAt 40 = .ok (.lload 5, 2) := by decide +kernel
theorem dMo_bitAt_42 : decode cMo_bitAt 42 = .ok (.lsub, 1) := by decide +kernel
theorem dMo_bitAt_43 : decode cMo_bitAt 43 = .ok (.lstore 7, 2) := by decide +kernel
theorem dMo_bitAt_45 : decode cMo_bitAt 45 = .ok (.lload 7, 2) := by decide +kernel
theorem dMo_bitAt_47 : decode cMo_bitAt 47 = .ok (.lconst 0, 1) := by decide +kernel
theorem dMo_bitAt_48 : decode cMo_bitAt 48 = .ok (.lcmp, 1) := by decide +kernel
theorem dMo_bitAt_49 : decode cMo_bitAt 49 = .ok (.ifCond .lt 14, 3) := by decide +kernel
theorem dMo_bitAt_52 : decode cMo_bitAt 52 = .ok (.lload 7, 2) := by decide +kernel
theorem dMo_bitAt_54 : decode cMo_bitAt 54 = .ok (.aload_n 0, 1) := by decide +kernel
theorem dMo_bitAt_55 : decode cMo_bitAt 55 = .ok (.getfield 39, 3) := by decide +kernel
theorem dMo_bitAt_58 : decode cMo_bitAt 58 = .ok (.i2l, 1) := by decide +kernel
theorem dMo_bitAt_59 : decode cMo_bitAt 59 = .ok (.lcmp, 1) := by decide +kernel
theorem dMo_bitAt_60 : decode cMo_bitAt 60 = .ok (.ifCond .lt 7, 3) := by decide +kernel
theorem dMo_bitAt_63 : decode cMo_bitAt 63 = .ok (.iconst 0, 1) := by decide +kernel
theorem dMo_bitAt_64 : decode cMo_bitAt 64 = .ok (.goto 23, 3) := by decide +kernel
theorem dMo_bitAt_67 : decode cMo_bitAt 67 = .ok (.aload_n 0, 1) := by decide +kernel
theorem dMo_bitAt_68 : decode cMo_bitAt 68 = .ok (.getfield 13, 3) := by decide +kernel
theorem dMo_bitAt_71 : decode cMo_bitAt 71 = .ok (.lload 7, 2) := by decide +kernel
theorem dMo_bitAt_73 : decode cMo_bitAt 73 = .ok (.l2i, 1) := by decide +kernel
theorem dMo_bitAt_74 : decode cMo_bitAt 74 = .ok (.iaload, 1) := by decide +kernel
theorem dMo_bitAt_75 : decode cMo_bitAt 75 = .ok (.lload_n 3, 1) := by decide +kernel
theorem dMo_bitAt_76 : decode cMo_bitAt 76 = .ok (.ldc2_w 137, 3) := by decide +kernel
theorem dMo_bitAt_79 : decode cMo_bitAt 79 = .ok (.lload 5, 2) := by decide +kernel
theorem dMo_bitAt_81 : decode cMo_bitAt 81 = .ok (.lmul, 1) := by decide +kernel
theorem dMo_bitAt_82 : decode cMo_bitAt 82 = .ok (.lsub, 1) := by decide +kernel
theorem dMo_bitAt_83 : decode cMo_bitAt 83 = .ok (.l2i, 1) := by decide +kernel
theorem dMo_bitAt_84 : decode cMo_bitAt 84 = .ok (.ishr, 1) := by decide +kernel
theorem dMo_bitAt_85 : decode cMo_bitAt 85 = .ok (.iconst 1, 1) := by decide +kernel
theorem dMo_bitAt_86 : decode cMo_bitAt 86 = .ok (.iand, 1) := by decide +kernel
theorem dMo_bitAt_87 : decode cMo_bitAt 87 = .ok (.ireturn, 1) := by decide +kernel
theorem dMo_goesUp_0 : decode cMo_goesUp 0 = .ok (.aload_n 0, 1) := by decide +kernel
theorem dMo_goesUp_1 : decode cMo_goesUp 1 = .ok (.getfield 120, 3) := by decide +kernel
theorem dMo_goesUp_4 : decode cMo_goesUp 4 = .ok (.iconst 3, 1) := by decide +kernel
theorem dMo_goesUp_5 : decode cMo_goesUp 5 = .ok (.if_icmp .eq 24, 3) := by decide +kernel
theorem dMo_goesUp_8 : decode cMo_goesUp 8 = .ok (.aload_n 0, 1) := by decide +kernel
theorem dMo_goesUp_9 : decode cMo_goesUp 9 = .ok (.getfield 120, 3) := by decide +kernel
theorem dMo_goesUp_12 : decode cMo_goesUp 12 = .ok (.iconst 2, 1) := by decide +kernel
theorem dMo_goesUp_13 : decode cMo_goesUp 13 = .ok (.if_icmp .ne 20, 3) := by decide +kernel
theorem dMo_goesUp_16 : decode cMo_goesUp 16 = .ok (.aload_n 0, 1) := by decide +kernel
theorem dMo_goesUp_17 : decode cMo_goesUp 17 = .ok (.getfield 114, 3) := by decide +kernel
theorem dMo_goesUp_20 : decode cMo_goesUp 20 = .ok (.ldc2_w 147, 3) := by decide +kernel
theorem dMo_goesUp_23 : decode cMo_goesUp 23 = .ok (.lrem, 1) := by decide +kernel
theorem dMo_goesUp_24 : decode cMo_goesUp 24 = .ok (.lconst 1, 1) := by decide +kernel
theorem dMo_goesUp_25 : decode cMo_goesUp 25 = .ok (.lcmp, 1) := by decide +kernel
theorem dMo_goesUp_26 : decode cMo_goesUp 26 = .ok (.ifCond .ne 7, 3) := by decide +kernel
theorem dMo_goesUp_29 : decode cMo_goesUp 29 = .ok (.iconst 1, 1) := by decide +kernel
theorem dMo_goesUp_30 : decode cMo_goesUp 30 = .ok (.goto 4, 3) := by decide +kernel
theorem dMo_goesUp_33 : decode cMo_goesUp 33 = .ok (.iconst 0, 1) := by decide +kernel
theorem dMo_goesUp_34 : decode cMo_goesUp 34 = .ok (.ireturn, 1) := by decide +kernel
theorem dMo_pack_0 : decode cMo_pack 0 = .ok (.iload_n 3, 1) := by decide +kernel
theorem dMo_pack_1 : decode cMo_pack 1 = .ok (.bipush 53, 2) := by decide +kernel
theorem dMo_pack_3 : decode cMo_pack 3 = .ok (.if_icmp .ne 9, 3) := by decide +kernel
theorem dMo_pack_6 : decode cMo_pack 6 = .ok (.ldc2_w 160, 3) := by decide +kernel
theorem dMo_pack_9 : decode cMo_pack 9 = .ok (.goto 6, 3) := by decide +kernel
theorem dMo_pack_12 : decode cMo_pack 12 = .ok (.ldc2_w 23, 3) := by decide +kernel
theorem dMo_pack_15 : decode cMo_pack 15 = .ok (.iload_n 3, 1) := by decide +kernel
theorem dMo_pack_16 : decode cMo_pack 16 = .ok (.iconst 1, 1) := by decide +kernel
theorem dMo_pack_17 : decode cMo_pack 17 = .ok (.isub, 1) := by decide +kernel
theorem dMo_pack_18 : decode cMo_pack 18 = .ok (.lshl, 1) := by decide +kernel
theorem dMo_pack_19 : decode cMo_pack 19 = .ok (.lstore 5, 2) := by decide +kernel
theorem dMo_pack_21 : decode cMo_pack 21 = .ok (.lload_n 1, 1) := by decide +kernel
theorem dMo_pack_22 : decode cMo_pack 22 = .ok (.lconst 1, 1) := by decide +kernel
theorem dMo_pack_23 : decode cMo_pack 23 = .ok (.iload_n 3, 1) := by decide +kernel
theorem dMo_pack_24 : decode cMo_pack 24 = .ok (.iconst 1, 1) := by decide +kernel
theorem dMo_pack_25 : decode cMo_pack 25 = .ok (.isub, 1) := by decide +kernel
theorem dMo_pack_26 : decode cMo_pack 26 = .ok (.lshl, 1) := by decide +kernel
theorem dMo_pack_27 : decode cMo_pack 27 = .ok (.lcmp, 1) := by decide +kernel
theorem dMo_pack_28 : decode cMo_pack 28 = .ok (.ifCond .ge 5, 3) := by decide +kernel
theorem dMo_pack_31 : decode cMo_pack 31 = .ok (.lload_n 1, 1) := by decide +kernel
theorem dMo_pack_32 : decode cMo_pack 32 = .ok (.lreturn, 1) := by decide +kernel
theorem dMo_pack_33 : decode cMo_pack 33 = .ok (.aload_n 0, 1) := by decide +kernel
theorem dMo_pack_34 : decode cMo_pack 34 = .ok (.getfield 117, 3) := by decide +kernel
theorem dMo_pack_37 : decode cMo_pack 37 = .ok (.iload 4, 2) := by decide +kernel
theorem dMo_pack_39 : decode cMo_pack 39 = .ok (.i2l, 1) := by decide +kernel
theorem dMo_pack_40 : decode cMo_pack 40 = .ok (.lsub, 1) := by decide +kernel
theorem dMo_pack_41 : decode cMo_pack 41 = .ok (.lconst 1, 1) := by decide +kernel
theorem dMo_pack_42 : decode cMo_pack 42 = .ok (.ladd, 1) := by decide +kernel
theorem dMo_pack_43 : decode cMo_pack 43 = .ok (.lstore 7, 2) := by decide +kernel
theorem dMo_pack_45 : decode cMo_pack 45 = .ok (.aload_n 0, 1) := by decide +kernel
theorem dMo_pack_46 : decode cMo_pack 46 = .ok (.getfield 109, 3) := by decide +kernel
theorem dMo_pack_49 : decode cMo_pack 49 = .ok (.ifCond .ne 12, 3) := by decide +kernel
theorem dMo_pack_52 : decode cMo_pack 52 = .ok (.lload 7, 2) := by decide +kernel
theorem dMo_pack_54 : decode cMo_pack 54 = .ok (.ldc2_w 160, 3) := by decide +kernel
theorem dMo_pack_57 : decode cMo_pack 57 = .ok (.lcmp, 1) := by decide +kernel
theorem dMo_pack_58 : decode cMo_pack 58 = .ok (.ifCond .le 6, 3) := by decide +kernel
theorem dMo_pack_61 : decode cMo_pack 61 = .ok (.lload 5, 2) := by decide +kernel
theorem dMo_pack_63 : decode cMo_pack 63 = .ok (.lreturn, 1) := by decide +kernel
theorem dMo_pack_64 : decode cMo_pack 64 = .ok (.lload 7, 2) := by decide +kernel
theorem dMo_pack_66 : decode cMo_pack 66 = .ok (.iload_n 3, 1) := by decide +kernel
theorem dMo_pack_67 : decode cMo_pack 67 = .ok (.iconst 1, 1) := by decide +kernel
theorem dMo_pack_68 : decode cMo_pack 68 = .ok (.isub, 1) := by decide +kernel
theorem dMo_pack_69 : decode cMo_pack 69 = .ok (.lshl, 1) := by decide +kernel
theorem dMo_pack_70 : decode cMo_pack 70 = .ok (.lload_n 1, 1) := by decide +kernel
theorem dMo_pack_71 : decode cMo_pack 71 = .ok (.lconst 1, 1) := by decide +kernel
theorem dMo_pack_72 : decode cMo_pack 72 = .ok (.iload_n 3, 1) := by decide +kernel
theorem dMo_pack_73 : decode cMo_pack 73 = .ok (.iconst 1, 1) := by decide +kernel
theorem dMo_pack_74 : decode cMo_pack 74 = .ok (.isub, 1) := by decide +kernel
theorem dMo_pack_75 : decode cMo_pack 75 = .ok (.lshl, 1) := by decide +kernel
theorem dMo_pack_76 : decode cMo_pack 76 = .ok (.lsub, 1) := by decide +kernel
theorem dMo_pack_77 : decode cMo_pack 77 = .ok (.ladd, 1) := by decide +kernel
theorem dMo_pack_78 : decode cMo_pack 78 = .ok (.lstore 9, 2) := by decide +kernel
theorem dMo_pack_80 : decode cMo_pack 80 = .ok (.lload 9, 2) := by decide +kernel
theorem dMo_pack_82 : decode cMo_pack 82 = .ok (.lconst 0, 1) := by decide +kernel
theorem dMo_pack_83 : decode cMo_pack 83 = .ok (.lcmp, 1) := by decide +kernel
theorem dMo_pack_84 : decode cMo_pack 84 = .ok (.ifCond .lt 11, 3) := by decide +kernel
theorem dMo_pack_87 : decode cMo_pack 87 = .ok (.lload 9, 2) := by decide +kernel
theorem dMo_pack_89 : decode cMo_pack 89 = .ok (.lload 5, 2) := by decide +kernel
theorem dMo_pack_91 : decode cMo_pack 91 = .ok (.lcmp, 1) := by decide +kernel
theorem dMo_pack_92 : decode cMo_pack 92 = .ok (.ifCond .le 8, 3) := by decide +kernel
theorem dMo_pack_95 : decode cMo_pack 95 = .ok (.lload 5, 2) := by decide +kernel
theorem dMo_pack_97 : decode cMo_pack 97 = .ok (.goto 5, 3) := by decide +kernel
theorem dMo_pack_100 : decode cMo_pack 100 = .ok (.lload 9, 2) := by decide +kernel
theorem dMo_pack_102 : decode cMo_pack 102 = .ok (.lreturn, 1) := by decide +kernel
theorem dMo_floatBits_0 : decode cMo_floatBits 0 = .ok (.aload_n 0, 1) := by decide +kernel
theorem dMo_floatBits_1 : decode cMo_floatBits 1 = .ok (.aload_n 0, 1) := by decide +kernel
theorem dMo_floatBits_2 : decode cMo_floatBits 2 = .ok (.invokevirtual 92, 3) := by decide +kernel
theorem dMo_floatBits_5 : decode cMo_floatBits 5 = .ok (.ifCond .eq 7, 3) := by decide +kernel
theorem dMo_floatBits_8 : decode cMo_floatBits 8 = .ok (.iconst 0, 1) := by decide +kernel
theorem dMo_floatBits_9 : decode cMo_floatBits 9 = .ok (.goto 4, 3) := by decide +kernel
theorem dMo_floatBits_12 : decode cMo_floatBits 12 = .ok (.iconst 1, 1) := by decide +kernel
theorem dMo_floatBits_13 : decode cMo_floatBits 13 = .ok (.putfield 19, 3) := by decide +kernel
theorem dMo_floatBits_16 : decode cMo_floatBits 16 = .ok (.aload_n 0, 1) := by decide +kernel
theorem dMo_floatBits_17 : decode cMo_floatBits 17 = .ok (.getfield 19, 3) := by decide +kernel
theorem dMo_floatBits_20 : decode cMo_floatBits 20 = .ok (.ifCond .le 5, 3) := by decide +kernel
theorem dMo_floatBits_23 : decode cMo_floatBits 23 = .ok (.iconst 0, 1) := by decide +kernel
theorem dMo_floatBits_24 : decode cMo_floatBits 24 = .ok (.ireturn, 1) := by decide +kernel
theorem dMo_floatBits_25 : decode cMo_floatBits 25 = .ok (.aload_n 0, 1) := by decide +kernel
theorem dMo_floatBits_26 : decode cMo_floatBits 26 = .ok (.bipush 24, 2) := by decide +kernel
theorem dMo_floatBits_28 : decode cMo_floatBits 28 = .ok (.sipush (-149), 3) := by decide +kernel
theorem dMo_floatBits_31 : decode cMo_floatBits 31 = .ok (.invokevirtual 172, 3) := by decide +kernel
theorem dMo_floatBits_34 : decode cMo_floatBits 34 = .ok (.l2i, 1) := by decide +kernel
theorem dMo_floatBits_35 : decode cMo_floatBits 35 = .ok (.istore_n 1, 1) := by decide +kernel
theorem dMo_floatBits_36 : decode cMo_floatBits 36 = .ok (.aload_n 0, 1) := by decide +kernel
theorem dMo_floatBits_37 : decode cMo_floatBits 37 = .ok (.getfield 77, 3) := by decide +kernel
theorem dMo_floatBits_40 : decode cMo_floatBits 40 = .ok (.ifCond .eq 18, 3) := by decide +kernel
theorem dMo_floatBits_43 : decode cMo_floatBits 43 = .ok (.aload_n 0, 1) := by decide +kernel
theorem dMo_floatBits_44 : decode cMo_floatBits 44 = .ok (.getfield 59, 3) := by decide +kernel
theorem dMo_floatBits_47 : decode cMo_floatBits 47 = .ok (.iconst 3, 1) := by decide +kernel
theorem dMo_floatBits_48 : decode cMo_floatBits 48 = .ok (.if_icmp .ge 10, 3) := by decide +kernel
theorem dMo_floatBits_51 : decode cMo_floatBits 51 = .ok (.iload_n 1, 1) := by decide +kernel
theorem dMo_floatBits_52 : decode cMo_floatBits 52 = .ok (.ldc 178, 2) := by decide +kernel
theorem dMo_floatBits_54 : decode cMo_floatBits 54 = .ok (.ior, 1) := by decide +kernel
theorem dMo_floatBits_55 : decode cMo_floatBits 55 = .ok (.goto 4, 3) := by decide +kernel
theorem dMo_floatBits_58 : decode cMo_floatBits 58 = .ok (.iload_n 1, 1) := by decide +kernel
theorem dMo_floatBits_59 : decode cMo_floatBits 59 = .ok (.ireturn, 1) := by decide +kernel
theorem dMo_side_0 : decode cMo_side 0 = .ok (.aload_n 0, 1) := by decide +kernel
theorem dMo_side_1 : decode cMo_side 1 = .ok (.aload_n 0, 1) := by decide +kernel
theorem dMo_side_2 : decode cMo_side 2 = .ok (.invokevirtual 92, 3) := by decide +kernel
theorem dMo_side_5 : decode cMo_side 5 = .ok (.ifCond .eq 7, 3) := by decide +kernel
theorem dMo_side_8 : decode cMo_side 8 = .ok (.iconst 0, 1) := by decide +kernel
theorem dMo_side_9 : decode cMo_side 9 = .ok (.goto 4, 3) := by decide +kernel
theorem dMo_side_12 : decode cMo_side 12 = .ok (.iconst 1, 1) := by decide +kernel
theorem dMo_side_13 : decode cMo_side 13 = .ok (.putfield 19, 3) := by decide +kernel
theorem dMo_side_16 : decode cMo_side 16 = .ok (.aload_n 0, 1) := by decide +kernel
theorem dMo_side_17 : decode cMo_side 17 = .ok (.getfield 19, 3) := by decide +kernel
theorem dMo_side_20 : decode cMo_side 20 = .ok (.ifCond .gt 11, 3) := by decide +kernel
theorem dMo_side_23 : decode cMo_side 23 = .ok (.aload_n 0, 1) := by decide +kernel
theorem dMo_side_24 : decode cMo_side 24 = .ok (.getfield 59, 3) := by decide +kernel
theorem dMo_side_27 : decode cMo_side 27 = .ok (.iconst 1, 1) := by decide +kernel
theorem dMo_side_28 : decode cMo_side 28 = .ok (.if_icmp .le 5, 3) := by decide +kernel
theorem dMo_side_31 : decode cMo_side 31 = .ok (.iconst 0, 1) := by decide +kernel
theorem dMo_side_32 : decode cMo_side 32 = .ok (.ireturn, 1) := by decide +kernel
theorem dMo_side_33 : decode cMo_side 33 = .ok (.iload_n 1, 1) := by decide +kernel
theorem dMo_side_34 : decode cMo_side 34 = .ok (.ifCond .eq 8, 3) := by decide +kernel
theorem dMo_side_37 : decode cMo_side 37 = .ok (.bipush 24, 2) := by decide +kernel
theorem dMo_side_39 : decode cMo_side 39 = .ok (.goto 5, 3) := by decide +kernel
theorem dMo_side_42 : decode cMo_side 42 = .ok (.bipush 53, 2) := by decide +kernel
theorem dMo_side_44 : decode cMo_side 44 = .ok (.istore_n 2, 1) := by decide +kernel
theorem dMo_side_45 : decode cMo_side 45 = .ok (.aload_n 0, 1) := by decide +kernel
theorem dMo_side_46 : decode cMo_side 46 = .ok (.iload_n 2, 1) := by decide +kernel
theorem dMo_side_47 : decode cMo_side 47 = .ok (.iload_n 1, 1) := by decide +kernel
theorem dMo_side_48 : decode cMo_side 48 = .ok (.ifCond .eq 9, 3) := by decide +kernel
theorem dMo_side_51 : decode cMo_side 51 = .ok (.sipush (-149), 3) := by decide +kernel
theorem dMo_side_54 : decode cMo_side 54 = .ok (.goto 6, 3) := by decide +kernel
theorem dMo_side_57 : decode cMo_side 57 = .ok (.sipush (-1074), 3) := by decide +kernel
theorem dMo_side_60 : decode cMo_side 60 = .ok (.invokevirtual 172, 3) := by decide +kernel
theorem dMo_side_63 : decode cMo_side 63 = .ok (.lstore_n 3, 1) := by decide +kernel
theorem dMo_side_64 : decode cMo_side 64 = .ok (.iload_n 1, 1) := by decide +kernel
theorem dMo_side_65 : decode cMo_side 65 = .ok (.ifCond .eq 9, 3) := by decide +kernel
theorem dMo_side_68 : decode cMo_side 68 = .ok (.ldc2_w 23, 3) := by decide +kernel
theorem dMo_side_71 : decode cMo_side 71 = .ok (.goto 6, 3) := by decide +kernel
theorem dMo_side_74 : decode cMo_side 74 = .ok (.ldc2_w 160, 3) := by decide +kernel
theorem dMo_side_77 : decode cMo_side 77 = .ok (.iload_n 2, 1) := by decide +kernel
theorem dMo_side_78 : decode cMo_side 78 = .ok (.iconst 1, 1) := by decide +kernel
theorem dMo_side_79 : decode cMo_side 79 = .ok (.isub, 1) := by decide +kernel
theorem dMo_side_80 : decode cMo_side 80 = .ok (.lshl, 1) := by decide +kernel
theorem dMo_side_81 : decode cMo_side 81 = .ok (.lstore 5, 2) := by decide +kernel
theorem dMo_side_83 : decode cMo_side 83 = .ok (.lload_n 3, 1) := by decide +kernel
theorem dMo_side_84 : decode cMo_side 84 = .ok (.lload 5, 2) := by decide +kernel
theorem dMo_side_86 : decode cMo_side 86 = .ok (.lcmp, 1) := by decide +kernel
theorem dMo_side_87 : decode cMo_side 87 = .ok (.ifCond .ne 7, 3) := by decide +kernel
theorem dMo_side_90 : decode cMo_side 90 = .ok (.iconst 1, 1) := by decide +kernel
theorem dMo_side_91 : decode cMo_side 91 = .ok (.goto 26, 3) := by decide +kernel
theorem dMo_side_94 : decode cMo_side 94 = .ok (.aload_n 0, 1) := by decide +kernel
theorem dMo_side_95 : decode cMo_side 95 = .ok (.getfield 120, 3) := by decide +kernel
theorem dMo_side_98 : decode cMo_side 98 = .ok (.ifCond .ne 7, 3) := by decide +kernel
theorem dMo_side_101 : decode cMo_side 101 = .ok (.iconst 0, 1) := by decide +kernel
theorem dMo_side_102 : decode cMo_side 102 = .ok (.goto 15, 3) := by decide +kernel
theorem dMo_side_105 : decode cMo_side 105 = .ok (.aload_n 0, 1) := by decide +kernel
theorem dMo_side_106 : decode cMo_side 106 = .ok (.invokevirtual 165, 3) := by decide +kernel
theorem dMo_side_109 : decode cMo_side 109 = .ok (.ifCond .eq 7, 3) := by decide +kernel
theorem dMo_side_112 : decode cMo_side 112 = .ok (.iconst 1, 1) := by decide +kernel
theorem dMo_side_113 : decode cMo_side 113 = .ok (.goto 4, 3) := by decide +kernel
theorem dMo_side_116 : decode cMo_side 116 = .ok (.iconst (-1), 1) := by decide +kernel
theorem dMo_side_117 : decode cMo_side 117 = .ok (.istore 7, 2) := by decide +kernel
theorem dMo_side_119 : decode cMo_side 119 = .ok (.aload_n 0, 1) := by decide +kernel
theorem dMo_side_120 : decode cMo_side 120 = .ok (.getfield 77, 3) := by decide +kernel
theorem dMo_side_123 : decode cMo_side 123 = .ok (.ifCond .eq 9, 3) := by decide +kernel
theorem dMo_side_126 : decode cMo_side 126 = .ok (.iload 7, 2) := by decide +kernel
theorem dMo_side_128 : decode cMo_side 128 = .ok (.ineg, 1) := by decide +kernel
theorem dMo_side_129 : decode cMo_side 129 = .ok (.goto 5, 3) := by decide +kernel
theorem dMo_side_132 : decode cMo_side 132 = .ok (.iload 7, 2) := by decide +kernel
theorem dMo_side_134 : decode cMo_side 134 = .ok (.ireturn, 1) := by decide +kernel
theorem dMo_compare_0 : decode cMo_compare 0 = .ok (.aload_n 0, 1) := by decide +kernel
theorem dMo_compare_1 : decode cMo_compare 1 = .ok (.aload_n 0, 1) := by decide +kernel
theorem dMo_compare_2 : decode cMo_compare 2 = .ok (.invokevirtual 92, 3) := by decide +kernel
theorem dMo_compare_5 : decode cMo_compare 5 = .ok (.ifCond .eq 7, 3) := by decide +kernel
theorem dMo_compare_8 : decode cMo_compare 8 = .ok (.iconst 0, 1) := by decide +kernel
theorem dMo_compare_9 : decode cMo_compare 9 = .ok (.goto 4, 3) := by decide +kernel
theorem dMo_compare_12 : decode cMo_compare 12 = .ok (.iconst 1, 1) := by decide +kernel
theorem dMo_compare_13 : decode cMo_compare 13 = .ok (.putfield 19, 3) := by decide +kernel
theorem dMo_compare_16 : decode cMo_compare 16 = .ok (.aload_n 0, 1) := by decide +kernel
theorem dMo_compare_17 : decode cMo_compare 17 = .ok (.getfield 19, 3) := by decide +kernel
theorem dMo_compare_20 : decode cMo_compare 20 = .ok (.ifCond .le 5, 3) := by decide +kernel
theorem dMo_compare_23 : decode cMo_compare 23 = .ok (.iconst 0, 1) := by decide +kernel
theorem dMo_compare_24 : decode cMo_compare 24 = .ok (.ireturn, 1) := by decide +kernel
theorem dMo_compare_25 : decode cMo_compare 25 = .ok (.lload_n 1, 1) := by decide +kernel
theorem dMo_compare_26 : decode cMo_compare 26 = .ok (.ldc2_w 181, 3) := by decide +kernel
theorem dMo_compare_29 : decode cMo_compare 29 = .ok (.land, 1) := by decide +kernel
theorem dMo_compare_30 : decode cMo_compare 30 = .ok (.lstore_n 3, 1) := by decide +kernel
theorem dMo_compare_31 : decode cMo_compare 31 = .ok (.aload_n 0, 1) := by decide +kernel
theorem dMo_compare_32 : decode cMo_compare 32 = .ok (.aload_n 0, 1) := by decide +kernel
theorem dMo_compare_33 : decode cMo_compare 33 = .ok (.getfield 59, 3) := by decide +kernel
theorem dMo_compare_36 : decode cMo_compare 36 = .ok (.iconst 3, 1) := by decide +kernel
theorem dMo_compare_37 : decode cMo_compare 37 = .ok (.if_icmp .eq 11, 3) := by decide +kernel
theorem dMo_compare_40 : decode cMo_compare 40 = .ok (.lload_n 3, 1) := by decide +kernel
theorem dMo_compare_41 : decode cMo_compare 41 = .ok (.ldc2_w 179, 3) := by decide +kernel
theorem dMo_compare_44 : decode cMo_compare 44 = .ok (.lcmp, 1) := by decide +kernel
theorem dMo_compare_45 : decode cMo_compare 45 = .ok (.ifCond .le 7, 3) := by decide +kernel
theorem dMo_compare_48 : decode cMo_compare 48 = .ok (.iconst 2, 1) := by decide +kernel
theorem dMo_compare_49 : decode cMo_compare 49 = .ok (.goto 4, 3) := by decide +kernel
theorem dMo_compare_52 : decode cMo_compare 52 = .ok (.iconst 0, 1) := by decide +kernel
theorem dMo_compare_53 : decode cMo_compare 53 = .ok (.putfield 19, 3) := by decide +kernel
theorem dMo_compare_56 : decode cMo_compare 56 = .ok (.aload_n 0, 1) := by decide +kernel
theorem dMo_compare_57 : decode cMo_compare 57 = .ok (.getfield 19, 3) := by decide +kernel
theorem dMo_compare_60 : decode cMo_compare 60 = .ok (.ifCond .le 5, 3) := by decide +kernel
theorem dMo_compare_63 : decode cMo_compare 63 = .ok (.iconst 0, 1) := by decide +kernel
theorem dMo_compare_64 : decode cMo_compare 64 = .ok (.ireturn, 1) := by decide +kernel
theorem dMo_compare_65 : decode cMo_compare 65 = .ok (.lload_n 1, 1) := by decide +kernel
theorem dMo_compare_66 : decode cMo_compare 66 = .ok (.lconst 0, 1) := by decide +kernel
theorem dMo_compare_67 : decode cMo_compare 67 = .ok (.lcmp, 1) := by decide +kernel
theorem dMo_compare_68 : decode cMo_compare 68 = .ok (.ifCond .ge 7, 3) := by decide +kernel
theorem dMo_compare_71 : decode cMo_compare 71 = .ok (.iconst 1, 1) := by decide +kernel
theorem dMo_compare_72 : decode cMo_compare 72 = .ok (.goto 4, 3) := by decide +kernel
theorem dMo_compare_75 : decode cMo_compare 75 = .ok (.iconst 0, 1) := by decide +kernel
theorem dMo_compare_76 : decode cMo_compare 76 = .ok (.istore 5, 2) := by decide +kernel
theorem dMo_compare_78 : decode cMo_compare 78 = .ok (.lload_n 3, 1) := by decide +kernel
theorem dMo_compare_79 : decode cMo_compare 79 = .ok (.lconst 0, 1) := by decide +kernel
theorem dMo_compare_80 : decode cMo_compare 80 = .ok (.lcmp, 1) := by decide +kernel
theorem dMo_compare_81 : decode cMo_compare 81 = .ok (.ifCond .ne 7, 3) := by decide +kernel
theorem dMo_compare_84 : decode cMo_compare 84 = .ok (.iconst 1, 1) := by decide +kernel
theorem dMo_compare_85 : decode cMo_compare 85 = .ok (.goto 4, 3) := by decide +kernel
theorem dMo_compare_88 : decode cMo_compare 88 = .ok (.iconst 0, 1) := by decide +kernel
theorem dMo_compare_89 : decode cMo_compare 89 = .ok (.istore 6, 2) := by decide +kernel
theorem dMo_compare_91 : decode cMo_compare 91 = .ok (.iconst 0, 1) := by decide +kernel
theorem dMo_compare_92 : decode cMo_compare 92 = .ok (.istore 7, 2) := by decide +kernel
theorem dMo_compare_94 : decode cMo_compare 94 = .ok (.iconst 0, 1) := by decide +kernel
theorem dMo_compare_95 : decode cMo_compare 95 = .ok (.istore 8, 2) := by decide +kernel
theorem dMo_compare_97 : decode cMo_compare 97 = .ok (.iload 8, 2) := by decide +kernel
theorem dMo_compare_99 : decode cMo_compare 99 = .ok (.aload_n 0, 1) := by decide +kernel
theorem dMo_compare_100 : decode cMo_compare 100 = .ok (.getfield 39, 3) := by decide +kernel
theorem dMo_compare_103 : decode cMo_compare 103 = .ok (.if_icmp .ge 39, 3) := by decide +kernel
theorem dMo_compare_106 : decode cMo_compare 106 = .ok (.aload_n 0, 1) := by decide +kernel
theorem dMo_compare_107 : decode cMo_compare 107 = .ok (.getfield 59, 3) := by decide +kernel
theorem dMo_compare_110 : decode cMo_compare 110 = .ok (.iconst 2, 1) := by decide +kernel
theorem dMo_compare_111 : decode cMo_compare 111 = .ok (.if_icmp .ge 31, 3) := by decide +kernel
theorem dMo_compare_114 : decode cMo_compare 114 = .ok (.iload 7, 2) := by decide +kernel
theorem dMo_compare_116 : decode cMo_compare 116 = .ok (.ifCond .ne 13, 3) := by decide +kernel
theorem dMo_compare_119 : decode cMo_compare 119 = .ok (.aload_n 0, 1) := by decide +kernel
theorem dMo_compare_120 : decode cMo_compare 120 = .ok (.getfield 13, 3) := by decide +kernel
theorem dMo_compare_123 : decode cMo_compare 123 = .ok (.iload 8, 2) := by decide +kernel
theorem dMo_compare_125 : decode cMo_compare 125 = .ok (.iaload, 1) := by decide +kernel
theorem dMo_compare_126 : decode cMo_compare 126 = .ok (.ifCond .eq 7, 3) := by decide +kernel
theorem dMo_compare_129 : decode cMo_compare 129 = .ok (.iconst 1, 1) := by decide +kernel
theorem dMo_compare_130 : decode cMo_compare 130 = .ok (.goto 4, 3) := by decide +kernel
theorem dMo_compare_133 : decode cMo_compare 133 = .ok (.iconst 0, 1) := by decide +kernel
theorem dMo_compare_134 : decode cMo_compare 134 = .ok (.istore 7, 2) := by decide +kernel
theorem dMo_compare_136 : decode cMo_compare 136 = .ok (.iinc 8 1, 3) := by decide +kernel
theorem dMo_compare_139 : decode cMo_compare 139 = .ok (.goto (-42), 3) := by decide +kernel
theorem dMo_compare_142 : decode cMo_compare 142 = .ok (.aload_n 0, 1) := by decide +kernel
theorem dMo_compare_143 : decode cMo_compare 143 = .ok (.getfield 59, 3) := by decide +kernel
theorem dMo_compare_146 : decode cMo_compare 146 = .ok (.iconst 2, 1) := by decide +kernel
theorem dMo_compare_147 : decode cMo_compare 147 = .ok (.if_icmp .ge 12, 3) := by decide +kernel
theorem dMo_compare_150 : decode cMo_compare 150 = .ok (.iload 7, 2) := by decide +kernel
theorem dMo_compare_152 : decode cMo_compare 152 = .ok (.ifCond .ne 7, 3) := by decide +kernel
theorem dMo_compare_155 : decode cMo_compare 155 = .ok (.iconst 1, 1) := by decide +kernel
theorem dMo_compare_156 : decode cMo_compare 156 = .ok (.goto 4, 3) := by decide +kernel
theorem dMo_compare_159 : decode cMo_compare 159 = .ok (.iconst 0, 1) := by decide +kernel
theorem dMo_compare_160 : decode cMo_compare 160 = .ok (.istore 8, 2) := by decide +kernel
theorem dMo_compare_162 : decode cMo_compare 162 = .ok (.iload 8, 2) := by decide +kernel
theorem dMo_compare_164 : decode cMo_compare 164 = .ok (.ifCond .ne 8, 3) := by decide +kernel
theorem dMo_compare_167 : decode cMo_compare 167 = .ok (.iload 6, 2) := by decide +kernel
theorem dMo_compare_169 : decode cMo_compare 169 = .ok (.ifCond .eq 48, 3) := by decide +kernel
theorem dMo_compare_172 : decode cMo_compare 172 = .ok (.iload 8, 2) := by decide +kernel
theorem dMo_compare_174 : decode cMo_compare 174 = .ok (.ifCond .eq 12, 3) := by decide +kernel
theorem dMo_compare_177 : decode cMo_compare 177 = .ok (.iload 6, 2) := by decide +kernel
theorem dMo_compare_179 : decode cMo_compare 179 = .ok (.ifCond .eq 7, 3) := by decide +kernel
theorem dMo_compare_182 : decode cMo_compare 182 = .ok (.iconst 0, 1) := by decide +kernel
theorem dMo_compare_183 : decode cMo_compare 183 = .ok (.goto 33, 3) := by decide +kernel
theorem dMo_compare_186 : decode cMo_compare 186 = .ok (.iload 8, 2) := by decide +kernel
theorem dMo_compare_188 : decode cMo_compare 188 = .ok (.ifCond .eq 16, 3) := by decide +kernel
theorem dMo_compare_191 : decode cMo_compare 191 = .ok (.iload 5, 2) := by decide +kernel
theorem dMo_compare_193 : decode cMo_compare 193 = .ok (.ifCond .eq 7, 3) := by decide +kernel
theorem dMo_compare_196 : decode cMo_compare 196 = .ok (.iconst 1, 1) := by decide +kernel
theorem dMo_compare_197 : decode cMo_compare 197 = .ok (.goto 19, 3) := by decide +kernel
theorem dMo_compare_200 : decode cMo_compare 200 = .ok (.iconst (-1), 1) := by decide +kernel
theorem dMo_compare_201 : decode cMo_compare 201 = .ok (.goto 15, 3) := by decide +kernel
theorem dMo_compare_204 : decode cMo_compare 204 = .ok (.aload_n 0, 1) := by decide +kernel
theorem dMo_compare_205 : decode cMo_compare 205 = .ok (.getfield 77, 3) := by decide +kernel
theorem dMo_compare_208 : decode cMo_compare 208 = .ok (.ifCond .eq 7, 3) := by decide +kernel
theorem dMo_compare_211 : decode cMo_compare 211 = .ok (.iconst (-1), 1) := by decide +kernel
theorem dMo_compare_212 : decode cMo_compare 212 = .ok (.goto 4, 3) := by decide +kernel
theorem dMo_compare_215 : decode cMo_compare 215 = .ok (.iconst 1, 1) := by decide +kernel
theorem dMo_compare_216 : decode cMo_compare 216 = .ok (.ireturn, 1) := by decide +kernel
theorem dMo_compare_217 : decode cMo_compare 217 = .ok (.aload_n 0, 1) := by decide +kernel
theorem dMo_compare_218 : decode cMo_compare 218 = .ok (.getfield 77, 3) := by decide +kernel
theorem dMo_compare_221 : decode cMo_compare 221 = .ok (.iload 5, 2) := by decide +kernel
theorem dMo_compare_223 : decode cMo_compare 223 = .ok (.if_icmp .eq 16, 3) := by decide +kernel
theorem dMo_compare_226 : decode cMo_compare 226 = .ok (.aload_n 0, 1) := by decide +kernel
theorem dMo_compare_227 : decode cMo_compare 227 = .ok (.getfield 77, 3) := by decide +kernel
theorem dMo_compare_230 : decode cMo_compare 230 = .ok (.ifCond .eq 7, 3) := by decide +kernel
theorem dMo_compare_233 : decode cMo_compare 233 = .ok (.iconst (-1), 1) := by decide +kernel
theorem dMo_compare_234 : decode cMo_compare 234 = .ok (.goto 4, 3) := by decide +kernel
theorem dMo_compare_237 : decode cMo_compare 237 = .ok (.iconst 1, 1) := by decide +kernel
theorem dMo_compare_238 : decode cMo_compare 238 = .ok (.ireturn, 1) := by decide +kernel
theorem dMo_compare_239 : decode cMo_compare 239 = .ok (.aload_n 0, 1) := by decide +kernel
theorem dMo_compare_240 : decode cMo_compare 240 = .ok (.lload_n 3, 1) := by decide +kernel
theorem dMo_compare_241 : decode cMo_compare 241 = .ok (.invokevirtual 183, 3) := by decide +kernel
theorem dMo_compare_244 : decode cMo_compare 244 = .ok (.istore 9, 2) := by decide +kernel
theorem dMo_compare_246 : decode cMo_compare 246 = .ok (.aload_n 0, 1) := by decide +kernel
theorem dMo_compare_247 : decode cMo_compare 247 = .ok (.getfield 77, 3) := by decide +kernel
theorem dMo_compare_250 : decode cMo_compare 250 = .ok (.ifCond .eq 9, 3) := by decide +kernel
theorem dMo_compare_253 : decode cMo_compare 253 = .ok (.iload 9, 2) := by decide +kernel
theorem dMo_compare_255 : decode cMo_compare 255 = .ok (.ineg, 1) := by decide +kernel
theorem dMo_compare_256 : decode cMo_compare 256 = .ok (.goto 5, 3) := by decide +kernel
theorem dMo_compare_259 : decode cMo_compare 259 = .ok (.iload 9, 2) := by decide +kernel
theorem dMo_compare_261 : decode cMo_compare 261 = .ok (.ireturn, 1) := by decide +kernel
theorem dMo_compareSize_0 : decode cMo_compareSize 0 = .ok (.ldc2_w 179, 3) := by decide +kernel
theorem dMo_compareSize_3 : decode cMo_compareSize 3 = .ok (.lstore_n 3, 1) := by decide +kernel
theorem dMo_compareSize_4 : decode cMo_compareSize 4 = .ok (.aload_n 0, 1) := by decide +kernel
theorem dMo_compareSize_5 : decode cMo_compareSize 5 = .ok (.getfield 59, 3) := by decide +kernel
theorem dMo_compareSize_8 : decode cMo_compareSize 8 = .ok (.iconst 2, 1) := by decide +kernel
theorem dMo_compareSize_9 : decode cMo_compareSize 9 = .ok (.if_icmp .eq 9, 3) := by decide +kernel
theorem dMo_compareSize_12 : decode cMo_compareSize 12 = .ok (.lload_n 1, 1) := by decide +kernel
theorem dMo_compareSize_13 : decode cMo_compareSize 13 = .ok (.lload_n 3, 1) := by decide +kernel
theorem dMo_compareSize_14 : decode cMo_compareSize 14 = .ok (.lcmp, 1) := by decide +kernel
theorem dMo_compareSize_15 : decode cMo_compareSize 15 = .ok (.ifCond .ne 27, 3) := by decide +kernel
theorem dMo_compareSize_18 : decode cMo_compareSize 18 = .ok (.aload_n 0, 1) := by decide +kernel
theorem dMo_compareSize_19 : decode cMo_compareSize 19 = .ok (.getfield 59, 3) := by decide +kernel
theorem dMo_compareSize_22 : decode cMo_compareSize 22 = .ok (.iconst 2, 1) := by decide +kernel
theorem dMo_compareSize_23 : decode cMo_compareSize 23 = .ok (.if_icmp .eq 7, 3) := by decide +kernel
theorem dMo_compareSize_26 : decode cMo_compareSize 26 = .ok (.iconst (-1), 1) := by decide +kernel
theorem dMo_compareSize_27 : decode cMo_compareSize 27 = .ok (.goto 14, 3) := by decide +kernel
theorem dMo_compareSize_30 : decode cMo_compareSize 30 = .ok (.lload_n 1, 1) := by decide +kernel
theorem dMo_compareSize_31 : decode cMo_compareSize 31 = .ok (.lload_n 3, 1) := by decide +kernel
theorem dMo_compareSize_32 : decode cMo_compareSize 32 = .ok (.lcmp, 1) := by decide +kernel
theorem dMo_compareSize_33 : decode cMo_compareSize 33 = .ok (.ifCond .ne 7, 3) := by decide +kernel
theorem dMo_compareSize_36 : decode cMo_compareSize 36 = .ok (.iconst 0, 1) := by decide +kernel
theorem dMo_compareSize_37 : decode cMo_compareSize 37 = .ok (.goto 4, 3) := by decide +kernel
theorem dMo_compareSize_40 : decode cMo_compareSize 40 = .ok (.iconst 1, 1) := by decide +kernel
theorem dMo_compareSize_41 : decode cMo_compareSize 41 = .ok (.ireturn, 1) := by decide +kernel
theorem dMo_compareSize_42 : decode cMo_compareSize 42 = .ok (.aload_n 0, 1) := by decide +kernel
theorem dMo_compareSize_43 : decode cMo_compareSize 43 = .ok (.bipush 53, 2) := by decide +kernel
theorem dMo_compareSize_45 : decode cMo_compareSize 45 = .ok (.sipush (-1074), 3) := by decide +kernel
theorem dMo_compareSize_48 : decode cMo_compareSize 48 = .ok (.invokevirtual 162, 3) := by decide +kernel
theorem dMo_compareSize_51 : decode cMo_compareSize 51 = .ok (.aload_n 0, 1) := by decide +kernel
theorem dMo_compareSize_52 : decode cMo_compareSize 52 = .ok (.getfield 109, 3) := by decide +kernel
theorem dMo_compareSize_55 : decode cMo_compareSize 55 = .ok (.ifCond .eq 7, 3) := by decide +kernel
theorem dMo_compareSize_58 : decode cMo_compareSize 58 = .ok (.lload_n 3, 1) := by decide +kernel
theorem dMo_compareSize_59 : decode cMo_compareSize 59 = .ok (.goto 16, 3) := by decide +kernel
theorem dMo_compareSize_62 : decode cMo_compareSize 62 = .ok (.aload_n 0, 1) := by decide +kernel
theorem dMo_compareSize_63 : decode cMo_compareSize 63 = .ok (.aload_n 0, 1) := by decide +kernel
theorem dMo_compareSize_64 : decode cMo_compareSize 64 = .ok (.getfield 114, 3) := by decide +kernel
theorem dMo_compareSize_67 : decode cMo_compareSize 67 = .ok (.bipush 53, 2) := by decide +kernel
theorem dMo_compareSize_69 : decode cMo_compareSize 69 = .ok (.sipush (-1074), 3) := by decide +kernel
theorem dMo_compareSize_72 : decode cMo_compareSize 72 = .ok (.invokevirtual 168, 3) := by decide +kernel
theorem dMo_compareSize_75 : decode cMo_compareSize 75 = .ok (.lstore 5, 2) := by decide +kernel
theorem dMo_compareSize_77 : decode cMo_compareSize 77 = .ok (.lload 5, 2) := by decide +kernel
theorem dMo_compareSize_79 : decode cMo_compareSize 79 = .ok (.lload_n 3, 1) := by decide +kernel
theorem dMo_compareSize_80 : decode cMo_compareSize 80 = .ok (.lcmp, 1) := by decide +kernel
theorem dMo_compareSize_81 : decode cMo_compareSize 81 = .ok (.ifCond .eq 10, 3) := by decide +kernel
theorem dMo_compareSize_84 : decode cMo_compareSize 84 = .ok (.lload 5, 2) := by decide +kernel
theorem dMo_compareSize_86 : decode cMo_compareSize 86 = .ok (.lload_n 1, 1) := by decide +kernel
theorem dMo_compareSize_87 : decode cMo_compareSize 87 = .ok (.lcmp, 1) := by decide +kernel
theorem dMo_compareSize_88 : decode cMo_compareSize 88 = .ok (.ifCond .le 5, 3) := by decide +kernel
theorem dMo_compareSize_91 : decode cMo_compareSize 91 = .ok (.iconst 1, 1) := by decide +kernel
theorem dMo_compareSize_92 : decode cMo_compareSize 92 = .ok (.ireturn, 1) := by decide +kernel
theorem dMo_compareSize_93 : decode cMo_compareSize 93 = .ok (.lload 5, 2) := by decide +kernel
theorem dMo_compareSize_95 : decode cMo_compareSize 95 = .ok (.lload_n 1, 1) := by decide +kernel
theorem dMo_compareSize_96 : decode cMo_compareSize 96 = .ok (.lcmp, 1) := by decide +kernel
theorem dMo_compareSize_97 : decode cMo_compareSize 97 = .ok (.ifCond .ge 7, 3) := by decide +kernel
theorem dMo_compareSize_100 : decode cMo_compareSize 100 = .ok (.iconst (-1), 1) := by decide +kernel
theorem dMo_compareSize_101 : decode cMo_compareSize 101 = .ok (.goto 15, 3) := by decide +kernel
theorem dMo_compareSize_104 : decode cMo_compareSize 104 = .ok (.aload_n 0, 1) := by decide +kernel
theorem dMo_compareSize_105 : decode cMo_compareSize 105 = .ok (.getfield 120, 3) := by decide +kernel
theorem dMo_compareSize_108 : decode cMo_compareSize 108 = .ok (.ifCond .ne 7, 3) := by decide +kernel
theorem dMo_compareSize_111 : decode cMo_compareSize 111 = .ok (.iconst 0, 1) := by decide +kernel
theorem dMo_compareSize_112 : decode cMo_compareSize 112 = .ok (.goto 4, 3) := by decide +kernel
theorem dMo_compareSize_115 : decode cMo_compareSize 115 = .ok (.iconst 1, 1) := by decide +kernel
theorem dMo_compareSize_116 : decode cMo_compareSize 116 = .ok (.ireturn, 1) := by decide +kernel
