theorem dMo_writeOut_14 : decode cMo_writeOut 14 = .ok (.iconst 0, 1) := by decide +kernel
theorem dMo_writeOut_15 : decode cMo_writeOut 15 = .ok (.iastore, 1) := by decide +kernel
theorem dMo_writeOut_16 : decode cMo_writeOut 16 = .ok (.iinc 3 1, 3) := by decide +kernel
theorem dMo_writeOut_19 : decode cMo_writeOut 19 = .ok (.goto (-17), 3) := by decide +kernel
theorem dMo_writeOut_22 : decode cMo_writeOut 22 = .ok (.sipush 439, 3) := by decide +kernel
theorem dMo_writeOut_25 : decode cMo_writeOut 25 = .ok (.istore_n 3, 1) := by decide +kernel
theorem dMo_writeOut_26 : decode cMo_writeOut 26 = .ok (.iload_n 1, 1) := by decide +kernel
theorem dMo_writeOut_27 : decode cMo_writeOut 27 = .ok (.istore 4, 2) := by decide +kernel
theorem dMo_writeOut_29 : decode cMo_writeOut 29 = .ok (.iload 4, 2) := by decide +kernel
theorem dMo_writeOut_31 : decode cMo_writeOut 31 = .ok (.aload_n 0, 1) := by decide +kernel
theorem dMo_writeOut_32 : decode cMo_writeOut 32 = .ok (.getfield 39, 3) := by decide +kernel
theorem dMo_writeOut_35 : decode cMo_writeOut 35 = .ok (.if_icmp .ge 83, 3) := by decide +kernel
theorem dMo_writeOut_38 : decode cMo_writeOut 38 = .ok (.iload_n 3, 1) := by decide +kernel
theorem dMo_writeOut_39 : decode cMo_writeOut 39 = .ok (.iload_n 2, 1) := by decide +kernel
theorem dMo_writeOut_40 : decode cMo_writeOut 40 = .ok (.isub, 1) := by decide +kernel
theorem dMo_writeOut_41 : decode cMo_writeOut 41 = .ok (.iconst 1, 1) := by decide +kernel
theorem dMo_writeOut_42 : decode cMo_writeOut 42 = .ok (.iadd, 1) := by decide +kernel
theorem dMo_writeOut_43 : decode cMo_writeOut 43 = .ok (.iload 4, 2) := by decide +kernel
theorem dMo_writeOut_45 : decode cMo_writeOut 45 = .ok (.iadd, 1) := by decide +kernel
theorem dMo_writeOut_46 : decode cMo_writeOut 46 = .ok (.iload_n 1, 1) := by decide +kernel
theorem dMo_writeOut_47 : decode cMo_writeOut 47 = .ok (.isub, 1) := by decide +kernel
theorem dMo_writeOut_48 : decode cMo_writeOut 48 = .ok (.istore 5, 2) := by decide +kernel
theorem dMo_writeOut_50 : decode cMo_writeOut 50 = .ok (.iload 5, 2) := by decide +kernel
theorem dMo_writeOut_52 : decode cMo_writeOut 52 = .ok (.bipush 8, 2) := by decide +kernel
theorem dMo_writeOut_54 : decode cMo_writeOut 54 = .ok (.idiv, 1) := by decide +kernel
theorem dMo_writeOut_55 : decode cMo_writeOut 55 = .ok (.istore 6, 2) := by decide +kernel
theorem dMo_writeOut_57 : decode cMo_writeOut 57 = .ok (.iconst 1, 1) := by decide +kernel
theorem dMo_writeOut_58 : decode cMo_writeOut 58 = .ok (.istore 7, 2) := by decide +kernel
theorem dMo_writeOut_60 : decode cMo_writeOut 60 = .ok (.iload 5, 2) := by decide +kernel
theorem dMo_writeOut_62 : decode cMo_writeOut 62 = .ok (.bipush 8, 2) := by decide +kernel
theorem dMo_writeOut_64 : decode cMo_writeOut 64 = .ok (.irem, 1) := by decide +kernel
theorem dMo_writeOut_65 : decode cMo_writeOut 65 = .ok (.istore 8, 2) := by decide +kernel
theorem dMo_writeOut_67 : decode cMo_writeOut 67 = .ok (.iload 8, 2) := by decide +kernel
theorem dMo_writeOut_69 : decode cMo_writeOut 69 = .ok (.bipush 7, 2) := by decide +kernel
theorem dMo_writeOut_71 : decode cMo_writeOut 71 = .ok (.if_icmp .ge 16, 3) := by decide +kernel
theorem dMo_writeOut_74 : decode cMo_writeOut 74 = .ok (.iload 7, 2) := by decide +kernel
theorem dMo_writeOut_76 : decode cMo_writeOut 76 = .ok (.bipush 10, 2) := by decide +kernel
theorem dMo_writeOut_78 : decode cMo_writeOut 78 = .ok (.imul, 1) := by decide +kernel
theorem dMo_writeOut_79 : decode cMo_writeOut 79 = .ok (.istore 7, 2) := by decide +kernel
theorem dMo_writeOut_81 : decode cMo_writeOut 81 = .ok (.iinc 8 1, 3) := by decide +kernel
theorem dMo_writeOut_84 : decode cMo_writeOut 84 = .ok (.goto (-17), 3) := by decide +kernel
theorem dMo_writeOut_87 : decode cMo_writeOut 87 = .ok (.aload_n 0, 1) := by decide +kernel
theorem dMo_writeOut_88 : decode cMo_writeOut 88 = .ok (.getfield 16, 3) := by decide +kernel
theorem dMo_writeOut_91 : decode cMo_writeOut 91 = .ok (.iload 6, 2) := by decide +kernel
theorem dMo_writeOut_93 : decode cMo_writeOut 93 = .ok (.aload_n 0, 1) := by decide +kernel
theorem dMo_writeOut_94 : decode cMo_writeOut 94 = .ok (.getfield 16, 3) := by decide +kernel
theorem dMo_writeOut_97 : decode cMo_writeOut 97 = .ok (.iload 6, 2) := by decide +kernel
theorem dMo_writeOut_99 : decode cMo_writeOut 99 = .ok (.iaload, 1) := by decide +kernel
theorem dMo_writeOut_100 : decode cMo_writeOut 100 = .ok (.aload_n 0, 1) := by decide +kernel
theorem dMo_writeOut_101 : decode cMo_writeOut 101 = .ok (.getfield 13, 3) := by decide +kernel
theorem dMo_writeOut_104 : decode cMo_writeOut 104 = .ok (.iload 4, 2) := by decide +kernel
theorem dMo_writeOut_106 : decode cMo_writeOut 106 = .ok (.iaload, 1) := by decide +kernel
theorem dMo_writeOut_107 : decode cMo_writeOut 107 = .ok (.iload 7, 2) := by decide +kernel
theorem dMo_writeOut_109 : decode cMo_writeOut 109 = .ok (.imul, 1) := by decide +kernel
theorem dMo_writeOut_110 : decode cMo_writeOut 110 = .ok (.iadd, 1) := by decide +kernel
theorem dMo_writeOut_111 : decode cMo_writeOut 111 = .ok (.iastore, 1) := by decide +kernel
theorem dMo_writeOut_112 : decode cMo_writeOut 112 = .ok (.iinc 4 1, 3) := by decide +kernel
theorem dMo_writeOut_115 : decode cMo_writeOut 115 = .ok (.goto (-86), 3) := by decide +kernel
theorem dMo_writeOut_118 : decode cMo_writeOut 118 = .ok (.aload_n 0, 1) := by decide +kernel
theorem dMo_writeOut_119 : decode cMo_writeOut 119 = .ok (.iconst 0, 1) := by decide +kernel
theorem dMo_writeOut_120 : decode cMo_writeOut 120 = .ok (.putfield 98, 3) := by decide +kernel
theorem dMo_writeOut_123 : decode cMo_writeOut 123 = .ok (.aload_n 0, 1) := by decide +kernel
theorem dMo_writeOut_124 : decode cMo_writeOut 124 = .ok (.sipush 799, 3) := by decide +kernel
theorem dMo_writeOut_127 : decode cMo_writeOut 127 = .ok (.putfield 95, 3) := by decide +kernel
theorem dMo_writeOut_130 : decode cMo_writeOut 130 = .ok (.aload_n 0, 1) := by decide +kernel
theorem dMo_writeOut_131 : decode cMo_writeOut 131 = .ok (.getfield 98, 3) := by decide +kernel
theorem dMo_writeOut_134 : decode cMo_writeOut 134 = .ok (.bipush 54, 2) := by decide +kernel
theorem dMo_writeOut_136 : decode cMo_writeOut 136 = .ok (.if_icmp .ge 28, 3) := by decide +kernel
theorem dMo_writeOut_139 : decode cMo_writeOut 139 = .ok (.aload_n 0, 1) := by decide +kernel
theorem dMo_writeOut_140 : decode cMo_writeOut 140 = .ok (.getfield 16, 3) := by decide +kernel
theorem dMo_writeOut_143 : decode cMo_writeOut 143 = .ok (.aload_n 0, 1) := by decide +kernel
theorem dMo_writeOut_144 : decode cMo_writeOut 144 = .ok (.getfield 98, 3) := by decide +kernel
theorem dMo_writeOut_147 : decode cMo_writeOut 147 = .ok (.iaload, 1) := by decide +kernel
theorem dMo_writeOut_148 : decode cMo_writeOut 148 = .ok (.ifCond .ne 16, 3) := by decide +kernel
theorem dMo_writeOut_151 : decode cMo_writeOut 151 = .ok (.aload_n 0, 1) := by decide +kernel
theorem dMo_writeOut_152 : decode cMo_writeOut 152 = .ok (.dup, 1) := by decide +kernel
theorem dMo_writeOut_153 : decode cMo_writeOut 153 = .ok (.getfield 98, 3) := by decide +kernel
theorem dMo_writeOut_156 : decode cMo_writeOut 156 = .ok (.iconst 1, 1) := by decide +kernel
theorem dMo_writeOut_157 : decode cMo_writeOut 157 = .ok (.iadd, 1) := by decide +kernel
theorem dMo_writeOut_158 : decode cMo_writeOut 158 = .ok (.putfield 98, 3) := by decide +kernel
theorem dMo_writeOut_161 : decode cMo_writeOut 161 = .ok (.goto (-31), 3) := by decide +kernel
theorem dMo_writeOut_164 : decode cMo_writeOut 164 = .ok (.aload_n 0, 1) := by decide +kernel
theorem dMo_writeOut_165 : decode cMo_writeOut 165 = .ok (.getfield 95, 3) := by decide +kernel
theorem dMo_writeOut_168 : decode cMo_writeOut 168 = .ok (.bipush 54, 2) := by decide +kernel
theorem dMo_writeOut_170 : decode cMo_writeOut 170 = .ok (.if_icmp .le 28, 3) := by decide +kernel
theorem dMo_writeOut_173 : decode cMo_writeOut 173 = .ok (.aload_n 0, 1) := by decide +kernel
theorem dMo_writeOut_174 : decode cMo_writeOut 174 = .ok (.getfield 16, 3) := by decide +kernel
theorem dMo_writeOut_177 : decode cMo_writeOut 177 = .ok (.aload_n 0, 1) := by decide +kernel
theorem dMo_writeOut_178 : decode cMo_writeOut 178 = .ok (.getfield 95, 3) := by decide +kernel
theorem dMo_writeOut_181 : decode cMo_writeOut 181 = .ok (.iaload, 1) := by decide +kernel
theorem dMo_writeOut_182 : decode cMo_writeOut 182 = .ok (.ifCond .ne 16, 3) := by decide +kernel
theorem dMo_writeOut_185 : decode cMo_writeOut 185 = .ok (.aload_n 0, 1) := by decide +kernel
theorem dMo_writeOut_186 : decode cMo_writeOut 186 = .ok (.dup, 1) := by decide +kernel
theorem dMo_writeOut_187 : decode cMo_writeOut 187 = .ok (.getfield 95, 3) := by decide +kernel
theorem dMo_writeOut_190 : decode cMo_writeOut 190 = .ok (.iconst 1, 1) := by decide +kernel
theorem dMo_writeOut_191 : decode cMo_writeOut 191 = .ok (.isub, 1) := by decide +kernel
theorem dMo_writeOut_192 : decode cMo_writeOut 192 = .ok (.putfield 95, 3) := by decide +kernel
theorem dMo_writeOut_195 : decode cMo_writeOut 195 = .ok (.goto (-31), 3) := by decide +kernel
theorem dMo_writeOut_198 : decode cMo_writeOut 198 = .ok (.return_, 1) := by decide +kernel
theorem dMo_wholePart_0 : decode cMo_wholePart 0 = .ok (.aload_n 0, 1) := by decide +kernel
theorem dMo_wholePart_1 : decode cMo_wholePart 1 = .ok (.getfield 98, 3) := by decide +kernel
theorem dMo_wholePart_4 : decode cMo_wholePart 4 = .ok (.bipush 53, 2) := by decide +kernel
theorem dMo_wholePart_6 : decode cMo_wholePart 6 = .ok (.if_icmp .ge 9, 3) := by decide +kernel
theorem dMo_wholePart_9 : decode cMo_wholePart 9 = .ok (.ldc2_w 103, 3) := by decide +kernel
theorem dMo_wholePart_12 : decode cMo_wholePart 12 = .ok (.goto 4, 3) := by decide +kernel
theorem dMo_wholePart_15 : decode cMo_wholePart 15 = .ok (.lconst 0, 1) := by decide +kernel
theorem dMo_wholePart_16 : decode cMo_wholePart 16 = .ok (.lstore_n 1, 1) := by decide +kernel
theorem dMo_wholePart_17 : decode cMo_wholePart 17 = .ok (.lload_n 1, 1) := by decide +kernel
theorem dMo_wholePart_18 : decode cMo_wholePart 18 = .ok (.lconst 0, 1) := by decide +kernel
theorem dMo_wholePart_19 : decode cMo_wholePart 19 = .ok (.lcmp, 1) := by decide +kernel
theorem dMo_wholePart_20 : decode cMo_wholePart 20 = .ok (.ifCond .le 7, 3) := by decide +kernel
theorem dMo_wholePart_23 : decode cMo_wholePart 23 = .ok (.lload_n 1, 1) := by decide +kernel
theorem dMo_wholePart_24 : decode cMo_wholePart 24 = .ok (.goto 37, 3) := by decide +kernel
theorem dMo_wholePart_27 : decode cMo_wholePart 27 = .ok (.aload_n 0, 1) := by decide +kernel
theorem dMo_wholePart_28 : decode cMo_wholePart 28 = .ok (.getfield 98, 3) := by decide +kernel
theorem dMo_wholePart_31 : decode cMo_wholePart 31 = .ok (.bipush 54, 2) := by decide +kernel
theorem dMo_wholePart_33 : decode cMo_wholePart 33 = .ok (.if_icmp .ge 18, 3) := by decide +kernel
theorem dMo_wholePart_36 : decode cMo_wholePart 36 = .ok (.ldc2_w 105, 3) := by decide +kernel
theorem dMo_wholePart_39 : decode cMo_wholePart 39 = .ok (.aload_n 0, 1) := by decide +kernel
theorem dMo_wholePart_40 : decode cMo_wholePart 40 = .ok (.getfield 16, 3) := by decide +kernel
theorem dMo_wholePart_43 : decode cMo_wholePart 43 = .ok (.bipush 53, 2) := by decide +kernel
theorem dMo_wholePart_45 : decode cMo_wholePart 45 = .ok (.iaload, 1) := by decide +kernel
theorem dMo_wholePart_46 : decode cMo_wholePart 46 = .ok (.i2l, 1) := by decide +kernel
theorem dMo_wholePart_47 : decode cMo_wholePart 47 = .ok (.lmul, 1) := by decide +kernel
theorem dMo_wholePart_48 : decode cMo_wholePart 48 = .ok (.goto 4, 3) := by decide +kernel
theorem dMo_wholePart_51 : decode cMo_wholePart 51 = .ok (.lconst 0, 1) := by decide +kernel
theorem dMo_wholePart_52 : decode cMo_wholePart 52 = .ok (.aload_n 0, 1) := by decide +kernel
theorem dMo_wholePart_53 : decode cMo_wholePart 53 = .ok (.getfield 16, 3) := by decide +kernel
theorem dMo_wholePart_56 : decode cMo_wholePart 56 = .ok (.bipush 54, 2) := by decide +kernel
theorem dMo_wholePart_58 : decode cMo_wholePart 58 = .ok (.iaload, 1) := by decide +kernel
theorem dMo_wholePart_59 : decode cMo_wholePart 59 = .ok (.i2l, 1) := by decide +kernel
theorem dMo_wholePart_60 : decode cMo_wholePart 60 = .ok (.ladd, 1) := by decide +kernel
theorem dMo_wholePart_61 : decode cMo_wholePart 61 = .ok (.lreturn, 1) := by decide +kernel
theorem dMo_half_0 : decode cMo_half 0 = .ok (.iconst 0, 1) := by decide +kernel
theorem dMo_half_1 : decode cMo_half 1 = .ok (.istore_n 1, 1) := by decide +kernel
theorem dMo_half_2 : decode cMo_half 2 = .ok (.aload_n 0, 1) := by decide +kernel
theorem dMo_half_3 : decode cMo_half 3 = .ok (.getfield 98, 3) := by decide +kernel
theorem dMo_half_6 : decode cMo_half 6 = .ok (.istore_n 2, 1) := by decide +kernel
theorem dMo_half_7 : decode cMo_half 7 = .ok (.iload_n 2, 1) := by decide +kernel
theorem dMo_half_8 : decode cMo_half 8 = .ok (.aload_n 0, 1) := by decide +kernel
theorem dMo_half_9 : decode cMo_half 9 = .ok (.getfield 95, 3) := by decide +kernel
theorem dMo_half_12 : decode cMo_half 12 = .ok (.if_icmp .gt 34, 3) := by decide +kernel
theorem dMo_half_15 : decode cMo_half 15 = .ok (.aload_n 0, 1) := by decide +kernel
theorem dMo_half_16 : decode cMo_half 16 = .ok (.getfield 16, 3) := by decide +kernel
theorem dMo_half_19 : decode cMo_half 19 = .ok (.iload_n 2, 1) := by decide +kernel
theorem dMo_half_20 : decode cMo_half 20 = .ok (.iaload, 1) := by decide +kernel
theorem dMo_half_21 : decode cMo_half 21 = .ok (.iload_n 1, 1) := by decide +kernel
theorem dMo_half_22 : decode cMo_half 22 = .ok (.ldc 101, 2) := by decide +kernel
theorem dMo_half_24 : decode cMo_half 24 = .ok (.imul, 1) := by decide +kernel
theorem dMo_half_25 : decode cMo_half 25 = .ok (.iadd, 1) := by decide +kernel
theorem dMo_half_26 : decode cMo_half 26 = .ok (.istore_n 3, 1) := by decide +kernel
theorem dMo_half_27 : decode cMo_half 27 = .ok (.aload_n 0, 1) := by decide +kernel
theorem dMo_half_28 : decode cMo_half 28 = .ok (.getfield 16, 3) := by decide +kernel
theorem dMo_half_31 : decode cMo_half 31 = .ok (.iload_n 2, 1) := by decide +kernel
theorem dMo_half_32 : decode cMo_half 32 = .ok (.iload_n 3, 1) := by decide +kernel
theorem dMo_half_33 : decode cMo_half 33 = .ok (.iconst 2, 1) := by decide +kernel
theorem dMo_half_34 : decode cMo_half 34 = .ok (.idiv, 1) := by decide +kernel
theorem dMo_half_35 : decode cMo_half 35 = .ok (.iastore, 1) := by decide +kernel
theorem dMo_half_36 : decode cMo_half 36 = .ok (.iload_n 3, 1) := by decide +kernel
theorem dMo_half_37 : decode cMo_half 37 = .ok (.iconst 2, 1) := by decide +kernel
theorem dMo_half_38 : decode cMo_half 38 = .ok (.irem, 1) := by decide +kernel
theorem dMo_half_39 : decode cMo_half 39 = .ok (.istore_n 1, 1) := by decide +kernel
theorem dMo_half_40 : decode cMo_half 40 = .ok (.iinc 2 1, 3) := by decide +kernel
theorem dMo_half_43 : decode cMo_half 43 = .ok (.goto (-36), 3) := by decide +kernel
theorem dMo_half_46 : decode cMo_half 46 = .ok (.iload_n 1, 1) := by decide +kernel
theorem dMo_half_47 : decode cMo_half 47 = .ok (.ifCond .le 24, 3) := by decide +kernel
theorem dMo_half_50 : decode cMo_half 50 = .ok (.aload_n 0, 1) := by decide +kernel
theorem dMo_half_51 : decode cMo_half 51 = .ok (.dup, 1) := by decide +kernel
theorem dMo_half_52 : decode cMo_half 52 = .ok (.getfield 95, 3) := by decide +kernel
theorem dMo_half_55 : decode cMo_half 55 = .ok (.iconst 1, 1) := by decide +kernel
theorem dMo_half_56 : decode cMo_half 56 = .ok (.iadd, 1) := by decide +kernel
theorem dMo_half_57 : decode cMo_half 57 = .ok (.putfield 95, 3) := by decide +kernel
theorem dMo_half_60 : decode cMo_half 60 = .ok (.aload_n 0, 1) := by decide +kernel
theorem dMo_half_61 : decode cMo_half 61 = .ok (.getfield 16, 3) := by decide +kernel
theorem dMo_half_64 : decode cMo_half 64 = .ok (.aload_n 0, 1) := by decide +kernel
theorem dMo_half_65 : decode cMo_half 65 = .ok (.getfield 95, 3) := by decide +kernel
theorem dMo_half_68 : decode cMo_half 68 = .ok (.ldc 102, 2) := by decide +kernel
theorem dMo_half_70 : decode cMo_half 70 = .ok (.iastore, 1) := by decide +kernel
theorem dMo_half_71 : decode cMo_half 71 = .ok (.aload_n 0, 1) := by decide +kernel
theorem dMo_half_72 : decode cMo_half 72 = .ok (.getfield 98, 3) := by decide +kernel
theorem dMo_half_75 : decode cMo_half 75 = .ok (.bipush 54, 2) := by decide +kernel
theorem dMo_half_77 : decode cMo_half 77 = .ok (.if_icmp .ge 28, 3) := by decide +kernel
theorem dMo_half_80 : decode cMo_half 80 = .ok (.aload_n 0, 1) := by decide +kernel
theorem dMo_half_81 : decode cMo_half 81 = .ok (.getfield 16, 3) := by decide +kernel
theorem dMo_half_84 : decode cMo_half 84 = .ok (.aload_n 0, 1) := by decide +kernel
theorem dMo_half_85 : decode cMo_half 85 = .ok (.getfield 98, 3) := by decide +kernel
theorem dMo_half_88 : decode cMo_half 88 = .ok (.iaload, 1) := by decide +kernel
theorem dMo_half_89 : decode cMo_half 89 = .ok (.ifCond .ne 16, 3) := by decide +kernel
theorem dMo_half_92 : decode cMo_half 92 = .ok (.aload_n 0, 1) := by decide +kernel
theorem dMo_half_93 : decode cMo_half 93 = .ok (.dup, 1) := by decide +kernel
theorem dMo_half_94 : decode cMo_half 94 = .ok (.getfield 98, 3) := by decide +kernel
theorem dMo_half_97 : decode cMo_half 97 = .ok (.iconst 1, 1) := by decide +kernel
theorem dMo_half_98 : decode cMo_half 98 = .ok (.iadd, 1) := by decide +kernel
theorem dMo_half_99 : decode cMo_half 99 = .ok (.putfield 98, 3) := by decide +kernel
theorem dMo_half_102 : decode cMo_half 102 = .ok (.goto (-31), 3) := by decide +kernel
theorem dMo_half_105 : decode cMo_half 105 = .ok (.return_, 1) := by decide +kernel
theorem dMo_twice_0 : decode cMo_twice 0 = .ok (.iconst 0, 1) := by decide +kernel
theorem dMo_twice_1 : decode cMo_twice 1 = .ok (.istore_n 1, 1) := by decide +kernel
theorem dMo_twice_2 : decode cMo_twice 2 = .ok (.aload_n 0, 1) := by decide +kernel
theorem dMo_twice_3 : decode cMo_twice 3 = .ok (.getfield 95, 3) := by decide +kernel
theorem dMo_twice_6 : decode cMo_twice 6 = .ok (.istore_n 2, 1) := by decide +kernel
theorem dMo_twice_7 : decode cMo_twice 7 = .ok (.iload_n 2, 1) := by decide +kernel
theorem dMo_twice_8 : decode cMo_twice 8 = .ok (.aload_n 0, 1) := by decide +kernel
theorem dMo_twice_9 : decode cMo_twice 9 = .ok (.getfield 98, 3) := by decide +kernel
theorem dMo_twice_12 : decode cMo_twice 12 = .ok (.if_icmp .lt 35, 3) := by decide +kernel
theorem dMo_twice_15 : decode cMo_twice 15 = .ok (.iconst 2, 1) := by decide +kernel
theorem dMo_twice_16 : decode cMo_twice 16 = .ok (.aload_n 0, 1) := by decide +kernel
theorem dMo_twice_17 : decode cMo_twice 17 = .ok (.getfield 16, 3) := by decide +kernel
theorem dMo_twice_20 : decode cMo_twice 20 = .ok (.iload_n 2, 1) := by decide +kernel
theorem dMo_twice_21 : decode cMo_twice 21 = .ok (.iaload, 1) := by decide +kernel
theorem dMo_twice_22 : decode cMo_twice 22 = .ok (.imul, 1) := by decide +kernel
theorem dMo_twice_23 : decode cMo_twice 23 = .ok (.iload_n 1, 1) := by decide +kernel
theorem dMo_twice_24 : decode cMo_twice 24 = .ok (.iadd, 1) := by decide +kernel
theorem dMo_twice_25 : decode cMo_twice 25 = .ok (.istore_n 3, 1) := by decide +kernel
theorem dMo_twice_26 : decode cMo_twice 26 = .ok (.aload_n 0, 1) := by decide +kernel
theorem dMo_twice_27 : decode cMo_twice 27 = .ok (.getfield 16, 3) := by decide +kernel
theorem dMo_twice_30 : decode cMo_twice 30 = .ok (.iload_n 2, 1) := by decide +kernel
theorem dMo_twice_31 : decode cMo_twice 31 = .ok (.iload_n 3, 1) := by decide +kernel
theorem dMo_twice_32 : decode cMo_twice 32 = .ok (.ldc 101, 2) := by decide +kernel
theorem dMo_twice_34 : decode cMo_twice 34 = .ok (.irem, 1) := by decide +kernel
theorem dMo_twice_35 : decode cMo_twice 35 = .ok (.iastore, 1) := by decide +kernel
theorem dMo_twice_36 : decode cMo_twice 36 = .ok (.iload_n 3, 1) := by decide +kernel
theorem dMo_twice_37 : decode cMo_twice 37 = .ok (.ldc 101, 2) := by decide +kernel
theorem dMo_twice_39 : decode cMo_twice 39 = .ok (.idiv, 1) := by decide +kernel
theorem dMo_twice_40 : decode cMo_twice 40 = .ok (.istore_n 1, 1) := by decide +kernel
theorem dMo_twice_41 : decode cMo_twice 41 = .ok (.iinc 2 (-1), 3) := by decide +kernel
theorem dMo_twice_44 : decode cMo_twice 44 = .ok (.goto (-37), 3) := by decide +kernel
theorem dMo_twice_47 : decode cMo_twice 47 = .ok (.iload_n 1, 1) := by decide +kernel
theorem dMo_twice_48 : decode cMo_twice 48 = .ok (.ifCond .le 23, 3) := by decide +kernel
theorem dMo_twice_51 : decode cMo_twice 51 = .ok (.aload_n 0, 1) := by decide +kernel
theorem dMo_twice_52 : decode cMo_twice 52 = .ok (.dup, 1) := by decide +kernel
theorem dMo_twice_53 : decode cMo_twice 53 = .ok (.getfield 98, 3) := by decide +kernel
theorem dMo_twice_56 : decode cMo_twice 56 = .ok (.iconst 1, 1) := by decide +kernel
theorem dMo_twice_57 : decode cMo_twice 57 = .ok (.isub, 1) := by decide +kernel
theorem dMo_twice_58 : decode cMo_twice 58 = .ok (.putfield 98, 3) := by decide +kernel
theorem dMo_twice_61 : decode cMo_twice 61 = .ok (.aload_n 0, 1) := by decide +kernel
theorem dMo_twice_62 : decode cMo_twice 62 = .ok (.getfield 16, 3) := by decide +kernel
theorem dMo_twice_65 : decode cMo_twice 65 = .ok (.aload_n 0, 1) := by decide +kernel
theorem dMo_twice_66 : decode cMo_twice 66 = .ok (.getfield 98, 3) := by decide +kernel
theorem dMo_twice_69 : decode cMo_twice 69 = .ok (.iload_n 1, 1) := by decide +kernel
theorem dMo_twice_70 : decode cMo_twice 70 = .ok (.iastore, 1) := by decide +kernel
theorem dMo_twice_71 : decode cMo_twice 71 = .ok (.aload_n 0, 1) := by decide +kernel
theorem dMo_twice_72 : decode cMo_twice 72 = .ok (.getfield 95, 3) := by decide +kernel
theorem dMo_twice_75 : decode cMo_twice 75 = .ok (.bipush 54, 2) := by decide +kernel
theorem dMo_twice_77 : decode cMo_twice 77 = .ok (.if_icmp .le 28, 3) := by decide +kernel
theorem dMo_twice_80 : decode cMo_twice 80 = .ok (.aload_n 0, 1) := by decide +kernel
theorem dMo_twice_81 : decode cMo_twice 81 = .ok (.getfield 16, 3) := by decide +kernel
theorem dMo_twice_84 : decode cMo_twice 84 = .ok (.aload_n 0, 1) := by decide +kernel
theorem dMo_twice_85 : decode cMo_twice 85 = .ok (.getfield 95, 3) := by decide +kernel
theorem dMo_twice_88 : decode cMo_twice 88 = .ok (.iaload, 1) := by decide +kernel
theorem dMo_twice_89 : decode cMo_twice 89 = .ok (.ifCond .ne 16, 3) := by decide +kernel
theorem dMo_twice_92 : decode cMo_twice 92 = .ok (.aload_n 0, 1) := by decide +kernel
theorem dMo_twice_93 : decode cMo_twice 93 = .ok (.dup, 1) := by decide +kernel
theorem dMo_twice_94 : decode cMo_twice 94 = .ok (.getfield 95, 3) := by decide +kernel
theorem dMo_twice_97 : decode cMo_twice 97 = .ok (.iconst 1, 1) := by decide +kernel
theorem dMo_twice_98 : decode cMo_twice 98 = .ok (.isub, 1) := by decide +kernel
theorem dMo_twice_99 : decode cMo_twice 99 = .ok (.putfield 95, 3) := by decide +kernel
theorem dMo_twice_102 : decode cMo_twice 102 = .ok (.goto (-31), 3) := by decide +kernel
theorem dMo_twice_105 : decode cMo_twice 105 = .ok (.return_, 1) := by decide +kernel
theorem dMo_findHexadecimal_0 : decode cMo_findHexadecimal 0 = .ok (.aload_n 0, 1) := by decide +kernel
theorem dMo_findHexadecimal_1 : decode cMo_findHexadecimal 1 = .ok (.getfield 13, 3) := by decide +kernel
theorem dMo_findHexadecimal_4 : decode cMo_findHexadecimal 4 = .ok (.iload_n 1, 1) := by decide +kernel
theorem dMo_findHexadecimal_5 : decode cMo_findHexadecimal 5 = .ok (.iaload, 1) := by decide +kernel
theorem dMo_findHexadecimal_6 : decode cMo_findHexadecimal 6 = .ok (.bipush 8, 2) := by decide +kernel
theorem dMo_findHexadecimal_8 : decode cMo_findHexadecimal 8 = .ok (.if_icmp .lt 7, 3) := by decide +kernel
theorem dMo_findHexadecimal_11 : decode cMo_findHexadecimal 11 = .ok (.iconst 4, 1) := by decide +kernel
theorem dMo_findHexadecimal_12 : decode cMo_findHexadecimal 12 = .ok (.goto 32, 3) := by decide +kernel
theorem dMo_findHexadecimal_15 : decode cMo_findHexadecimal 15 = .ok (.aload_n 0, 1) := by decide +kernel
theorem dMo_findHexadecimal_16 : decode cMo_findHexadecimal 16 = .ok (.getfield 13, 3) := by decide +kernel
theorem dMo_findHexadecimal_19 : decode cMo_findHexadecimal 19 = .ok (.iload_n 1, 1) := by decide +kernel
theorem dMo_findHexadecimal_20 : decode cMo_findHexadecimal 20 = .ok (.iaload, 1) := by decide +kernel
theorem dMo_findHexadecimal_21 : decode cMo_findHexadecimal 21 = .ok (.iconst 4, 1) := by decide +kernel
theorem dMo_findHexadecimal_22 : decode cMo_findHexadecimal 22 = .ok (.if_icmp .lt 7, 3) := by decide +kernel
theorem dMo_findHexadecimal_25 : decode cMo_findHexadecimal 25 = .ok (.iconst 3, 1) := by decide +kernel
theorem dMo_findHexadecimal_26 : decode cMo_findHexadecimal 26 = .ok (.goto 18, 3) := by decide +kernel
theorem dMo_findHexadecimal_29 : decode cMo_findHexadecimal 29 = .ok (.aload_n 0, 1) := by decide +kernel
theorem dMo_findHexadecimal_30 : decode cMo_findHexadecimal 30 = .ok (.getfield 13, 3) := by decide +kernel
theorem dMo_findHexadecimal_33 : decode cMo_findHexadecimal 33 = .ok (.iload_n 1, 1) := by decide +kernel
theorem dMo_findHexadecimal_34 : decode cMo_findHexadecimal 34 = .ok (.iaload, 1) := by decide +kernel
theorem dMo_findHexadecimal_35 : decode cMo_findHexadecimal 35 = .ok (.iconst 2, 1) := by decide +kernel
theorem dMo_findHexadecimal_36 : decode cMo_findHexadecimal 36 = .ok (.if_icmp .lt 7, 3) := by decide +kernel
theorem dMo_findHexadecimal_39 : decode cMo_findHexadecimal 39 = .ok (.iconst 2, 1) := by decide +kernel
theorem dMo_findHexadecimal_40 : decode cMo_findHexadecimal 40 = .ok (.goto 4, 3) := by decide +kernel
theorem dMo_findHexadecimal_43 : decode cMo_findHexadecimal 43 = .ok (.iconst 1, 1) := by decide +kernel
theorem dMo_findHexadecimal_44 : decode cMo_findHexadecimal 44 = .ok (.istore 4, 2) := by decide +kernel
theorem dMo_findHexadecimal_46 : decode cMo_findHexadecimal 46 = .ok (.ldc2_w 137, 3) := by decide +kernel
theorem dMo_findHexadecimal_49 : decode cMo_findHexadecimal 49 = .ok (.aload_n 0, 1) := by decide +kernel
theorem dMo_findHexadecimal_50 : decode cMo_findHexadecimal 50 = .ok (.getfield 42, 3) := by decide +kernel
theorem dMo_findHexadecimal_53 : decode cMo_findHexadecimal 53 = .ok (.iload_n 1, 1) := by decide +kernel
theorem dMo_findHexadecimal_54 : decode cMo_findHexadecimal 54 = .ok (.isub, 1) := by decide +kernel
theorem dMo_findHexadecimal_55 : decode cMo_findHexadecimal 55 = .ok (.i2l, 1) := by decide +kernel
theorem dMo_findHexadecimal_56 : decode cMo_findHexadecimal 56 = .ok (.lmul, 1) := by decide +kernel
theorem dMo_findHexadecimal_57 : decode cMo_findHexadecimal 57 = .ok (.ldc2_w 141, 3) := by decide +kernel
theorem dMo_findHexadecimal_60 : decode cMo_findHexadecimal 60 = .ok (.lsub, 1) := by decide +kernel
theorem dMo_findHexadecimal_61 : decode cMo_findHexadecimal 61 = .ok (.iload 4, 2) := by decide +kernel
theorem dMo_findHexadecimal_63 : decode cMo_findHexadecimal 63 = .ok (.i2l, 1) := by decide +kernel
theorem dMo_findHexadecimal_64 : decode cMo_findHexadecimal 64 = .ok (.ladd, 1) := by decide +kernel
theorem dMo_findHexadecimal_65 : decode cMo_findHexadecimal 65 = .ok (.aload_n 0, 1) := by decide +kernel
theorem dMo_findHexadecimal_66 : decode cMo_findHexadecimal 66 = .ok (.getfield 49, 3) := by decide +kernel
theorem dMo_findHexadecimal_69 : decode cMo_findHexadecimal 69 = .ok (.ladd, 1) := by decide +kernel
theorem dMo_findHexadecimal_70 : decode cMo_findHexadecimal 70 = .ok (.lstore 5, 2) := by decide +kernel
theorem dMo_findHexadecimal_72 : decode cMo_findHexadecimal 72 = .ok (.aload_n 0, 1) := by decide +kernel
theorem dMo_findHexadecimal_73 : decode cMo_findHexadecimal 73 = .ok (.lload 5, 2) := by decide +kernel
theorem dMo_findHexadecimal_75 : decode cMo_findHexadecimal 75 = .ok (.ldc2_w 143, 3) := by decide +kernel
theorem dMo_findHexadecimal_78 : decode cMo_findHexadecimal 78 = .ok (.lcmp, 1) := by decide +kernel
theorem dMo_findHexadecimal_79 : decode cMo_findHexadecimal 79 = .ok (.ifCond .le 7, 3) := by decide +kernel
theorem dMo_findHexadecimal_82 : decode cMo_findHexadecimal 82 = .ok (.iconst 1, 1) := by decide +kernel
theorem dMo_findHexadecimal_83 : decode cMo_findHexadecimal 83 = .ok (.goto 4, 3) := by decide +kernel
theorem dMo_findHexadecimal_86 : decode cMo_findHexadecimal 86 = .ok (.iconst 0, 1) := by decide +kernel
theorem dMo_findHexadecimal_87 : decode cMo_findHexadecimal 87 = .ok (.putfield 109, 3) := by decide +kernel
theorem dMo_findHexadecimal_90 : decode cMo_findHexadecimal 90 = .ok (.aload_n 0, 1) := by decide +kernel
theorem dMo_findHexadecimal_91 : decode cMo_findHexadecimal 91 = .ok (.lconst 0, 1) := by decide +kernel
theorem dMo_findHexadecimal_92 : decode cMo_findHexadecimal 92 = .ok (.putfield 114, 3) := by decide +kernel
theorem dMo_findHexadecimal_95 : decode cMo_findHexadecimal 95 = .ok (.aload_n 0, 1) := by decide +kernel
theorem dMo_findHexadecimal_96 : decode cMo_findHexadecimal 96 = .ok (.iload_n 3, 1) := by decide +kernel
theorem dMo_findHexadecimal_97 : decode cMo_findHexadecimal 97 = .ok (.i2l, 1) := by decide +kernel
theorem dMo_findHexadecimal_98 : decode cMo_findHexadecimal 98 = .ok (.putfield 117, 3) := by decide +kernel
theorem dMo_findHexadecimal_101 : decode cMo_findHexadecimal 101 = .ok (.aload_n 0, 1) := by decide +kernel
theorem dMo_findHexadecimal_102 : decode cMo_findHexadecimal 102 = .ok (.iconst 1, 1) := by decide +kernel
theorem dMo_findHexadecimal_103 : decode cMo_findHexadecimal 103 = .ok (.putfield 120, 3) := by decide +kernel
theorem dMo_findHexadecimal_106 : decode cMo_findHexadecimal 106 = .ok (.aload_n 0, 1) := by decide +kernel
theorem dMo_findHexadecimal_107 : decode cMo_findHexadecimal 107 = .ok (.getfield 109, 3) := by decide +kernel
theorem dMo_findHexadecimal_110 : decode cMo_findHexadecimal 110 = .ok (.ifCond .ne 12, 3) := by decide +kernel
theorem dMo_findHexadecimal_113 : decode cMo_findHexadecimal 113 = .ok (.lload 5, 2) := by decide +kernel
theorem dMo_findHexadecimal_115 : decode cMo_findHexadecimal 115 = .ok (.ldc2_w 145, 3) := by decide +kernel
theorem dMo_findHexadecimal_118 : decode cMo_findHexadecimal 118 = .ok (.lcmp, 1) := by decide +kernel
theorem dMo_findHexadecimal_119 : decode cMo_findHexadecimal 119 = .ok (.ifCond .ge 4, 3) := by decide +kernel
theorem dMo_findHexadecimal_122 : decode cMo_findHexadecimal 122 = .ok (.return_, 1) := by decide +kernel
theorem dMo_findHexadecimal_123 : decode cMo_findHexadecimal 123 = .ok (.aload_n 0, 1) := by decide +kernel
theorem dMo_findHexadecimal_124 : decode cMo_findHexadecimal 124 = .ok (.lload 5, 2) := by decide +kernel
theorem dMo_findHexadecimal_126 : decode cMo_findHexadecimal 126 = .ok (.iload_n 2, 1) := by decide +kernel
theorem dMo_findHexadecimal_127 : decode cMo_findHexadecimal 127 = .ok (.i2l, 1) := by decide +kernel
theorem dMo_findHexadecimal_128 : decode cMo_findHexadecimal 128 = .ok (.lsub, 1) := by decide +kernel
theorem dMo_findHexadecimal_129 : decode cMo_findHexadecimal 129 = .ok (.lconst 1, 1) := by decide +kernel
theorem dMo_findHexadecimal_130 : decode cMo_findHexadecimal 130 = .ok (.ladd, 1) := by decide +kernel
theorem dMo_findHexadecimal_131 : decode cMo_findHexadecimal 131 = .ok (.iload_n 3, 1) := by decide +kernel
theorem dMo_findHexadecimal_132 : decode cMo_findHexadecimal 132 = .ok (.i2l, 1) := by decide +kernel
theorem dMo_findHexadecimal_133 : decode cMo_findHexadecimal 133 = .ok (.lcmp, 1) := by decide +kernel
theorem dMo_findHexadecimal_134 : decode cMo_findHexadecimal 134 = .ok (.ifCond .le 13, 3) := by decide +kernel
theorem dMo_findHexadecimal_137 : decode cMo_findHexadecimal 137 = .ok (.lload 5, 2) := by decide +kernel
theorem dMo_findHexadecimal_139 : decode cMo_findHexadecimal 139 = .ok (.iload_n 2, 1) := by decide +kernel
theorem dMo_findHexadecimal_140 : decode cMo_findHexadecimal 140 = .ok (.i2l, 1) := by decide +kernel
theorem dMo_findHexadecimal_141 : decode cMo_findHexadecimal 141 = .ok (.lsub, 1) := by decide +kernel
theorem dMo_findHexadecimal_142 : decode cMo_findHexadecimal 142 = .ok (.lconst 1, 1) := by decide +kernel
theorem dMo_findHexadecimal_143 : decode cMo_findHexadecimal 143 = .ok (.ladd, 1) := by decide +kernel
theorem dMo_findHexadecimal_144 : decode cMo_findHexadecimal 144 = .ok (.goto 5, 3) := by decide +kernel
theorem dMo_findHexadecimal_147 : decode cMo_findHexadecimal 147 = .ok (.iload_n 3, 1) := by decide +kernel
theorem dMo_findHexadecimal_148 : decode cMo_findHexadecimal 148 = .ok (.i2l, 1) := by decide +kernel
theorem dMo_findHexadecimal_149 : decode cMo_findHexadecimal 149 = .ok (.putfield 117, 3) := by decide +kernel
theorem dMo_findHexadecimal_152 : decode cMo_findHexadecimal 152 = .ok (.lload 5, 2) := by decide +kernel
theorem dMo_findHexadecimal_154 : decode cMo_findHexadecimal 154 = .ok (.lstore 7, 2) := by decide +kernel
theorem dMo_findHexadecimal_156 : decode cMo_findHexadecimal 156 = .ok (.lload 7, 2) := by decide +kernel
theorem dMo_findHexadecimal_158 : decode cMo_findHexadecimal 158 = .ok (.aload_n 0, 1) := by decide +kernel
theorem dMo_findHexadecimal_159 : decode cMo_findHexadecimal 159 = .ok (.getfield 117, 3) := by decide +kernel
theorem dMo_findHexadecimal_162 : decode cMo_findHexadecimal 162 = .ok (.lcmp, 1) := by decide +kernel
theorem dMo_findHexadecimal_163 : decode cMo_findHexadecimal 163 = .ok (.ifCond .lt 32, 3) := by decide +kernel
theorem dMo_findHexadecimal_166 : decode cMo_findHexadecimal 166 = .ok (.aload_n 0, 1) := by decide +kernel
theorem dMo_findHexadecimal_167 : decode cMo_findHexadecimal 167 = .ok (.ldc2_w 147, 3) := by decide +kernel
theorem dMo_findHexadecimal_170 : decode cMo_findHexadecimal 170 = .ok (.aload_n 0, 1) := by decide +kernel
theorem dMo_findHexadecimal_171 : decode cMo_findHexadecimal 171 = .ok (.getfield 114, 3) := by decide +kernel
theorem dMo_findHexadecimal_174 : decode cMo_findHexadecimal 174 = .ok (.lmul, 1) := by decide +kernel
theorem dMo_findHexadecimal_175 : decode cMo_findHexadecimal 175 = .ok (.aload_n 0, 1) := by decide +kernel
theorem dMo_findHexadecimal_176 : decode cMo_findHexadecimal 176 = .ok (.lload 7, 2) := by decide +kernel
theorem dMo_findHexadecimal_178 : decode cMo_findHexadecimal 178 = .ok (.invokevirtual 149, 3) := by decide +kernel
theorem dMo_findHexadecimal_181 : decode cMo_findHexadecimal 181 = .ok (.i2l, 1) := by decide +kernel
theorem dMo_findHexadecimal_182 : decode cMo_findHexadecimal 182 = .ok (.ladd, 1) := by decide +kernel
theorem dMo_findHexadecimal_183 : decode cMo_findHexadecimal 183 = .ok (.putfield 114, 3) := by decide +kernel
theorem dMo_findHexadecimal_186 : decode cMo_findHexadecimal 186 = .ok (.lload 7, 2) := by decide +kernel
theorem dMo_findHexadecimal_188 : decode cMo_findHexadecimal 188 = .ok (.lconst 1, 1) := by decide +kernel
theorem dMo_findHexadecimal_189 : decode cMo_findHexadecimal 189 = .ok (.lsub, 1) := by decide +kernel
theorem dMo_findHexadecimal_190 : decode cMo_findHexadecimal 190 = .ok (.lstore 7, 2) := by decide +kernel
theorem dMo_findHexadecimal_192 : decode cMo_findHexadecimal 192 = .ok (.goto (-36), 3) := by decide +kernel
theorem dMo_findHexadecimal_195 : decode cMo_findHexadecimal 195 = .ok (.iconst 0, 1) := by decide +kernel
theorem dMo_findHexadecimal_196 : decode cMo_findHexadecimal 196 = .ok (.istore 7, 2) := by decide +kernel
theorem dMo_findHexadecimal_198 : decode cMo_findHexadecimal 198 = .ok (.ldc2_w 137, 3) := by decide +kernel
theorem dMo_findHexadecimal_201 : decode cMo_findHexadecimal 201 = .ok (.aload_n 0, 1) := by decide +kernel
theorem dMo_findHexadecimal_202 : decode cMo_findHexadecimal 202 = .ok (.getfield 42, 3) := by decide +kernel
theorem dMo_findHexadecimal_205 : decode cMo_findHexadecimal 205 = .ok (.aload_n 0, 1) := by decide +kernel
theorem dMo_findHexadecimal_206 : decode cMo_findHexadecimal 206 = .ok (.getfield 39, 3) := by decide +kernel
theorem dMo_findHexadecimal_209 : decode cMo_findHexadecimal 209 = .ok (.isub, 1) := by decide +kernel
theorem dMo_findHexadecimal_210 : decode cMo_findHexadecimal 210 = .ok (.i2l, 1) := by decide +kernel
theorem dMo_findHexadecimal_211 : decode cMo_findHexadecimal 211 = .ok (.lmul, 1) := by decide +kernel
theorem dMo_findHexadecimal_212 : decode cMo_findHexadecimal 212 = .ok (.aload_n 0, 1) := by decide +kernel
theorem dMo_findHexadecimal_213 : decode cMo_findHexadecimal 213 = .ok (.getfield 49, 3) := by decide +kernel
theorem dMo_findHexadecimal_216 : decode cMo_findHexadecimal 216 = .ok (.ladd, 1) := by decide +kernel
theorem dMo_findHexadecimal_217 : decode cMo_findHexadecimal 217 = .ok (.lstore 8, 2) := by decide +kernel
theorem dMo_findHexadecimal_219 : decode cMo_findHexadecimal 219 = .ok (.aload_n 0, 1) := by decide +kernel
theorem dMo_findHexadecimal_220 : decode cMo_findHexadecimal 220 = .ok (.getfield 117, 3) := by decide +kernel
theorem dMo_findHexadecimal_223 : decode cMo_findHexadecimal 223 = .ok (.ldc2_w 147, 3) := by decide +kernel
theorem dMo_findHexadecimal_226 : decode cMo_findHexadecimal 226 = .ok (.lsub, 1) := by decide +kernel
theorem dMo_findHexadecimal_227 : decode cMo_findHexadecimal 227 = .ok (.lstore 10, 2) := by decide +kernel
theorem dMo_findHexadecimal_229 : decode cMo_findHexadecimal 229 = .ok (.lload 10, 2) := by decide +kernel
theorem dMo_findHexadecimal_231 : decode cMo_findHexadecimal 231 = .ok (.lload 8, 2) := by decide +kernel
theorem dMo_findHexadecimal_233 : decode cMo_findHexadecimal 233 = .ok (.lcmp, 1) := by decide +kernel
theorem dMo_findHexadecimal_234 : decode cMo_findHexadecimal 234 = .ok (.ifCond .lt 34, 3) := by decide +kernel
theorem dMo_findHexadecimal_237 : decode cMo_findHexadecimal 237 = .ok (.iload 7, 2) := by decide +kernel
theorem dMo_findHexadecimal_239 : decode cMo_findHexadecimal 239 = .ok (.ifCond .ne 29, 3) := by decide +kernel
theorem dMo_findHexadecimal_242 : decode cMo_findHexadecimal 242 = .ok (.aload_n 0, 1) := by decide +kernel
theorem dMo_findHexadecimal_243 : decode cMo_findHexadecimal 243 = .ok (.lload 10, 2) := by decide +kernel
theorem dMo_findHexadecimal_245 : decode cMo_findHexadecimal 245 = .ok (.invokevirtual 149, 3) := by decide +kernel
theorem dMo_findHexadecimal_248 : decode cMo_findHexadecimal 248 = .ok (.iconst 1, 1) := by decide +kernel
theorem dMo_findHexadecimal_249 : decode cMo_findHexadecimal 249 = .ok (.if_icmp .ne 7, 3) := by decide +kernel
theorem dMo_findHexadecimal_252 : decode cMo_findHexadecimal 252 = .ok (.iconst 1, 1) := by decide +kernel
theorem dMo_findHexadecimal_253 : decode cMo_findHexadecimal 253 = .ok (.goto 4, 3) := by decide +kernel
theorem dMo_findHexadecimal_256 : decode cMo_findHexadecimal 256 = .ok (.iconst 0, 1) := by decide +kernel
theorem dMo_findHexadecimal_257 : decode cMo_findHexadecimal 257 = .ok (.istore 7, 2) := by decide +kernel
theorem dMo_findHexadecimal_259 : decode cMo_findHexadecimal 259 = .ok (.lload 10, 2) := by decide +kernel
theorem dMo_findHexadecimal_261 : decode cMo_findHexadecimal 261 = .ok (.lconst 1, 1) := by decide +kernel
theorem dMo_findHexadecimal_262 : decode cMo_findHexadecimal 262 = .ok (.lsub, 1) := by decide +kernel
theorem dMo_findHexadecimal_263 : decode cMo_findHexadecimal 263 = .ok (.lstore 10, 2) := by decide +kernel
theorem dMo_findHexadecimal_265 : decode cMo_findHexadecimal 265 = .ok (.goto (-36), 3) := by decide +kernel
theorem dMo_findHexadecimal_268 : decode cMo_findHexadecimal 268 = .ok (.aload_n 0, 1) := by decide +kernel
theorem dMo_findHexadecimal_269 : decode cMo_findHexadecimal 269 = .ok (.aload_n 0, 1) := by decide +kernel
theorem dMo_findHexadecimal_270 : decode cMo_findHexadecimal 270 = .ok (.aload_n 0, 1) := by decide +kernel
theorem dMo_findHexadecimal_271 : decode cMo_findHexadecimal 271 = .ok (.getfield 117, 3) := by decide +kernel
theorem dMo_findHexadecimal_274 : decode cMo_findHexadecimal 274 = .ok (.lconst 1, 1) := by decide +kernel
theorem dMo_findHexadecimal_275 : decode cMo_findHexadecimal 275 = .ok (.lsub, 1) := by decide +kernel
theorem dMo_findHexadecimal_276 : decode cMo_findHexadecimal 276 = .ok (.invokevirtual 149, 3) := by decide +kernel
theorem dMo_findHexadecimal_279 : decode cMo_findHexadecimal 279 = .ok (.iconst 1, 1) := by decide +kernel
theorem dMo_findHexadecimal_280 : decode cMo_findHexadecimal 280 = .ok (.if_icmp .ne 16, 3) := by decide +kernel
theorem dMo_findHexadecimal_283 : decode cMo_findHexadecimal 283 = .ok (.iload 7, 2) := by decide +kernel
theorem dMo_findHexadecimal_285 : decode cMo_findHexadecimal 285 = .ok (.ifCond .eq 7, 3) := by decide +kernel
theorem dMo_findHexadecimal_288 : decode cMo_findHexadecimal 288 = .ok (.iconst 3, 1) := by decide +kernel
theorem dMo_findHexadecimal_289 : decode cMo_findHexadecimal 289 = .ok (.goto 17, 3) := by decide +kernel
theorem dMo_findHexadecimal_292 : decode cMo_findHexadecimal 292 = .ok (.iconst 2, 1) := by decide +kernel
theorem dMo_findHexadecimal_293 : decode cMo_findHexadecimal 293 = .ok (.goto 13, 3) := by decide +kernel
theorem dMo_findHexadecimal_296 : decode cMo_findHexadecimal 296 = .ok (.iload 7, 2) := by decide +kernel
theorem dMo_findHexadecimal_298 : decode cMo_findHexadecimal 298 = .ok (.ifCond .eq 7, 3) := by decide +kernel
theorem dMo_findHexadecimal_301 : decode cMo_findHexadecimal 301 = .ok (.iconst 1, 1) := by decide +kernel
theorem dMo_findHexadecimal_302 : decode cMo_findHexadecimal 302 = .ok (.goto 4, 3) := by decide +kernel
theorem dMo_findHexadecimal_305 : decode cMo_findHexadecimal 305 = .ok (.iconst 0, 1) := by decide +kernel
theorem dMo_findHexadecimal_306 : decode cMo_findHexadecimal 306 = .ok (.putfield 120, 3) := by decide +kernel
theorem dMo_findHexadecimal_309 : decode cMo_findHexadecimal 309 = .ok (.return_, 1) := by decide +kernel
theorem dMo_bitAt_0 : decode cMo_bitAt 0 = .ok (.lload_n 1, 1) := by decide +kernel
theorem dMo_bitAt_1 : decode cMo_bitAt 1 = .ok (.aload_n 0, 1) := by decide +kernel
theorem dMo_bitAt_2 : decode cMo_bitAt 2 = .ok (.getfield 49, 3) := by decide +kernel
theorem dMo_bitAt_5 : decode cMo_bitAt 5 = .ok (.lsub, 1) := by decide +kernel
theorem dMo_bitAt_6 : decode cMo_bitAt 6 = .ok (.lstore_n 3, 1) := by decide +kernel
theorem dMo_bitAt_7 : decode cMo_bitAt 7 = .ok (.lload_n 3, 1) := by decide +kernel
theorem dMo_bitAt_8 : decode cMo_bitAt 8 = .ok (.lconst 0, 1) := by decide +kernel
theorem dMo_bitAt_9 : decode cMo_bitAt 9 = .ok (.lcmp, 1) := by decide +kernel
theorem dMo_bitAt_10 : decode cMo_bitAt 10 = .ok (.ifCond .lt 11, 3) := by decide +kernel
theorem dMo_bitAt_13 : decode cMo_bitAt 13 = .ok (.lload_n 3, 1) := by decide +kernel
theorem dMo_bitAt_14 : decode cMo_bitAt 14 = .ok (.ldc2_w 137, 3) := by decide +kernel
theorem dMo_bitAt_17 : decode cMo_bitAt 17 = .ok (.ldiv, 1) := by decide +kernel
theorem dMo_bitAt_18 : decode cMo_bitAt 18 = .ok (.goto 13, 3) := by decide +kernel
theorem dMo_bitAt_21 : decode cMo_bitAt 21 = .ok (.ldc2_w 139, 3) := by decide +kernel
theorem dMo_bitAt_24 : decode cMo_bitAt 24 = .ok (.lload_n 3, 1) := by decide +kernel
theorem dMo_bitAt_25 : decode cMo_bitAt 25 = .ok (.lsub, 1) := by decide +kernel
theorem dMo_bitAt_26 : decode cMo_bitAt 26 = .ok (.ldc2_w 137, 3) := by decide +kernel
