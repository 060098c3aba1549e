/-! names and rooms of the methods that throw, catch, make -/
theorem dLa_repeat_0 : decode cLa_repeat 0 = .ok (.aload_n 3, 1) := by decide +kernel
theorem dLa_repeat_1 : decode cLa_repeat 1 = .ok (.iconst 0, 1) := by decide +kernel
theorem dLa_repeat_2 : decode cLa_repeat 2 = .ok (.aload_n 0, 1) := by decide +kernel
theorem dLa_repeat_3 : decode cLa_repeat 3 = .ok (.iload_n 1, 1) := by decide +kernel
theorem dLa_repeat_4 : decode cLa_repeat 4 = .ok (.iload_n 2, 1) := by decide +kernel
theorem dLa_repeat_5 : decode cLa_repeat 5 = .ok (.invokevirtual 7, 3) := by decide +kernel
theorem dLa_repeat_8 : decode cLa_repeat 8 = .ok (.i2l, 1) := by decide +kernel
theorem dLa_repeat_9 : decode cLa_repeat 9 = .ok (.lastore, 1) := by decide +kernel
theorem dLa_repeat_10 : decode cLa_repeat 10 = .ok (.goto 7, 3) := by decide +kernel
theorem dLa_repeat_13 : decode cLa_repeat 13 = .ok (.astore 4, 2) := by decide +kernel
theorem dLa_repeat_15 : decode cLa_repeat 15 = .ok (.iconst 1, 1) := by decide +kernel
theorem dLa_repeat_16 : decode cLa_repeat 16 = .ok (.ireturn, 1) := by decide +kernel
theorem dLa_repeat_17 : decode cLa_repeat 17 = .ok (.iconst 0, 1) := by decide +kernel
theorem dLa_repeat_18 : decode cLa_repeat 18 = .ok (.ireturn, 1) := by decide +kernel
theorem dLa_cut_0 : decode cLa_cut 0 = .ok (.aload_n 2, 1) := by decide +kernel
theorem dLa_cut_1 : decode cLa_cut 1 = .ok (.iconst 0, 1) := by decide +kernel
theorem dLa_cut_2 : decode cLa_cut 2 = .ok (.aload_n 0, 1) := by decide +kernel
theorem dLa_cut_3 : decode cLa_cut 3 = .ok (.iload_n 1, 1) := by decide +kernel
theorem dLa_cut_4 : decode cLa_cut 4 = .ok (.invokevirtual 15, 3) := by decide +kernel
theorem dLa_cut_7 : decode cLa_cut 7 = .ok (.i2l, 1) := by decide +kernel
theorem dLa_cut_8 : decode cLa_cut 8 = .ok (.lastore, 1) := by decide +kernel
theorem dLa_cut_9 : decode cLa_cut 9 = .ok (.goto 6, 3) := by decide +kernel
theorem dLa_cut_12 : decode cLa_cut 12 = .ok (.astore_n 3, 1) := by decide +kernel
theorem dLa_cut_13 : decode cLa_cut 13 = .ok (.iconst 1, 1) := by decide +kernel
theorem dLa_cut_14 : decode cLa_cut 14 = .ok (.ireturn, 1) := by decide +kernel
theorem dLa_cut_15 : decode cLa_cut 15 = .ok (.iconst 0, 1) := by decide +kernel
theorem dLa_cut_16 : decode cLa_cut 16 = .ok (.ireturn, 1) := by decide +kernel
theorem dLa_bits_0 : decode cLa_bits 0 = .ok (.aload_n 1, 1) := by decide +kernel
theorem dLa_bits_1 : decode cLa_bits 1 = .ok (.iconst 0, 1) := by decide +kernel
theorem dLa_bits_2 : decode cLa_bits 2 = .ok (.aload_n 0, 1) := by decide +kernel
theorem dLa_bits_3 : decode cLa_bits 3 = .ok (.invokevirtual 19, 3) := by decide +kernel
theorem dLa_bits_6 : decode cLa_bits 6 = .ok (.lastore, 1) := by decide +kernel
theorem dLa_bits_7 : decode cLa_bits 7 = .ok (.goto 6, 3) := by decide +kernel
theorem dLa_bits_10 : decode cLa_bits 10 = .ok (.astore_n 2, 1) := by decide +kernel
theorem dLa_bits_11 : decode cLa_bits 11 = .ok (.iconst 1, 1) := by decide +kernel
theorem dLa_bits_12 : decode cLa_bits 12 = .ok (.ireturn, 1) := by decide +kernel
theorem dLa_bits_13 : decode cLa_bits 13 = .ok (.iconst 0, 1) := by decide +kernel
theorem dLa_bits_14 : decode cLa_bits 14 = .ok (.ireturn, 1) := by decide +kernel
theorem dLa_floatBits_0 : decode cLa_floatBits 0 = .ok (.aload_n 1, 1) := by decide +kernel
theorem dLa_floatBits_1 : decode cLa_floatBits 1 = .ok (.iconst 0, 1) := by decide +kernel
theorem dLa_floatBits_2 : decode cLa_floatBits 2 = .ok (.aload_n 0, 1) := by decide +kernel
theorem dLa_floatBits_3 : decode cLa_floatBits 3 = .ok (.invokevirtual 25, 3) := by decide +kernel
theorem dLa_floatBits_6 : decode cLa_floatBits 6 = .ok (.i2l, 1) := by decide +kernel
theorem dLa_floatBits_7 : decode cLa_floatBits 7 = .ok (.lastore, 1) := by decide +kernel
theorem dLa_floatBits_8 : decode cLa_floatBits 8 = .ok (.goto 6, 3) := by decide +kernel
theorem dLa_floatBits_11 : decode cLa_floatBits 11 = .ok (.astore_n 2, 1) := by decide +kernel
theorem dLa_floatBits_12 : decode cLa_floatBits 12 = .ok (.iconst 1, 1) := by decide +kernel
theorem dLa_floatBits_13 : decode cLa_floatBits 13 = .ok (.ireturn, 1) := by decide +kernel
theorem dLa_floatBits_14 : decode cLa_floatBits 14 = .ok (.iconst 0, 1) := by decide +kernel
theorem dLa_floatBits_15 : decode cLa_floatBits 15 = .ok (.ireturn, 1) := by decide +kernel
theorem dLa_side_0 : decode cLa_side 0 = .ok (.aload_n 2, 1) := by decide +kernel
theorem dLa_side_1 : decode cLa_side 1 = .ok (.iconst 0, 1) := by decide +kernel
theorem dLa_side_2 : decode cLa_side 2 = .ok (.aload_n 0, 1) := by decide +kernel
theorem dLa_side_3 : decode cLa_side 3 = .ok (.iload_n 1, 1) := by decide +kernel
theorem dLa_side_4 : decode cLa_side 4 = .ok (.invokevirtual 29, 3) := by decide +kernel
theorem dLa_side_7 : decode cLa_side 7 = .ok (.i2l, 1) := by decide +kernel
theorem dLa_side_8 : decode cLa_side 8 = .ok (.lastore, 1) := by decide +kernel
theorem dLa_side_9 : decode cLa_side 9 = .ok (.goto 6, 3) := by decide +kernel
theorem dLa_side_12 : decode cLa_side 12 = .ok (.astore_n 3, 1) := by decide +kernel
theorem dLa_side_13 : decode cLa_side 13 = .ok (.iconst 1, 1) := by decide +kernel
theorem dLa_side_14 : decode cLa_side 14 = .ok (.ireturn, 1) := by decide +kernel
theorem dLa_side_15 : decode cLa_side 15 = .ok (.iconst 0, 1) := by decide +kernel
theorem dLa_side_16 : decode cLa_side 16 = .ok (.ireturn, 1) := by decide +kernel
theorem dLa_compare_0 : decode cLa_compare 0 = .ok (.aload_n 3, 1) := by decide +kernel
theorem dLa_compare_1 : decode cLa_compare 1 = .ok (.iconst 0, 1) := by decide +kernel
theorem dLa_compare_2 : decode cLa_compare 2 = .ok (.aload_n 0, 1) := by decide +kernel
theorem dLa_compare_3 : decode cLa_compare 3 = .ok (.lload_n 1, 1) := by decide +kernel
theorem dLa_compare_4 : decode cLa_compare 4 = .ok (.invokevirtual 33, 3) := by decide +kernel
theorem dLa_compare_7 : decode cLa_compare 7 = .ok (.i2l, 1) := by decide +kernel
theorem dLa_compare_8 : decode cLa_compare 8 = .ok (.lastore, 1) := by decide +kernel
theorem dLa_compare_9 : decode cLa_compare 9 = .ok (.goto 11, 3) := by decide +kernel
theorem dLa_compare_12 : decode cLa_compare 12 = .ok (.astore 4, 2) := by decide +kernel
theorem dLa_compare_14 : decode cLa_compare 14 = .ok (.iconst 1, 1) := by decide +kernel
theorem dLa_compare_15 : decode cLa_compare 15 = .ok (.ireturn, 1) := by decide +kernel
theorem dLa_compare_16 : decode cLa_compare 16 = .ok (.astore 4, 2) := by decide +kernel
theorem dLa_compare_18 : decode cLa_compare 18 = .ok (.iconst 2, 1) := by decide +kernel
theorem dLa_compare_19 : decode cLa_compare 19 = .ok (.ireturn, 1) := by decide +kernel
theorem dLa_compare_20 : decode cLa_compare 20 = .ok (.iconst 0, 1) := by decide +kernel
theorem dLa_compare_21 : decode cLa_compare 21 = .ok (.ireturn, 1) := by decide +kernel
theorem dLa_law_0 : decode cLa_law 0 = .ok (.new 8, 3) := by decide +kernel
theorem dLa_law_3 : decode cLa_law 3 = .ok (.dup, 1) := by decide +kernel
theorem dLa_law_4 : decode cLa_law 4 = .ok (.invokespecial 37, 3) := by decide +kernel
theorem dLa_law_7 : decode cLa_law 7 = .ok (.astore_n 1, 1) := by decide +kernel
theorem dLa_law_8 : decode cLa_law 8 = .ok (.new 38, 3) := by decide +kernel
theorem dLa_law_11 : decode cLa_law 11 = .ok (.dup, 1) := by decide +kernel
theorem dLa_law_12 : decode cLa_law 12 = .ok (.invokespecial 40, 3) := by decide +kernel
theorem dLa_law_15 : decode cLa_law 15 = .ok (.astore_n 2, 1) := by decide +kernel
theorem dLa_law_16 : decode cLa_law 16 = .ok (.iconst 1, 1) := by decide +kernel
theorem dLa_law_17 : decode cLa_law 17 = .ok (.newarray .long, 2) := by decide +kernel
theorem dLa_law_19 : decode cLa_law 19 = .ok (.astore_n 3, 1) := by decide +kernel
theorem dLa_law_20 : decode cLa_law 20 = .ok (.iconst 0, 1) := by decide +kernel
theorem dLa_law_21 : decode cLa_law 21 = .ok (.istore 4, 2) := by decide +kernel
theorem dLa_law_23 : decode cLa_law 23 = .ok (.iload 4, 2) := by decide +kernel
theorem dLa_law_25 : decode cLa_law 25 = .ok (.aload_n 0, 1) := by decide +kernel
theorem dLa_law_26 : decode cLa_law 26 = .ok (.arraylength, 1) := by decide +kernel
theorem dLa_law_27 : decode cLa_law 27 = .ok (.iconst 3, 1) := by decide +kernel
theorem dLa_law_28 : decode cLa_law 28 = .ok (.isub, 1) := by decide +kernel
theorem dLa_law_29 : decode cLa_law 29 = .ok (.if_icmp .gt 536, 3) := by decide +kernel
theorem dLa_law_32 : decode cLa_law 32 = .ok (.aload_n 0, 1) := by decide +kernel
theorem dLa_law_33 : decode cLa_law 33 = .ok (.iload 4, 2) := by decide +kernel
theorem dLa_law_35 : decode cLa_law 35 = .ok (.iaload, 1) := by decide +kernel
theorem dLa_law_36 : decode cLa_law 36 = .ok (.bipush 15, 2) := by decide +kernel
theorem dLa_law_38 : decode cLa_law 38 = .ok (.iand, 1) := by decide +kernel
theorem dLa_law_39 : decode cLa_law 39 = .ok (.tableswitch 520 0 9 #[53, 110, 178, 234, 247, 260, 273, 316, 360, 432], 53) := by decide +kernel
theorem dLa_law_92 : decode cLa_law 92 = .ok (.aload_n 1, 1) := by decide +kernel
theorem dLa_law_93 : decode cLa_law 93 = .ok (.aload_n 0, 1) := by decide +kernel
theorem dLa_law_94 : decode cLa_law 94 = .ok (.iload 4, 2) := by decide +kernel
theorem dLa_law_96 : decode cLa_law 96 = .ok (.iconst 1, 1) := by decide +kernel
theorem dLa_law_97 : decode cLa_law 97 = .ok (.iadd, 1) := by decide +kernel
theorem dLa_law_98 : decode cLa_law 98 = .ok (.iaload, 1) := by decide +kernel
theorem dLa_law_99 : decode cLa_law 99 = .ok (.i2l, 1) := by decide +kernel
theorem dLa_law_100 : decode cLa_law 100 = .ok (.bipush 32, 2) := by decide +kernel
theorem dLa_law_102 : decode cLa_law 102 = .ok (.lshl, 1) := by decide +kernel
theorem dLa_law_103 : decode cLa_law 103 = .ok (.aload_n 0, 1) := by decide +kernel
theorem dLa_law_104 : decode cLa_law 104 = .ok (.iload 4, 2) := by decide +kernel
theorem dLa_law_106 : decode cLa_law 106 = .ok (.iconst 2, 1) := by decide +kernel
theorem dLa_law_107 : decode cLa_law 107 = .ok (.iadd, 1) := by decide +kernel
theorem dLa_law_108 : decode cLa_law 108 = .ok (.iaload, 1) := by decide +kernel
theorem dLa_law_109 : decode cLa_law 109 = .ok (.i2l, 1) := by decide +kernel
theorem dLa_law_110 : decode cLa_law 110 = .ok (.ldc2_w 41, 3) := by decide +kernel
theorem dLa_law_113 : decode cLa_law 113 = .ok (.land, 1) := by decide +kernel
theorem dLa_law_114 : decode cLa_law 114 = .ok (.lor, 1) := by decide +kernel
theorem dLa_law_115 : decode cLa_law 115 = .ok (.invokevirtual 43, 3) := by decide +kernel
theorem dLa_law_118 : decode cLa_law 118 = .ok (.aload_n 2, 1) := by decide +kernel
theorem dLa_law_119 : decode cLa_law 119 = .ok (.aload_n 0, 1) := by decide +kernel
theorem dLa_law_120 : decode cLa_law 120 = .ok (.iload 4, 2) := by decide +kernel
theorem dLa_law_122 : decode cLa_law 122 = .ok (.iconst 1, 1) := by decide +kernel
theorem dLa_law_123 : decode cLa_law 123 = .ok (.iadd, 1) := by decide +kernel
theorem dLa_law_124 : decode cLa_law 124 = .ok (.iaload, 1) := by decide +kernel
theorem dLa_law_125 : decode cLa_law 125 = .ok (.i2l, 1) := by decide +kernel
theorem dLa_law_126 : decode cLa_law 126 = .ok (.bipush 32, 2) := by decide +kernel
theorem dLa_law_128 : decode cLa_law 128 = .ok (.lshl, 1) := by decide +kernel
theorem dLa_law_129 : decode cLa_law 129 = .ok (.aload_n 0, 1) := by decide +kernel
theorem dLa_law_130 : decode cLa_law 130 = .ok (.iload 4, 2) := by decide +kernel
theorem dLa_law_132 : decode cLa_law 132 = .ok (.iconst 2, 1) := by decide +kernel
theorem dLa_law_133 : decode cLa_law 133 = .ok (.iadd, 1) := by decide +kernel
theorem dLa_law_134 : decode cLa_law 134 = .ok (.iaload, 1) := by decide +kernel
theorem dLa_law_135 : decode cLa_law 135 = .ok (.i2l, 1) := by decide +kernel
theorem dLa_law_136 : decode cLa_law 136 = .ok (.ldc2_w 41, 3) := by decide +kernel
theorem dLa_law_139 : decode cLa_law 139 = .ok (.land, 1) := by decide +kernel
theorem dLa_law_140 : decode cLa_law 140 = .ok (.lor, 1) := by decide +kernel
theorem dLa_law_141 : decode cLa_law 141 = .ok (.invokevirtual 46, 3) := by decide +kernel
theorem dLa_law_144 : decode cLa_law 144 = .ok (.if_icmp .eq 415, 3) := by decide +kernel
theorem dLa_law_147 : decode cLa_law 147 = .ok (.iconst 0, 1) := by decide +kernel
theorem dLa_law_148 : decode cLa_law 148 = .ok (.ireturn, 1) := by decide +kernel
theorem dLa_law_149 : decode cLa_law 149 = .ok (.aload_n 1, 1) := by decide +kernel
theorem dLa_law_150 : decode cLa_law 150 = .ok (.aload_n 0, 1) := by decide +kernel
theorem dLa_law_151 : decode cLa_law 151 = .ok (.iload 4, 2) := by decide +kernel
theorem dLa_law_153 : decode cLa_law 153 = .ok (.iconst 1, 1) := by decide +kernel
theorem dLa_law_154 : decode cLa_law 154 = .ok (.iadd, 1) := by decide +kernel
theorem dLa_law_155 : decode cLa_law 155 = .ok (.iaload, 1) := by decide +kernel
theorem dLa_law_156 : decode cLa_law 156 = .ok (.aload_n 0, 1) := by decide +kernel
theorem dLa_law_157 : decode cLa_law 157 = .ok (.iload 4, 2) := by decide +kernel
theorem dLa_law_159 : decode cLa_law 159 = .ok (.iconst 2, 1) := by decide +kernel
theorem dLa_law_160 : decode cLa_law 160 = .ok (.iadd, 1) := by decide +kernel
theorem dLa_law_161 : decode cLa_law 161 = .ok (.iaload, 1) := by decide +kernel
theorem dLa_law_162 : decode cLa_law 162 = .ok (.aload_n 3, 1) := by decide +kernel
theorem dLa_law_163 : decode cLa_law 163 = .ok (.invokestatic 47, 3) := by decide +kernel
theorem dLa_law_166 : decode cLa_law 166 = .ok (.istore 5, 2) := by decide +kernel
theorem dLa_law_168 : decode cLa_law 168 = .ok (.aload_n 2, 1) := by decide +kernel
theorem dLa_law_169 : decode cLa_law 169 = .ok (.aload_n 0, 1) := by decide +kernel
theorem dLa_law_170 : decode cLa_law 170 = .ok (.iload 4, 2) := by decide +kernel
theorem dLa_law_172 : decode cLa_law 172 = .ok (.iconst 1, 1) := by decide +kernel
theorem dLa_law_173 : decode cLa_law 173 = .ok (.iadd, 1) := by decide +kernel
theorem dLa_law_174 : decode cLa_law 174 = .ok (.iaload, 1) := by decide +kernel
theorem dLa_law_175 : decode cLa_law 175 = .ok (.aload_n 0, 1) := by decide +kernel
theorem dLa_law_176 : decode cLa_law 176 = .ok (.iload 4, 2) := by decide +kernel
theorem dLa_law_178 : decode cLa_law 178 = .ok (.iconst 2, 1) := by decide +kernel
theorem dLa_law_179 : decode cLa_law 179 = .ok (.iadd, 1) := by decide +kernel
theorem dLa_law_180 : decode cLa_law 180 = .ok (.iaload, 1) := by decide +kernel
theorem dLa_law_181 : decode cLa_law 181 = .ok (.invokevirtual 52, 3) := by decide +kernel
theorem dLa_law_184 : decode cLa_law 184 = .ok (.istore 6, 2) := by decide +kernel
theorem dLa_law_186 : decode cLa_law 186 = .ok (.aload_n 2, 1) := by decide +kernel
theorem dLa_law_187 : decode cLa_law 187 = .ok (.invokevirtual 53, 3) := by decide +kernel
theorem dLa_law_190 : decode cLa_law 190 = .ok (.iload 5, 2) := by decide +kernel
theorem dLa_law_192 : decode cLa_law 192 = .ok (.if_icmp .eq 5, 3) := by decide +kernel
theorem dLa_law_195 : decode cLa_law 195 = .ok (.iconst 0, 1) := by decide +kernel
theorem dLa_law_196 : decode cLa_law 196 = .ok (.ireturn, 1) := by decide +kernel
theorem dLa_law_197 : decode cLa_law 197 = .ok (.iload 5, 2) := by decide +kernel
theorem dLa_law_199 : decode cLa_law 199 = .ok (.ifCond .ne 15, 3) := by decide +kernel
theorem dLa_law_202 : decode cLa_law 202 = .ok (.aload_n 3, 1) := by decide +kernel
theorem dLa_law_203 : decode cLa_law 203 = .ok (.iconst 0, 1) := by decide +kernel
theorem dLa_law_204 : decode cLa_law 204 = .ok (.laload, 1) := by decide +kernel
theorem dLa_law_205 : decode cLa_law 205 = .ok (.iload 6, 2) := by decide +kernel
theorem dLa_law_207 : decode cLa_law 207 = .ok (.i2l, 1) := by decide +kernel
theorem dLa_law_208 : decode cLa_law 208 = .ok (.lcmp, 1) := by decide +kernel
theorem dLa_law_209 : decode cLa_law 209 = .ok (.ifCond .eq 5, 3) := by decide +kernel
theorem dLa_law_212 : decode cLa_law 212 = .ok (.iconst 0, 1) := by decide +kernel
theorem dLa_law_213 : decode cLa_law 213 = .ok (.ireturn, 1) := by decide +kernel
theorem dLa_law_214 : decode cLa_law 214 = .ok (.goto 345, 3) := by decide +kernel
theorem dLa_law_217 : decode cLa_law 217 = .ok (.aload_n 1, 1) := by decide +kernel
theorem dLa_law_218 : decode cLa_law 218 = .ok (.aload_n 0, 1) := by decide +kernel
theorem dLa_law_219 : decode cLa_law 219 = .ok (.iload 4, 2) := by decide +kernel
theorem dLa_law_221 : decode cLa_law 221 = .ok (.iconst 1, 1) := by decide +kernel
theorem dLa_law_222 : decode cLa_law 222 = .ok (.iadd, 1) := by decide +kernel
theorem dLa_law_223 : decode cLa_law 223 = .ok (.iaload, 1) := by decide +kernel
theorem dLa_law_224 : decode cLa_law 224 = .ok (.aload_n 3, 1) := by decide +kernel
theorem dLa_law_225 : decode cLa_law 225 = .ok (.invokestatic 56, 3) := by decide +kernel
theorem dLa_law_228 : decode cLa_law 228 = .ok (.istore 5, 2) := by decide +kernel
theorem dLa_law_230 : decode cLa_law 230 = .ok (.aload_n 2, 1) := by decide +kernel
theorem dLa_law_231 : decode cLa_law 231 = .ok (.aload_n 0, 1) := by decide +kernel
theorem dLa_law_232 : decode cLa_law 232 = .ok (.iload 4, 2) := by decide +kernel
theorem dLa_law_234 : decode cLa_law 234 = .ok (.iconst 1, 1) := by decide +kernel
theorem dLa_law_235 : decode cLa_law 235 = .ok (.iadd, 1) := by decide +kernel
theorem dLa_law_236 : decode cLa_law 236 = .ok (.iaload, 1) := by decide +kernel
theorem dLa_law_237 : decode cLa_law 237 = .ok (.invokevirtual 59, 3) := by decide +kernel
theorem dLa_law_240 : decode cLa_law 240 = .ok (.istore 6, 2) := by decide +kernel
theorem dLa_law_242 : decode cLa_law 242 = .ok (.aload_n 2, 1) := by decide +kernel
theorem dLa_law_243 : decode cLa_law 243 = .ok (.invokevirtual 53, 3) := by decide +kernel
theorem dLa_law_246 : decode cLa_law 246 = .ok (.iload 5, 2) := by decide +kernel
theorem dLa_law_248 : decode cLa_law 248 = .ok (.if_icmp .eq 5, 3) := by decide +kernel
theorem dLa_law_251 : decode cLa_law 251 = .ok (.iconst 0, 1) := by decide +kernel
theorem dLa_law_252 : decode cLa_law 252 = .ok (.ireturn, 1) := by decide +kernel
theorem dLa_law_253 : decode cLa_law 253 = .ok (.iload 5, 2) := by decide +kernel
theorem dLa_law_255 : decode cLa_law 255 = .ok (.ifCond .ne 15, 3) := by decide +kernel
theorem dLa_law_258 : decode cLa_law 258 = .ok (.aload_n 3, 1) := by decide +kernel
theorem dLa_law_259 : decode cLa_law 259 = .ok (.iconst 0, 1) := by decide +kernel
theorem dLa_law_260 : decode cLa_law 260 = .ok (.laload, 1) := by decide +kernel
theorem dLa_law_261 : decode cLa_law 261 = .ok (.iload 6, 2) := by decide +kernel
theorem dLa_law_263 : decode cLa_law 263 = .ok (.i2l, 1) := by decide +kernel
theorem dLa_law_264 : decode cLa_law 264 = .ok (.lcmp, 1) := by decide +kernel
theorem dLa_law_265 : decode cLa_law 265 = .ok (.ifCond .eq 5, 3) := by decide +kernel
theorem dLa_law_268 : decode cLa_law 268 = .ok (.iconst 0, 1) := by decide +kernel
theorem dLa_law_269 : decode cLa_law 269 = .ok (.ireturn, 1) := by decide +kernel
theorem dLa_law_270 : decode cLa_law 270 = .ok (.goto 289, 3) := by decide +kernel
theorem dLa_law_273 : decode cLa_law 273 = .ok (.aload_n 1, 1) := by decide +kernel
theorem dLa_law_274 : decode cLa_law 274 = .ok (.invokevirtual 60, 3) := by decide +kernel
theorem dLa_law_277 : decode cLa_law 277 = .ok (.aload_n 2, 1) := by decide +kernel
theorem dLa_law_278 : decode cLa_law 278 = .ok (.invokevirtual 63, 3) := by decide +kernel
theorem dLa_law_281 : decode cLa_law 281 = .ok (.if_icmp .eq 278, 3) := by decide +kernel
theorem dLa_law_284 : decode cLa_law 284 = .ok (.iconst 0, 1) := by decide +kernel
theorem dLa_law_285 : decode cLa_law 285 = .ok (.ireturn, 1) := by decide +kernel
theorem dLa_law_286 : decode cLa_law 286 = .ok (.aload_n 1, 1) := by decide +kernel
theorem dLa_law_287 : decode cLa_law 287 = .ok (.invokevirtual 64, 3) := by decide +kernel
theorem dLa_law_290 : decode cLa_law 290 = .ok (.aload_n 2, 1) := by decide +kernel
theorem dLa_law_291 : decode cLa_law 291 = .ok (.invokevirtual 67, 3) := by decide +kernel
theorem dLa_law_294 : decode cLa_law 294 = .ok (.if_icmp .eq 265, 3) := by decide +kernel
theorem dLa_law_297 : decode cLa_law 297 = .ok (.iconst 0, 1) := by decide +kernel
theorem dLa_law_298 : decode cLa_law 298 = .ok (.ireturn, 1) := by decide +kernel
theorem dLa_law_299 : decode cLa_law 299 = .ok (.aload_n 1, 1) := by decide +kernel
theorem dLa_law_300 : decode cLa_law 300 = .ok (.invokevirtual 68, 3) := by decide +kernel
theorem dLa_law_303 : decode cLa_law 303 = .ok (.aload_n 2, 1) := by decide +kernel
theorem dLa_law_304 : decode cLa_law 304 = .ok (.invokevirtual 71, 3) := by decide +kernel
theorem dLa_law_307 : decode cLa_law 307 = .ok (.if_icmp .eq 252, 3) := by decide +kernel
theorem dLa_law_310 : decode cLa_law 310 = .ok (.iconst 0, 1) := by decide +kernel
theorem dLa_law_311 : decode cLa_law 311 = .ok (.ireturn, 1) := by decide +kernel
theorem dLa_law_312 : decode cLa_law 312 = .ok (.aload_n 1, 1) := by decide +kernel
theorem dLa_law_313 : decode cLa_law 313 = .ok (.aload_n 3, 1) := by decide +kernel
theorem dLa_law_314 : decode cLa_law 314 = .ok (.invokestatic 72, 3) := by decide +kernel
theorem dLa_law_317 : decode cLa_law 317 = .ok (.istore 5, 2) := by decide +kernel
theorem dLa_law_319 : decode cLa_law 319 = .ok (.aload_n 2, 1) := by decide +kernel
theorem dLa_law_320 : decode cLa_law 320 = .ok (.invokevirtual 75, 3) := by decide +kernel
theorem dLa_law_323 : decode cLa_law 323 = .ok (.lstore 6, 2) := by decide +kernel
theorem dLa_law_325 : decode cLa_law 325 = .ok (.aload_n 2, 1) := by decide +kernel
theorem dLa_law_326 : decode cLa_law 326 = .ok (.invokevirtual 53, 3) := by decide +kernel
theorem dLa_law_329 : decode cLa_law 329 = .ok (.iload 5, 2) := by decide +kernel
theorem dLa_law_331 : decode cLa_law 331 = .ok (.if_icmp .eq 5, 3) := by decide +kernel
theorem dLa_law_334 : decode cLa_law 334 = .ok (.iconst 0, 1) := by decide +kernel
theorem dLa_law_335 : decode cLa_law 335 = .ok (.ireturn, 1) := by decide +kernel
theorem dLa_law_336 : decode cLa_law 336 = .ok (.iload 5, 2) := by decide +kernel
theorem dLa_law_338 : decode cLa_law 338 = .ok (.ifCond .ne 14, 3) := by decide +kernel
theorem dLa_law_341 : decode cLa_law 341 = .ok (.aload_n 3, 1) := by decide +kernel
theorem dLa_law_342 : decode cLa_law 342 = .ok (.iconst 0, 1) := by decide +kernel
theorem dLa_law_343 : decode cLa_law 343 = .ok (.laload, 1) := by decide +kernel
theorem dLa_law_344 : decode cLa_law 344 = .ok (.lload 6, 2) := by decide +kernel
theorem dLa_law_346 : decode cLa_law 346 = .ok (.lcmp, 1) := by decide +kernel
theorem dLa_law_347 : decode cLa_law 347 = .ok (.ifCond .eq 5, 3) := by decide +kernel
theorem dLa_law_350 : decode cLa_law 350 = .ok (.iconst 0, 1) := by decide +kernel
theorem dLa_law_351 : decode cLa_law 351 = .ok (.ireturn, 1) := by decide +kernel
theorem dLa_law_352 : decode cLa_law 352 = .ok (.goto 207, 3) := by decide +kernel
theorem dLa_law_355 : decode cLa_law 355 = .ok (.aload_n 1, 1) := by decide +kernel
theorem dLa_law_356 : decode cLa_law 356 = .ok (.aload_n 3, 1) := by decide +kernel
theorem dLa_law_357 : decode cLa_law 357 = .ok (.invokestatic 76, 3) := by decide +kernel
theorem dLa_law_360 : decode cLa_law 360 = .ok (.istore 5, 2) := by decide +kernel
theorem dLa_law_362 : decode cLa_law 362 = .ok (.aload_n 2, 1) := by decide +kernel
theorem dLa_law_363 : decode cLa_law 363 = .ok (.invokevirtual 78, 3) := by decide +kernel
theorem dLa_law_366 : decode cLa_law 366 = .ok (.istore 6, 2) := by decide +kernel
theorem dLa_law_368 : decode cLa_law 368 = .ok (.aload_n 2, 1) := by decide +kernel
theorem dLa_law_369 : decode cLa_law 369 = .ok (.invokevirtual 53, 3) := by decide +kernel
theorem dLa_law_372 : decode cLa_law 372 = .ok (.iload 5, 2) := by decide +kernel
theorem dLa_law_374 : decode cLa_law 374 = .ok (.if_icmp .eq 5, 3) := by decide +kernel
theorem dLa_law_377 : decode cLa_law 377 = .ok (.iconst 0, 1) := by decide +kernel
theorem dLa_law_378 : decode cLa_law 378 = .ok (.ireturn, 1) := by decide +kernel
theorem dLa_law_379 : decode cLa_law 379 = .ok (.iload 5, 2) := by decide +kernel
theorem dLa_law_381 : decode cLa_law 381 = .ok (.ifCond .ne 15, 3) := by decide +kernel
theorem dLa_law_384 : decode cLa_law 384 = .ok (.aload_n 3, 1) := by decide +kernel
theorem dLa_law_385 : decode cLa_law 385 = .ok (.iconst 0, 1) := by decide +kernel
theorem dLa_law_386 : decode cLa_law 386 = .ok (.laload, 1) := by decide +kernel
theorem dLa_law_387 : decode cLa_law 387 = .ok (.iload 6, 2) := by decide +kernel
theorem dLa_law_389 : decode cLa_law 389 = .ok (.i2l, 1) := by decide +kernel
theorem dLa_law_390 : decode cLa_law 390 = .ok (.lcmp, 1) := by decide +kernel
theorem dLa_law_391 : decode cLa_law 391 = .ok (.ifCond .eq 5, 3) := by decide +kernel
theorem dLa_law_394 : decode cLa_law 394 = .ok (.iconst 0, 1) := by decide +kernel
theorem dLa_law_395 : decode cLa_law 395 = .ok (.ireturn, 1) := by decide +kernel
theorem dLa_law_396 : decode cLa_law 396 = .ok (.goto 163, 3) := by decide +kernel
theorem dLa_law_399 : decode cLa_law 399 = .ok (.aload_n 1, 1) := by decide +kernel
theorem dLa_law_400 : decode cLa_law 400 = .ok (.aload_n 0, 1) := by decide +kernel
theorem dLa_law_401 : decode cLa_law 401 = .ok (.iload 4, 2) := by decide +kernel
theorem dLa_law_403 : decode cLa_law 403 = .ok (.iconst 1, 1) := by decide +kernel
theorem dLa_law_404 : decode cLa_law 404 = .ok (.iadd, 1) := by decide +kernel
theorem dLa_law_405 : decode cLa_law 405 = .ok (.iaload, 1) := by decide +kernel
theorem dLa_law_406 : decode cLa_law 406 = .ok (.ifCond .eq 7, 3) := by decide +kernel
theorem dLa_law_409 : decode cLa_law 409 = .ok (.iconst 1, 1) := by decide +kernel
theorem dLa_law_410 : decode cLa_law 410 = .ok (.goto 4, 3) := by decide +kernel
theorem dLa_law_413 : decode cLa_law 413 = .ok (.iconst 0, 1) := by decide +kernel
theorem dLa_law_414 : decode cLa_law 414 = .ok (.aload_n 3, 1) := by decide +kernel
theorem dLa_law_415 : decode cLa_law 415 = .ok (.invokestatic 79, 3) := by decide +kernel
theorem dLa_law_418 : decode cLa_law 418 = .ok (.istore 5, 2) := by decide +kernel
theorem dLa_law_420 : decode cLa_law 420 = .ok (.aload_n 2, 1) := by decide +kernel
theorem dLa_law_421 : decode cLa_law 421 = .ok (.aload_n 0, 1) := by decide +kernel
theorem dLa_law_422 : decode cLa_law 422 = .ok (.iload 4, 2) := by decide +kernel
theorem dLa_law_424 : decode cLa_law 424 = .ok (.iconst 1, 1) := by decide +kernel
theorem dLa_law_425 : decode cLa_law 425 = .ok (.iadd, 1) := by decide +kernel
theorem dLa_law_426 : decode cLa_law 426 = .ok (.iaload, 1) := by decide +kernel
theorem dLa_law_427 : decode cLa_law 427 = .ok (.ifCond .eq 7, 3) := by decide +kernel
theorem dLa_law_430 : decode cLa_law 430 = .ok (.iconst 1, 1) := by decide +kernel
theorem dLa_law_431 : decode cLa_law 431 = .ok (.goto 4, 3) := by decide +kernel
theorem dLa_law_434 : decode cLa_law 434 = .ok (.iconst 0, 1) := by decide +kernel
theorem dLa_law_435 : decode cLa_law 435 = .ok (.invokevirtual 82, 3) := by decide +kernel
theorem dLa_law_438 : decode cLa_law 438 = .ok (.istore 6, 2) := by decide +kernel
theorem dLa_law_440 : decode cLa_law 440 = .ok (.aload_n 2, 1) := by decide +kernel
theorem dLa_law_441 : decode cLa_law 441 = .ok (.invokevirtual 53, 3) := by decide +kernel
theorem dLa_law_444 : decode cLa_law 444 = .ok (.iload 5, 2) := by decide +kernel
theorem dLa_law_446 : decode cLa_law 446 = .ok (.if_icmp .eq 5, 3) := by decide +kernel
theorem dLa_law_449 : decode cLa_law 449 = .ok (.iconst 0, 1) := by decide +kernel
theorem dLa_law_450 : decode cLa_law 450 = .ok (.ireturn, 1) := by decide +kernel
theorem dLa_law_451 : decode cLa_law 451 = .ok (.iload 5, 2) := by decide +kernel
theorem dLa_law_453 : decode cLa_law 453 = .ok (.ifCond .ne 15, 3) := by decide +kernel
theorem dLa_law_456 : decode cLa_law 456 = .ok (.aload_n 3, 1) := by decide +kernel
theorem dLa_law_457 : decode cLa_law 457 = .ok (.iconst 0, 1) := by decide +kernel
theorem dLa_law_458 : decode cLa_law 458 = .ok (.laload, 1) := by decide +kernel
theorem dLa_law_459 : decode cLa_law 459 = .ok (.iload 6, 2) := by decide +kernel
theorem dLa_law_461 : decode cLa_law 461 = .ok (.i2l, 1) := by decide +kernel
theorem dLa_law_462 : decode cLa_law 462 = .ok (.lcmp, 1) := by decide +kernel
theorem dLa_law_463 : decode cLa_law 463 = .ok (.ifCond .eq 5, 3) := by decide +kernel
theorem dLa_law_466 : decode cLa_law 466 = .ok (.iconst 0, 1) := by decide +kernel
theorem dLa_law_467 : decode cLa_law 467 = .ok (.ireturn, 1) := by decide +kernel
theorem dLa_law_468 : decode cLa_law 468 = .ok (.goto 91, 3) := by decide +kernel
theorem dLa_law_471 : decode cLa_law 471 = .ok (.aload_n 1, 1) := by decide +kernel
theorem dLa_law_472 : decode cLa_law 472 = .ok (.aload_n 0, 1) := by decide +kernel
theorem dLa_law_473 : decode cLa_law 473 = .ok (.iload 4, 2) := by decide +kernel
theorem dLa_law_475 : decode cLa_law 475 = .ok (.iconst 1, 1) := by decide +kernel
theorem dLa_law_476 : decode cLa_law 476 = .ok (.iadd, 1) := by decide +kernel
theorem dLa_law_477 : decode cLa_law 477 = .ok (.iaload, 1) := by decide +kernel
theorem dLa_law_478 : decode cLa_law 478 = .ok (.i2l, 1) := by decide +kernel
theorem dLa_law_479 : decode cLa_law 479 = .ok (.bipush 32, 2) := by decide +kernel
theorem dLa_law_481 : decode cLa_law 481 = .ok (.lshl, 1) := by decide +kernel
theorem dLa_law_482 : decode cLa_law 482 = .ok (.aload_n 0, 1) := by decide +kernel
theorem dLa_law_483 : decode cLa_law 483 = .ok (.iload 4, 2) := by decide +kernel
theorem dLa_law_485 : decode cLa_law 485 = .ok (.iconst 2, 1) := by decide +kernel
theorem dLa_law_486 : decode cLa_law 486 = .ok (.iadd, 1) := by decide +kernel
theorem dLa_law_487 : decode cLa_law 487 = .ok (.iaload, 1) := by decide +kernel
theorem dLa_law_488 : decode cLa_law 488 = .ok (.i2l, 1) := by decide +kernel
theorem dLa_law_489 : decode cLa_law 489 = .ok (.ldc2_w 41, 3) := by decide +kernel
theorem dLa_law_492 : decode cLa_law 492 = .ok (.land, 1) := by decide +kernel
theorem dLa_law_493 : decode cLa_law 493 = .ok (.lor, 1) := by decide +kernel
theorem dLa_law_494 : decode cLa_law 494 = .ok (.aload_n 3, 1) := by decide +kernel
theorem dLa_law_495 : decode cLa_law 495 = .ok (.invokestatic 83, 3) := by decide +kernel
theorem dLa_law_498 : decode cLa_law 498 = .ok (.istore 5, 2) := by decide +kernel
theorem dLa_law_500 : decode cLa_law 500 = .ok (.aload_n 2, 1) := by decide +kernel
theorem dLa_law_501 : decode cLa_law 501 = .ok (.aload_n 0, 1) := by decide +kernel
theorem dLa_law_502 : decode cLa_law 502 = .ok (.iload 4, 2) := by decide +kernel
theorem dLa_law_504 : decode cLa_law 504 = .ok (.iconst 1, 1) := by decide +kernel
theorem dLa_law_505 : decode cLa_law 505 = .ok (.iadd, 1) := by decide +kernel
theorem dLa_law_506 : decode cLa_law 506 = .ok (.iaload, 1) := by decide +kernel
theorem dLa_law_507 : decode cLa_law 507 = .ok (.i2l, 1) := by decide +kernel
theorem dLa_law_508 : decode cLa_law 508 = .ok (.bipush 32, 2) := by decide +kernel
theorem dLa_law_510 : decode cLa_law 510 = .ok (.lshl, 1) := by decide +kernel
theorem dLa_law_511 : decode cLa_law 511 = .ok (.aload_n 0, 1) := by decide +kernel
theorem dLa_law_512 : decode cLa_law 512 = .ok (.iload 4, 2) := by decide +kernel
theorem dLa_law_514 : decode cLa_law 514 = .ok (.iconst 2, 1) := by decide +kernel
theorem dLa_law_515 : decode cLa_law 515 = .ok (.iadd, 1) := by decide +kernel
theorem dLa_law_516 : decode cLa_law 516 = .ok (.iaload, 1) := by decide +kernel
theorem dLa_law_517 : decode cLa_law 517 = .ok (.i2l, 1) := by decide +kernel
theorem dLa_law_518 : decode cLa_law 518 = .ok (.ldc2_w 41, 3) := by decide +kernel
theorem dLa_law_521 : decode cLa_law 521 = .ok (.land, 1) := by decide +kernel
theorem dLa_law_522 : decode cLa_law 522 = .ok (.lor, 1) := by decide +kernel
theorem dLa_law_523 : decode cLa_law 523 = .ok (.invokevirtual 86, 3) := by decide +kernel
theorem dLa_law_526 : decode cLa_law 526 = .ok (.istore 6, 2) := by decide +kernel
theorem dLa_law_528 : decode cLa_law 528 = .ok (.aload_n 2, 1) := by decide +kernel
theorem dLa_law_529 : decode cLa_law 529 = .ok (.invokevirtual 53, 3) := by decide +kernel
theorem dLa_law_532 : decode cLa_law 532 = .ok (.iload 5, 2) := by decide +kernel
theorem dLa_law_534 : decode cLa_law 534 = .ok (.if_icmp .eq 5, 3) := by decide +kernel
theorem dLa_law_537 : decode cLa_law 537 = .ok (.iconst 0, 1) := by decide +kernel
theorem dLa_law_538 : decode cLa_law 538 = .ok (.ireturn, 1) := by decide +kernel
theorem dLa_law_539 : decode cLa_law 539 = .ok (.iload 5, 2) := by decide +kernel
theorem dLa_law_541 : decode cLa_law 541 = .ok (.ifCond .ne 15, 3) := by decide +kernel
theorem dLa_law_544 : decode cLa_law 544 = .ok (.aload_n 3, 1) := by decide +kernel
theorem dLa_law_545 : decode cLa_law 545 = .ok (.iconst 0, 1) := by decide +kernel
theorem dLa_law_546 : decode cLa_law 546 = .ok (.laload, 1) := by decide +kernel
theorem dLa_law_547 : decode cLa_law 547 = .ok (.iload 6, 2) := by decide +kernel
theorem dLa_law_549 : decode cLa_law 549 = .ok (.i2l, 1) := by decide +kernel
theorem dLa_law_550 : decode cLa_law 550 = .ok (.lcmp, 1) := by decide +kernel
theorem dLa_law_551 : decode cLa_law 551 = .ok (.ifCond .eq 5, 3) := by decide +kernel
theorem dLa_law_554 : decode cLa_law 554 = .ok (.iconst 0, 1) := by decide +kernel
theorem dLa_law_555 : decode cLa_law 555 = .ok (.ireturn, 1) := by decide +kernel
theorem dLa_law_556 : decode cLa_law 556 = .ok (.goto 3, 3) := by decide +kernel
theorem dLa_law_559 : decode cLa_law 559 = .ok (.iinc 4 3, 3) := by decide +kernel
theorem dLa_law_562 : decode cLa_law 562 = .ok (.goto (-539), 3) := by decide +kernel
theorem dLa_law_565 : decode cLa_law 565 = .ok (.iconst 1, 1) := by decide +kernel
theorem dLa_law_566 : decode cLa_law 566 = .ok (.ireturn, 1) := by decide +kernel
theorem w_0 : (Jvm.Cond.initialized "ExactReaderLaw") ∈ g_tbl := List.mem_filter.mpr ⟨List.mem_append_right _ (List.mem_of_getElem? (i := 0) (by decide +kernel)), by decide +kernel⟩
theorem w_8 : (Jvm.Cond.initialized "java/lang/Throwable") ∈ g_tbl := List.mem_filter.mpr ⟨List.mem_append_right _ (List.mem_of_getElem? (i := 8) (by decide +kernel)), by decide +kernel⟩
theorem w_11 : (Jvm.Cond.initialized "java/lang/IllegalArgumentException") ∈ g_tbl := List.mem_filter.mpr ⟨List.mem_append_right _ (List.mem_of_getElem? (i := 11) (by decide +kernel)), by decide +kernel⟩
theorem w_17 : (Jvm.Cond.initialized "java/lang/IllegalStateException") ∈ g_tbl := List.mem_filter.mpr ⟨List.mem_append_right _ (List.mem_of_getElem? (i := 17) (by decide +kernel)), by decide +kernel⟩
theorem w_26 : (Jvm.Cond.code ({ cls := "ExactReader", name := "<init>", desc := "()V" } : Jvm.MethodName) prog_1_method_1_code (1 : Nat) (Option.none : Option Jvm.ClassFile.FieldType)) ∈ g_tbl := List.mem_filter.mpr ⟨List.mem_append_right _ (List.mem_of_getElem? (i := 26) (by decide +kernel)), by decide +kernel⟩
theorem w_27 : (Jvm.Cond.methodLink "ExactReader" (1 : Nat) ({ cls := "java/lang/Object", name := "<init>", desc := "()V" } : Jvm.MethodName)) ∈ g_tbl := List.mem_filter.mpr ⟨List.mem_append_right _ (List.mem_of_getElem? (i := 27) (by decide +kernel)), by decide +kernel⟩
theorem w_28 : (Jvm.Cond.instanceMethod ({ cls := "java/lang/Object", name := "<init>", desc := "()V" } : Jvm.MethodName)) ∈ g_tbl := List.mem_filter.mpr ⟨List.mem_append_right _ (List.mem_of_getElem? (i := 28) (by decide +kernel)), by decide +kernel⟩
theorem w_29 : (Jvm.Cond.code ({ cls := "java/lang/Object", name := "<init>", desc := "()V" } : Jvm.MethodName) object_method_1_code (1 : Nat) (Option.none : Option Jvm.ClassFile.FieldType)) ∈ g_tbl := List.mem_filter.mpr ⟨List.mem_append_right _ (List.mem_of_getElem? (i := 29) (by decide +kernel)), by decide +kernel⟩
theorem w_30 : (Jvm.Cond.classLink "ExactReader" (7 : Nat) "ExactReader$NumberText") ∈ g_tbl := List.mem_filter.mpr ⟨List.mem_append_right _ (List.mem_of_getElem? (i := 30) (by decide +kernel)), by decide +kernel⟩
theorem w_31 : (Jvm.Cond.instantiable "ExactReader$NumberText" (13 : Nat)) ∈ g_tbl := List.mem_filter.mpr ⟨List.mem_append_right _ (List.mem_of_getElem? (i := 31) (by decide +kernel)), by decide +kernel⟩
theorem w_32 : (Jvm.Cond.methodLink "ExactReader" (9 : Nat) ({ cls := "ExactReader$NumberText", name := "<init>", desc := "()V" } : Jvm.MethodName)) ∈ g_tbl := List.mem_filter.mpr ⟨List.mem_append_right _ (List.mem_of_getElem? (i := 32) (by decide +kernel)), by decide +kernel⟩
theorem w_33 : (Jvm.Cond.instanceMethod ({ cls := "ExactReader$NumberText", name := "<init>", desc := "()V" } : Jvm.MethodName)) ∈ g_tbl := List.mem_filter.mpr ⟨List.mem_append_right _ (List.mem_of_getElem? (i := 33) (by decide +kernel)), by decide +kernel⟩
theorem w_34 : (Jvm.Cond.code ({ cls := "ExactReader$NumberText", name := "<init>", desc := "()V" } : Jvm.MethodName) prog_5_method_1_code (1 : Nat) (Option.none : Option Jvm.ClassFile.FieldType)) ∈ g_tbl := List.mem_filter.mpr ⟨List.mem_append_right _ (List.mem_of_getElem? (i := 34) (by decide +kernel)), by decide +kernel⟩
theorem w_35 : (Jvm.Cond.methodLink "ExactReader$NumberText" (3 : Nat) ({ cls := "java/lang/Object", name := "<init>", desc := "()V" } : Jvm.MethodName)) ∈ g_tbl := List.mem_filter.mpr ⟨List.mem_append_right _ (List.mem_of_getElem? (i := 35) (by decide +kernel)), by decide +kernel⟩
theorem w_86 : (Jvm.Cond.arrayClass Jvm.ClassFile.FieldType.char) ∈ g_tbl := List.mem_filter.mpr ⟨List.mem_append_right _ (List.mem_of_getElem? (i := 86) (by decide +kernel)), by decide +kernel⟩
theorem w_87 : (Jvm.Cond.classLink "ExactReader" (16 : Nat) "ExactReader$Measure") ∈ g_tbl := List.mem_filter.mpr ⟨List.mem_append_right _ (List.mem_of_getElem? (i := 87) (by decide +kernel)), by decide +kernel⟩
theorem w_88 : (Jvm.Cond.instantiable "ExactReader$Measure" (1 : Nat)) ∈ g_tbl := List.mem_filter.mpr ⟨List.mem_append_right _ (List.mem_of_getElem? (i := 88) (by decide +kernel)), by decide +kernel⟩
theorem w_89 : (Jvm.Cond.methodLink "ExactReader" (18 : Nat) ({ cls := "ExactReader$Measure", name := "<init>", desc := "()V" } : Jvm.MethodName)) ∈ g_tbl := List.mem_filter.mpr ⟨List.mem_append_right _ (List.mem_of_getElem? (i := 89) (by decide +kernel)), by decide +kernel⟩
theorem w_90 : (Jvm.Cond.instanceMethod ({ cls := "ExactReader$Measure", name := "<init>", desc := "()V" } : Jvm.MethodName)) ∈ g_tbl := List.mem_filter.mpr ⟨List.mem_append_right _ (List.mem_of_getElem? (i := 90) (by decide +kernel)), by decide +kernel⟩
theorem w_91 : (Jvm.Cond.code ({ cls := "ExactReader$Measure", name := "<init>", desc := "()V" } : Jvm.MethodName) prog_3_method_1_code (1 : Nat) (Option.none : Option Jvm.ClassFile.FieldType)) ∈ g_tbl := List.mem_filter.mpr ⟨List.mem_append_right _ (List.mem_of_getElem? (i := 91) (by decide +kernel)), by decide +kernel⟩
theorem w_92 : (Jvm.Cond.methodLink "ExactReader$Measure" (3 : Nat) ({ cls := "java/lang/Object", name := "<init>", desc := "()V" } : Jvm.MethodName)) ∈ g_tbl := List.mem_filter.mpr ⟨List.mem_append_right _ (List.mem_of_getElem? (i := 92) (by decide +kernel)), by decide +kernel⟩
theorem w_93 : (Jvm.Cond.classLink "ExactReader$Measure" (9 : Nat) "ExactReader$Natural") ∈ g_tbl := List.mem_filter.mpr ⟨List.mem_append_right _ (List.mem_of_getElem? (i := 93) (by decide +kernel)), by decide +kernel⟩
theorem w_94 : (Jvm.Cond.instantiable "ExactReader$Natural" (4 : Nat)) ∈ g_tbl := List.mem_filter.mpr ⟨List.mem_append_right _ (List.mem_of_getElem? (i := 94) (by decide +kernel)), by decide +kernel⟩
theorem w_95 : (Jvm.Cond.methodLink "ExactReader$Measure" (11 : Nat) ({ cls := "ExactReader$Natural", name := "<init>", desc := "()V" } : Jvm.MethodName)) ∈ g_tbl := List.mem_filter.mpr ⟨List.mem_append_right _ (List.mem_of_getElem? (i := 95) (by decide +kernel)), by decide +kernel⟩
theorem w_96 : (Jvm.Cond.instanceMethod ({ cls := "ExactReader$Natural", name := "<init>", desc := "()V" } : Jvm.MethodName)) ∈ g_tbl := List.mem_filter.mpr ⟨List.mem_append_right _ (List.mem_of_getElem? (i := 96) (by decide +kernel)), by decide +kernel⟩
theorem w_97 : (Jvm.Cond.code ({ cls := "ExactReader$Natural", name := "<init>", desc := "()V" } : Jvm.MethodName) prog_4_method_1_code (1 : Nat) (Option.none : Option Jvm.ClassFile.FieldType)) ∈ g_tbl := List.mem_filter.mpr ⟨List.mem_append_right _ (List.mem_of_getElem? (i := 97) (by decide +kernel)), by decide +kernel⟩
theorem w_98 : (Jvm.Cond.methodLink "ExactReader$Natural" (1 : Nat) ({ cls := "java/lang/Object", name := "<init>", desc := "()V" } : Jvm.MethodName)) ∈ g_tbl := List.mem_filter.mpr ⟨List.mem_append_right _ (List.mem_of_getElem? (i := 98) (by decide +kernel)), by decide +kernel⟩
theorem w_113 : (Jvm.Cond.arrayClass Jvm.ClassFile.FieldType.int) ∈ g_tbl := List.mem_filter.mpr ⟨List.mem_append_right _ (List.mem_of_getElem? (i := 113) (by decide +kernel)), by decide +kernel⟩
theorem w_118 : (Jvm.Cond.classLink "ExactReader" (23 : Nat) "ExactReader$Size") ∈ g_tbl := List.mem_filter.mpr ⟨List.mem_append_right _ (List.mem_of_getElem? (i := 118) (by decide +kernel)), by decide +kernel⟩
theorem w_119 : (Jvm.Cond.instantiable "ExactReader$Size" (3 : Nat)) ∈ g_tbl := List.mem_filter.mpr ⟨List.mem_append_right _ (List.mem_of_getElem? (i := 119) (by decide +kernel)), by decide +kernel⟩
theorem w_121 : (Jvm.Cond.instanceMethod ({ cls := "ExactReader$Size", name := "<init>", desc := "()V" } : Jvm.MethodName)) ∈ g_tbl := List.mem_filter.mpr ⟨List.mem_append_right _ (List.mem_of_getElem? (i := 121) (by decide +kernel)), by decide +kernel⟩
theorem w_122 : (Jvm.Cond.code ({ cls := "ExactReader$Size", name := "<init>", desc := "()V" } : Jvm.MethodName) prog_7_method_1_code (1 : Nat) (Option.none : Option Jvm.ClassFile.FieldType)) ∈ g_tbl := List.mem_filter.mpr ⟨List.mem_append_right _ (List.mem_of_getElem? (i := 122) (by decide +kernel)), by decide +kernel⟩
theorem w_123 : (Jvm.Cond.methodLink "ExactReader$Size" (1 : Nat) ({ cls := "java/lang/Object", name := "<init>", desc := "()V" } : Jvm.MethodName)) ∈ g_tbl := List.mem_filter.mpr ⟨List.mem_append_right _ (List.mem_of_getElem? (i := 123) (by decide +kernel)), by decide +kernel⟩
theorem w_137 : (Jvm.Cond.classLink "ExactReader" (33 : Nat) "ExactReader$Rounding") ∈ g_tbl := List.mem_filter.mpr ⟨List.mem_append_right _ (List.mem_of_getElem? (i := 137) (by decide +kernel)), by decide +kernel⟩
theorem w_138 : (Jvm.Cond.instantiable "ExactReader$Rounding" (4 : Nat)) ∈ g_tbl := List.mem_filter.mpr ⟨List.mem_append_right _ (List.mem_of_getElem? (i := 138) (by decide +kernel)), by decide +kernel⟩
theorem w_140 : (Jvm.Cond.instanceMethod ({ cls := "ExactReader$Rounding", name := "<init>", desc := "()V" } : Jvm.MethodName)) ∈ g_tbl := List.mem_filter.mpr ⟨List.mem_append_right _ (List.mem_of_getElem? (i := 140) (by decide +kernel)), by decide +kernel⟩
theorem w_141 : (Jvm.Cond.code ({ cls := "ExactReader$Rounding", name := "<init>", desc := "()V" } : Jvm.MethodName) prog_6_method_1_code (1 : Nat) (Option.none : Option Jvm.ClassFile.FieldType)) ∈ g_tbl := List.mem_filter.mpr ⟨List.mem_append_right _ (List.mem_of_getElem? (i := 141) (by decide +kernel)), by decide +kernel⟩
theorem w_142 : (Jvm.Cond.methodLink "ExactReader$Rounding" (1 : Nat) ({ cls := "java/lang/Object", name := "<init>", desc := "()V" } : Jvm.MethodName)) ∈ g_tbl := List.mem_filter.mpr ⟨List.mem_append_right _ (List.mem_of_getElem? (i := 142) (by decide +kernel)), by decide +kernel⟩
theorem w_160 : (Jvm.Cond.fieldLink "ExactReader" (30 : Nat) "ExactReader" "other" "LExactReader$Size;") ∈ g_tbl := List.mem_filter.mpr ⟨List.mem_append_right _ (List.mem_of_getElem? (i := 160) (by decide +kernel)), by decide +kernel⟩
theorem w_173 : (Jvm.Cond.methodLink "ExactReaderLaw" (43 : Nat) ({ cls := "ExactReader", name := "write", desc := "(J)I" } : Jvm.MethodName)) ∈ g_tbl := List.mem_filter.mpr ⟨List.mem_append_right _ (List.mem_of_getElem? (i := 173) (by decide +kernel)), by decide +kernel⟩
theorem w_174 : (Jvm.Cond.instanceMethod ({ cls := "ExactReader", name := "write", desc := "(J)I" } : Jvm.MethodName)) ∈ g_tbl := List.mem_filter.mpr ⟨List.mem_append_right _ (List.mem_of_getElem? (i := 174) (by decide +kernel)), by decide +kernel⟩
theorem w_175 : (Jvm.Cond.selects "ExactReader" ({ cls := "ExactReader", name := "write", desc := "(J)I" } : Jvm.MethodName) ({ cls := "ExactReader", name := "write", desc := "(J)I" } : Jvm.MethodName)) ∈ g_tbl := List.mem_filter.mpr ⟨List.mem_append_right _ (List.mem_of_getElem? (i := 175) (by decide +kernel)), by decide +kernel⟩
theorem w_189 : (Jvm.Cond.methodLink "ExactReaderLaw" (60 : Nat) ({ cls := "ExactReader", name := "wipe", desc := "()I" } : Jvm.MethodName)) ∈ g_tbl := List.mem_filter.mpr ⟨List.mem_append_right _ (List.mem_of_getElem? (i := 189) (by decide +kernel)), by decide +kernel⟩
theorem w_190 : (Jvm.Cond.instanceMethod ({ cls := "ExactReader", name := "wipe", desc := "()I" } : Jvm.MethodName)) ∈ g_tbl := List.mem_filter.mpr ⟨List.mem_append_right _ (List.mem_of_getElem? (i := 190) (by decide +kernel)), by decide +kernel⟩
theorem w_191 : (Jvm.Cond.selects "ExactReader" ({ cls := "ExactReader", name := "wipe", desc := "()I" } : Jvm.MethodName) ({ cls := "ExactReader", name := "wipe", desc := "()I" } : Jvm.MethodName)) ∈ g_tbl := List.mem_filter.mpr ⟨List.mem_append_right _ (List.mem_of_getElem? (i := 191) (by decide +kernel)), by decide +kernel⟩
theorem w_200 : (Jvm.Cond.methodLink "ExactReaderLaw" (64 : Nat) ({ cls := "ExactReader", name := "kind", desc := "()I" } : Jvm.MethodName)) ∈ g_tbl := List.mem_filter.mpr ⟨List.mem_append_right _ (List.mem_of_getElem? (i := 200) (by decide +kernel)), by decide +kernel⟩
theorem w_201 : (Jvm.Cond.instanceMethod ({ cls := "ExactReader", name := "kind", desc := "()I" } : Jvm.MethodName)) ∈ g_tbl := List.mem_filter.mpr ⟨List.mem_append_right _ (List.mem_of_getElem? (i := 201) (by decide +kernel)), by decide +kernel⟩
theorem w_202 : (Jvm.Cond.selects "ExactReader" ({ cls := "ExactReader", name := "kind", desc := "()I" } : Jvm.MethodName) ({ cls := "ExactReader", name := "kind", desc := "()I" } : Jvm.MethodName)) ∈ g_tbl := List.mem_filter.mpr ⟨List.mem_append_right _ (List.mem_of_getElem? (i := 202) (by decide +kernel)), by decide +kernel⟩
theorem w_307 : (Jvm.Cond.methodLink "ExactReaderLaw" (68 : Nat) ({ cls := "ExactReader", name := "fault", desc := "()I" } : Jvm.MethodName)) ∈ g_tbl := List.mem_filter.mpr ⟨List.mem_append_right _ (List.mem_of_getElem? (i := 307) (by decide +kernel)), by decide +kernel⟩
theorem w_308 : (Jvm.Cond.instanceMethod ({ cls := "ExactReader", name := "fault", desc := "()I" } : Jvm.MethodName)) ∈ g_tbl := List.mem_filter.mpr ⟨List.mem_append_right _ (List.mem_of_getElem? (i := 308) (by decide +kernel)), by decide +kernel⟩
theorem w_309 : (Jvm.Cond.selects "ExactReader" ({ cls := "ExactReader", name := "fault", desc := "()I" } : Jvm.MethodName) ({ cls := "ExactReader", name := "fault", desc := "()I" } : Jvm.MethodName)) ∈ g_tbl := List.mem_filter.mpr ⟨List.mem_append_right _ (List.mem_of_getElem? (i := 309) (by decide +kernel)), by decide +kernel⟩
theorem w_311 : (Jvm.Cond.methodLink "ExactReaderLaw" (47 : Nat) ({ cls := "ExactReaderLaw", name := "repeat", desc := "(LExactReader;II[J)I" } : Jvm.MethodName)) ∈ g_tbl := List.mem_filter.mpr ⟨List.mem_append_right _ (List.mem_of_getElem? (i := 311) (by decide +kernel)), by decide +kernel⟩
theorem w_312 : (Jvm.Cond.static ({ cls := "ExactReaderLaw", name := "repeat", desc := "(LExactReader;II[J)I" } : Jvm.MethodName)) ∈ g_tbl := List.mem_filter.mpr ⟨List.mem_append_right _ (List.mem_of_getElem? (i := 312) (by decide +kernel)), by decide +kernel⟩
theorem w_313 : (Jvm.Cond.codeWith ({ cls := "ExactReaderLaw", name := "repeat", desc := "(LExactReader;II[J)I" } : Jvm.MethodName) method_3_code (5 : Nat) (Option.some Jvm.ClassFile.FieldType.int) [((0 : Nat), (10 : Nat), (13 : Nat), (13 : Nat))]) ∈ g_tbl := List.mem_filter.mpr ⟨List.mem_append_right _ (List.mem_of_getElem? (i := 313) (by decide +kernel)), by decide +kernel⟩
theorem w_314 : (Jvm.Cond.classLink "ExactReaderLaw" (13 : Nat) "java/lang/IllegalArgumentException") ∈ g_tbl := List.mem_filter.mpr ⟨List.mem_append_right _ (List.mem_of_getElem? (i := 314) (by decide +kernel)), by decide +kernel⟩
theorem w_315 : (Jvm.Cond.methodLink "ExactReaderLaw" (7 : Nat) ({ cls := "ExactReader", name := "repeat", desc := "(II)I" } : Jvm.MethodName)) ∈ g_tbl := List.mem_filter.mpr ⟨List.mem_append_right _ (List.mem_of_getElem? (i := 315) (by decide +kernel)), by decide +kernel⟩
theorem w_316 : (Jvm.Cond.instanceMethod ({ cls := "ExactReader", name := "repeat", desc := "(II)I" } : Jvm.MethodName)) ∈ g_tbl := List.mem_filter.mpr ⟨List.mem_append_right _ (List.mem_of_getElem? (i := 316) (by decide +kernel)), by decide +kernel⟩
theorem w_317 : (Jvm.Cond.selects "ExactReader" ({ cls := "ExactReader", name := "repeat", desc := "(II)I" } : Jvm.MethodName) ({ cls := "ExactReader", name := "repeat", desc := "(II)I" } : Jvm.MethodName)) ∈ g_tbl := List.mem_filter.mpr ⟨List.mem_append_right _ (List.mem_of_getElem? (i := 317) (by decide +kernel)), by decide +kernel⟩
theorem w_319 : (Jvm.Cond.classLink "ExactReader" (56 : Nat) "java/lang/IllegalArgumentException") ∈ g_tbl := List.mem_filter.mpr ⟨List.mem_append_right _ (List.mem_of_getElem? (i := 319) (by decide +kernel)), by decide +kernel⟩
theorem w_320 : (Jvm.Cond.instantiable "java/lang/IllegalArgumentException" (6 : Nat)) ∈ g_tbl := List.mem_filter.mpr ⟨List.mem_append_right _ (List.mem_of_getElem? (i := 320) (by decide +kernel)), by decide +kernel⟩
theorem w_328 : (Jvm.Cond.selects "java/lang/IllegalArgumentException" ({ cls := "java/lang/Throwable", name := "fillInStackTrace", desc := "(I)Ljava/lang/Throwable;" } : Jvm.MethodName) ({ cls := "java/lang/Throwable", name := "fillInStackTrace", desc := "(I)Ljava/lang/Throwable;" } : Jvm.MethodName)) ∈ g_tbl := List.mem_filter.mpr ⟨List.mem_append_right _ (List.mem_of_getElem? (i := 328) (by decide +kernel)), by decide +kernel⟩
theorem w_329 : (Jvm.Cond.selects "java/lang/IllegalArgumentException" ({ cls := "java/lang/Throwable", name := "fillInStackTrace", desc := "()Ljava/lang/Throwable;" } : Jvm.MethodName) ({ cls := "java/lang/Throwable", name := "fillInStackTrace", desc := "()Ljava/lang/Throwable;" } : Jvm.MethodName)) ∈ g_tbl := List.mem_filter.mpr ⟨List.mem_append_right _ (List.mem_of_getElem? (i := 329) (by decide +kernel)), by decide +kernel⟩
theorem w_330 : (Jvm.Cond.lays "java/lang/IllegalArgumentException" "java/lang/Throwable" "cause" "Ljava/lang/Throwable;") ∈ g_tbl := List.mem_filter.mpr ⟨List.mem_append_right _ (List.mem_of_getElem? (i := 330) (by decide +kernel)), by decide +kernel⟩
theorem w_331 : (Jvm.Cond.lays "java/lang/Throwable" "java/lang/Throwable" "cause" "Ljava/lang/Throwable;") ∈ g_tbl := List.mem_filter.mpr ⟨List.mem_append_right _ (List.mem_of_getElem? (i := 331) (by decide +kernel)), by decide +kernel⟩
theorem w_332 : (Jvm.Cond.lays "java/lang/IllegalArgumentException" "java/lang/Throwable" "stackTrace" "[Ljava/lang/StackTraceElement;") ∈ g_tbl := List.mem_filter.mpr ⟨List.mem_append_right _ (List.mem_of_getElem? (i := 332) (by decide +kernel)), by decide +kernel⟩
theorem w_333 : (Jvm.Cond.lays "java/lang/Throwable" "java/lang/Throwable" "stackTrace" "[Ljava/lang/StackTraceElement;") ∈ g_tbl := List.mem_filter.mpr ⟨List.mem_append_right _ (List.mem_of_getElem? (i := 333) (by decide +kernel)), by decide +kernel⟩
theorem w_334 : (Jvm.Cond.lays "java/lang/IllegalArgumentException" "java/lang/Throwable" "suppressedExceptions" "Ljava/util/List;") ∈ g_tbl := List.mem_filter.mpr ⟨List.mem_append_right _ (List.mem_of_getElem? (i := 334) (by decide +kernel)), by decide +kernel⟩
theorem w_335 : (Jvm.Cond.lays "java/lang/Throwable" "java/lang/Throwable" "suppressedExceptions" "Ljava/util/List;") ∈ g_tbl := List.mem_filter.mpr ⟨List.mem_append_right _ (List.mem_of_getElem? (i := 335) (by decide +kernel)), by decide +kernel⟩
theorem w_336 : (Jvm.Cond.lays "java/lang/IllegalArgumentException" "java/lang/Throwable" "detailMessage" "Ljava/lang/String;") ∈ g_tbl := List.mem_filter.mpr ⟨List.mem_append_right _ (List.mem_of_getElem? (i := 336) (by decide +kernel)), by decide +kernel⟩
theorem w_337 : (Jvm.Cond.lays "java/lang/Throwable" "java/lang/Throwable" "detailMessage" "Ljava/lang/String;") ∈ g_tbl := List.mem_filter.mpr ⟨List.mem_append_right _ (List.mem_of_getElem? (i := 337) (by decide +kernel)), by decide +kernel⟩
theorem w_338 : (Jvm.Cond.lays "java/lang/IllegalArgumentException" "java/lang/Throwable" "backtrace" "Ljava/lang/Object;") ∈ g_tbl := List.mem_filter.mpr ⟨List.mem_append_right _ (List.mem_of_getElem? (i := 338) (by decide +kernel)), by decide +kernel⟩
theorem w_339 : (Jvm.Cond.lays "java/lang/Throwable" "java/lang/Throwable" "backtrace" "Ljava/lang/Object;") ∈ g_tbl := List.mem_filter.mpr ⟨List.mem_append_right _ (List.mem_of_getElem? (i := 339) (by decide +kernel)), by decide +kernel⟩
theorem w_340 : (Jvm.Cond.fieldLink "java/lang/Throwable" (198 : Nat) "java/lang/Throwable" "backtrace" "Ljava/lang/Object;") ∈ g_tbl := List.mem_filter.mpr ⟨List.mem_append_right _ (List.mem_of_getElem? (i := 340) (by decide +kernel)), by decide +kernel⟩
theorem w_341 : (Jvm.Cond.superclass "java/lang/Throwable" "java/lang/Object") ∈ g_tbl := List.mem_filter.mpr ⟨List.mem_append_right _ (List.mem_of_getElem? (i := 341) (by decide +kernel)), by decide +kernel⟩
theorem w_342 : (Jvm.Cond.instanceMethod ({ cls := "java/lang/Throwable", name := "<init>", desc := "()V" } : Jvm.MethodName)) ∈ g_tbl := List.mem_filter.mpr ⟨List.mem_append_right _ (List.mem_of_getElem? (i := 342) (by decide +kernel)), by decide +kernel⟩
theorem w_343 : (Jvm.Cond.code ({ cls := "java/lang/Throwable", name := "<init>", desc := "()V" } : Jvm.MethodName) prog_21_method_1_code (1 : Nat) (Option.none : Option Jvm.ClassFile.FieldType)) ∈ g_tbl := List.mem_filter.mpr ⟨List.mem_append_right _ (List.mem_of_getElem? (i := 343) (by decide +kernel)), by decide +kernel⟩
theorem w_344 : (Jvm.Cond.methodLink "java/lang/Throwable" (1 : Nat) ({ cls := "java/lang/Object", name := "<init>", desc := "()V" } : Jvm.MethodName)) ∈ g_tbl := List.mem_filter.mpr ⟨List.mem_append_right _ (List.mem_of_getElem? (i := 344) (by decide +kernel)), by decide +kernel⟩
theorem w_345 : (Jvm.Cond.fieldLink "java/lang/Throwable" (13 : Nat) "java/lang/Throwable" "UNASSIGNED_STACK" "[Ljava/lang/StackTraceElement;") ∈ g_tbl := List.mem_filter.mpr ⟨List.mem_append_right _ (List.mem_of_getElem? (i := 345) (by decide +kernel)), by decide +kernel⟩
theorem w_347 : (Jvm.Cond.fieldLink "java/lang/Throwable" (20 : Nat) "java/lang/Throwable" "SUPPRESSED_SENTINEL" "Ljava/util/List;") ∈ g_tbl := List.mem_filter.mpr ⟨List.mem_append_right _ (List.mem_of_getElem? (i := 347) (by decide +kernel)), by decide +kernel⟩
theorem w_349 : (Jvm.Cond.methodLink "java/lang/Throwable" (27 : Nat) ({ cls := "java/lang/Throwable", name := "fillInStackTrace", desc := "()Ljava/lang/Throwable;" } : Jvm.MethodName)) ∈ g_tbl := List.mem_filter.mpr ⟨List.mem_append_right _ (List.mem_of_getElem? (i := 349) (by decide +kernel)), by decide +kernel⟩
theorem w_350 : (Jvm.Cond.instanceMethod ({ cls := "java/lang/Throwable", name := "fillInStackTrace", desc := "()Ljava/lang/Throwable;" } : Jvm.MethodName)) ∈ g_tbl := List.mem_filter.mpr ⟨List.mem_append_right _ (List.mem_of_getElem? (i := 350) (by decide +kernel)), by decide +kernel⟩
theorem w_352 : (Jvm.Cond.selects "java/lang/IllegalStateException" ({ cls := "java/lang/Throwable", name := "fillInStackTrace", desc := "()Ljava/lang/Throwable;" } : Jvm.MethodName) ({ cls := "java/lang/Throwable", name := "fillInStackTrace", desc := "()Ljava/lang/Throwable;" } : Jvm.MethodName)) ∈ g_tbl := List.mem_filter.mpr ⟨List.mem_append_right _ (List.mem_of_getElem? (i := 352) (by decide +kernel)), by decide +kernel⟩
theorem w_353 : (Jvm.Cond.codeSync ({ cls := "java/lang/Throwable", name := "fillInStackTrace", desc := "()Ljava/lang/Throwable;" } : Jvm.MethodName) prog_21_method_18_code (1 : Nat) (Option.some (Jvm.ClassFile.FieldType.object "java/lang/Throwable"))) ∈ g_tbl := List.mem_filter.mpr ⟨List.mem_append_right _ (List.mem_of_getElem? (i := 353) (by decide +kernel)), by decide +kernel⟩
theorem w_354 : (Jvm.Cond.methodLink "java/lang/Throwable" (202 : Nat) ({ cls := "java/lang/Throwable", name := "fillInStackTrace", desc := "(I)Ljava/lang/Throwable;" } : Jvm.MethodName)) ∈ g_tbl := List.mem_filter.mpr ⟨List.mem_append_right _ (List.mem_of_getElem? (i := 354) (by decide +kernel)), by decide +kernel⟩
theorem w_356 : (Jvm.Cond.instanceMethod ({ cls := "java/lang/Throwable", name := "fillInStackTrace", desc := "(I)Ljava/lang/Throwable;" } : Jvm.MethodName)) ∈ g_tbl := List.mem_filter.mpr ⟨List.mem_append_right _ (List.mem_of_getElem? (i := 356) (by decide +kernel)), by decide +kernel⟩
theorem w_358 : (Jvm.Cond.native ({ cls := "java/lang/Throwable", name := "fillInStackTrace", desc := "(I)Ljava/lang/Throwable;" } : Jvm.MethodName)) ∈ g_tbl := List.mem_filter.mpr ⟨List.mem_append_right _ (List.mem_of_getElem? (i := 358) (by decide +kernel)), by decide +kernel⟩
theorem w_360 : (Jvm.Cond.methodLink "ExactReader" (60 : Nat) ({ cls := "java/lang/IllegalArgumentException", name := "<init>", desc := "(Ljava/lang/String;)V" } : Jvm.MethodName)) ∈ g_tbl := List.mem_filter.mpr ⟨List.mem_append_right _ (List.mem_of_getElem? (i := 360) (by decide +kernel)), by decide +kernel⟩
theorem w_361 : (Jvm.Cond.instanceMethod ({ cls := "java/lang/IllegalArgumentException", name := "<init>", desc := "(Ljava/lang/String;)V" } : Jvm.MethodName)) ∈ g_tbl := List.mem_filter.mpr ⟨List.mem_append_right _ (List.mem_of_getElem? (i := 361) (by decide +kernel)), by decide +kernel⟩
theorem w_362 : (Jvm.Cond.code ({ cls := "java/lang/IllegalArgumentException", name := "<init>", desc := "(Ljava/lang/String;)V" } : Jvm.MethodName) prog_12_method_2_code (2 : Nat) (Option.none : Option Jvm.ClassFile.FieldType)) ∈ g_tbl := List.mem_filter.mpr ⟨List.mem_append_right _ (List.mem_of_getElem? (i := 362) (by decide +kernel)), by decide +kernel⟩
theorem w_363 : (Jvm.Cond.methodLink "java/lang/IllegalArgumentException" (7 : Nat) ({ cls := "java/lang/RuntimeException", name := "<init>", desc := "(Ljava/lang/String;)V" } : Jvm.MethodName)) ∈ g_tbl := List.mem_filter.mpr ⟨List.mem_append_right _ (List.mem_of_getElem? (i := 363) (by decide +kernel)), by decide +kernel⟩
theorem w_364 : (Jvm.Cond.instanceMethod ({ cls := "java/lang/RuntimeException", name := "<init>", desc := "(Ljava/lang/String;)V" } : Jvm.MethodName)) ∈ g_tbl := List.mem_filter.mpr ⟨List.mem_append_right _ (List.mem_of_getElem? (i := 364) (by decide +kernel)), by decide +kernel⟩
theorem w_365 : (Jvm.Cond.code ({ cls := "java/lang/RuntimeException", name := "<init>", desc := "(Ljava/lang/String;)V" } : Jvm.MethodName) prog_17_method_2_code (2 : Nat) (Option.none : Option Jvm.ClassFile.FieldType)) ∈ g_tbl := List.mem_filter.mpr ⟨List.mem_append_right _ (List.mem_of_getElem? (i := 365) (by decide +kernel)), by decide +kernel⟩
theorem w_366 : (Jvm.Cond.methodLink "java/lang/RuntimeException" (7 : Nat) ({ cls := "java/lang/Exception", name := "<init>", desc := "(Ljava/lang/String;)V" } : Jvm.MethodName)) ∈ g_tbl := List.mem_filter.mpr ⟨List.mem_append_right _ (List.mem_of_getElem? (i := 366) (by decide +kernel)), by decide +kernel⟩
theorem w_367 : (Jvm.Cond.instanceMethod ({ cls := "java/lang/Exception", name := "<init>", desc := "(Ljava/lang/String;)V" } : Jvm.MethodName)) ∈ g_tbl := List.mem_filter.mpr ⟨List.mem_append_right _ (List.mem_of_getElem? (i := 367) (by decide +kernel)), by decide +kernel⟩
theorem w_368 : (Jvm.Cond.code ({ cls := "java/lang/Exception", name := "<init>", desc := "(Ljava/lang/String;)V" } : Jvm.MethodName) prog_11_method_2_code (2 : Nat) (Option.none : Option Jvm.ClassFile.FieldType)) ∈ g_tbl := List.mem_filter.mpr ⟨List.mem_append_right _ (List.mem_of_getElem? (i := 368) (by decide +kernel)), by decide +kernel⟩
theorem w_369 : (Jvm.Cond.methodLink "java/lang/Exception" (7 : Nat) ({ cls := "java/lang/Throwable", name := "<init>", desc := "(Ljava/lang/String;)V" } : Jvm.MethodName)) ∈ g_tbl := List.mem_filter.mpr ⟨List.mem_append_right _ (List.mem_of_getElem? (i := 369) (by decide +kernel)), by decide +kernel⟩
theorem w_370 : (Jvm.Cond.instanceMethod ({ cls := "java/lang/Throwable", name := "<init>", desc := "(Ljava/lang/String;)V" } : Jvm.MethodName)) ∈ g_tbl := List.mem_filter.mpr ⟨List.mem_append_right _ (List.mem_of_getElem? (i := 370) (by decide +kernel)), by decide +kernel⟩
theorem w_371 : (Jvm.Cond.code ({ cls := "java/lang/Throwable", name := "<init>", desc := "(Ljava/lang/String;)V" } : Jvm.MethodName) prog_21_method_2_code (2 : Nat) (Option.none : Option Jvm.ClassFile.FieldType)) ∈ g_tbl := List.mem_filter.mpr ⟨List.mem_append_right _ (List.mem_of_getElem? (i := 371) (by decide +kernel)), by decide +kernel⟩
theorem w_373 : (Jvm.Cond.fieldLink "java/lang/Throwable" (31 : Nat) "java/lang/Throwable" "detailMessage" "Ljava/lang/String;") ∈ g_tbl := List.mem_filter.mpr ⟨List.mem_append_right _ (List.mem_of_getElem? (i := 373) (by decide +kernel)), by decide +kernel⟩
theorem w_374 : (Jvm.Cond.fieldLink "java/lang/Throwable" (7 : Nat) "java/lang/Throwable" "cause" "Ljava/lang/Throwable;") ∈ g_tbl := List.mem_filter.mpr ⟨List.mem_append_right _ (List.mem_of_getElem? (i := 374) (by decide +kernel)), by decide +kernel⟩
theorem w_375 : (Jvm.Cond.fieldLink "java/lang/Throwable" (17 : Nat) "java/lang/Throwable" "stackTrace" "[Ljava/lang/StackTraceElement;") ∈ g_tbl := List.mem_filter.mpr ⟨List.mem_append_right _ (List.mem_of_getElem? (i := 375) (by decide +kernel)), by decide +kernel⟩
theorem w_376 : (Jvm.Cond.fieldLink "java/lang/Throwable" (24 : Nat) "java/lang/Throwable" "suppressedExceptions" "Ljava/util/List;") ∈ g_tbl := List.mem_filter.mpr ⟨List.mem_append_right _ (List.mem_of_getElem? (i := 376) (by decide +kernel)), by decide +kernel⟩
theorem w_385 : (Jvm.Cond.methodLink "ExactReaderLaw" (56 : Nat) ({ cls := "ExactReaderLaw", name := "cut", desc := "(LExactReader;I[J)I" } : Jvm.MethodName)) ∈ g_tbl := List.mem_filter.mpr ⟨List.mem_append_right _ (List.mem_of_getElem? (i := 385) (by decide +kernel)), by decide +kernel⟩
theorem w_386 : (Jvm.Cond.static ({ cls := "ExactReaderLaw", name := "cut", desc := "(LExactReader;I[J)I" } : Jvm.MethodName)) ∈ g_tbl := List.mem_filter.mpr ⟨List.mem_append_right _ (List.mem_of_getElem? (i := 386) (by decide +kernel)), by decide +kernel⟩
theorem w_387 : (Jvm.Cond.codeWith ({ cls := "ExactReaderLaw", name := "cut", desc := "(LExactReader;I[J)I" } : Jvm.MethodName) method_4_code (4 : Nat) (Option.some Jvm.ClassFile.FieldType.int) [((0 : Nat), (9 : Nat), (12 : Nat), (13 : Nat))]) ∈ g_tbl := List.mem_filter.mpr ⟨List.mem_append_right _ (List.mem_of_getElem? (i := 387) (by decide +kernel)), by decide +kernel⟩
theorem w_388 : (Jvm.Cond.methodLink "ExactReaderLaw" (15 : Nat) ({ cls := "ExactReader", name := "cut", desc := "(I)I" } : Jvm.MethodName)) ∈ g_tbl := List.mem_filter.mpr ⟨List.mem_append_right _ (List.mem_of_getElem? (i := 388) (by decide +kernel)), by decide +kernel⟩
theorem w_389 : (Jvm.Cond.instanceMethod ({ cls := "ExactReader", name := "cut", desc := "(I)I" } : Jvm.MethodName)) ∈ g_tbl := List.mem_filter.mpr ⟨List.mem_append_right _ (List.mem_of_getElem? (i := 389) (by decide +kernel)), by decide +kernel⟩
theorem w_390 : (Jvm.Cond.selects "ExactReader" ({ cls := "ExactReader", name := "cut", desc := "(I)I" } : Jvm.MethodName) ({ cls := "ExactReader", name := "cut", desc := "(I)I" } : Jvm.MethodName)) ∈ g_tbl := List.mem_filter.mpr ⟨List.mem_append_right _ (List.mem_of_getElem? (i := 390) (by decide +kernel)), by decide +kernel⟩
theorem w_393 : (Jvm.Cond.methodLink "ExactReaderLaw" (72 : Nat) ({ cls := "ExactReaderLaw", name := "bits", desc := "(LExactReader;[J)I" } : Jvm.MethodName)) ∈ g_tbl := List.mem_filter.mpr ⟨List.mem_append_right _ (List.mem_of_getElem? (i := 393) (by decide +kernel)), by decide +kernel⟩
theorem w_394 : (Jvm.Cond.static ({ cls := "ExactReaderLaw", name := "bits", desc := "(LExactReader;[J)I" } : Jvm.MethodName)) ∈ g_tbl := List.mem_filter.mpr ⟨List.mem_append_right _ (List.mem_of_getElem? (i := 394) (by decide +kernel)), by decide +kernel⟩
theorem w_395 : (Jvm.Cond.codeWith ({ cls := "ExactReaderLaw", name := "bits", desc := "(LExactReader;[J)I" } : Jvm.MethodName) method_5_code (3 : Nat) (Option.some Jvm.ClassFile.FieldType.int) [((0 : Nat), (7 : Nat), (10 : Nat), (23 : Nat))]) ∈ g_tbl := List.mem_filter.mpr ⟨List.mem_append_right _ (List.mem_of_getElem? (i := 395) (by decide +kernel)), by decide +kernel⟩
theorem w_396 : (Jvm.Cond.classLink "ExactReaderLaw" (23 : Nat) "java/lang/IllegalStateException") ∈ g_tbl := List.mem_filter.mpr ⟨List.mem_append_right _ (List.mem_of_getElem? (i := 396) (by decide +kernel)), by decide +kernel⟩
theorem w_397 : (Jvm.Cond.methodLink "ExactReaderLaw" (19 : Nat) ({ cls := "ExactReader", name := "bits", desc := "()J" } : Jvm.MethodName)) ∈ g_tbl := List.mem_filter.mpr ⟨List.mem_append_right _ (List.mem_of_getElem? (i := 397) (by decide +kernel)), by decide +kernel⟩
theorem w_398 : (Jvm.Cond.instanceMethod ({ cls := "ExactReader", name := "bits", desc := "()J" } : Jvm.MethodName)) ∈ g_tbl := List.mem_filter.mpr ⟨List.mem_append_right _ (List.mem_of_getElem? (i := 398) (by decide +kernel)), by decide +kernel⟩
theorem w_399 : (Jvm.Cond.selects "ExactReader" ({ cls := "ExactReader", name := "bits", desc := "()J" } : Jvm.MethodName) ({ cls := "ExactReader", name := "bits", desc := "()J" } : Jvm.MethodName)) ∈ g_tbl := List.mem_filter.mpr ⟨List.mem_append_right _ (List.mem_of_getElem? (i := 399) (by decide +kernel)), by decide +kernel⟩
theorem w_401 : (Jvm.Cond.classLink "ExactReader" (78 : Nat) "java/lang/IllegalStateException") ∈ g_tbl := List.mem_filter.mpr ⟨List.mem_append_right _ (List.mem_of_getElem? (i := 401) (by decide +kernel)), by decide +kernel⟩
theorem w_402 : (Jvm.Cond.instantiable "java/lang/IllegalStateException" (6 : Nat)) ∈ g_tbl := List.mem_filter.mpr ⟨List.mem_append_right _ (List.mem_of_getElem? (i := 402) (by decide +kernel)), by decide +kernel⟩
theorem w_404 : (Jvm.Cond.selects "java/lang/IllegalStateException" ({ cls := "java/lang/Throwable", name := "fillInStackTrace", desc := "(I)Ljava/lang/Throwable;" } : Jvm.MethodName) ({ cls := "java/lang/Throwable", name := "fillInStackTrace", desc := "(I)Ljava/lang/Throwable;" } : Jvm.MethodName)) ∈ g_tbl := List.mem_filter.mpr ⟨List.mem_append_right _ (List.mem_of_getElem? (i := 404) (by decide +kernel)), by decide +kernel⟩
theorem w_405 : (Jvm.Cond.lays "java/lang/IllegalStateException" "java/lang/Throwable" "cause" "Ljava/lang/Throwable;") ∈ g_tbl := List.mem_filter.mpr ⟨List.mem_append_right _ (List.mem_of_getElem? (i := 405) (by decide +kernel)), by decide +kernel⟩
theorem w_406 : (Jvm.Cond.lays "java/lang/IllegalStateException" "java/lang/Throwable" "stackTrace" "[Ljava/lang/StackTraceElement;") ∈ g_tbl := List.mem_filter.mpr ⟨List.mem_append_right _ (List.mem_of_getElem? (i := 406) (by decide +kernel)), by decide +kernel⟩
theorem w_407 : (Jvm.Cond.lays "java/lang/IllegalStateException" "java/lang/Throwable" "suppressedExceptions" "Ljava/util/List;") ∈ g_tbl := List.mem_filter.mpr ⟨List.mem_append_right _ (List.mem_of_getElem? (i := 407) (by decide +kernel)), by decide +kernel⟩
theorem w_408 : (Jvm.Cond.lays "java/lang/IllegalStateException" "java/lang/Throwable" "detailMessage" "Ljava/lang/String;") ∈ g_tbl := List.mem_filter.mpr ⟨List.mem_append_right _ (List.mem_of_getElem? (i := 408) (by decide +kernel)), by decide +kernel⟩
theorem w_409 : (Jvm.Cond.lays "java/lang/IllegalStateException" "java/lang/Throwable" "backtrace" "Ljava/lang/Object;") ∈ g_tbl := List.mem_filter.mpr ⟨List.mem_append_right _ (List.mem_of_getElem? (i := 409) (by decide +kernel)), by decide +kernel⟩
theorem w_411 : (Jvm.Cond.methodLink "ExactReader" (82 : Nat) ({ cls := "java/lang/IllegalStateException", name := "<init>", desc := "(Ljava/lang/String;)V" } : Jvm.MethodName)) ∈ g_tbl := List.mem_filter.mpr ⟨List.mem_append_right _ (List.mem_of_getElem? (i := 411) (by decide +kernel)), by decide +kernel⟩
theorem w_412 : (Jvm.Cond.instanceMethod ({ cls := "java/lang/IllegalStateException", name := "<init>", desc := "(Ljava/lang/String;)V" } : Jvm.MethodName)) ∈ g_tbl := List.mem_filter.mpr ⟨List.mem_append_right _ (List.mem_of_getElem? (i := 412) (by decide +kernel)), by decide +kernel⟩
theorem w_413 : (Jvm.Cond.code ({ cls := "java/lang/IllegalStateException", name := "<init>", desc := "(Ljava/lang/String;)V" } : Jvm.MethodName) prog_13_method_2_code (2 : Nat) (Option.none : Option Jvm.ClassFile.FieldType)) ∈ g_tbl := List.mem_filter.mpr ⟨List.mem_append_right _ (List.mem_of_getElem? (i := 413) (by decide +kernel)), by decide +kernel⟩
theorem w_414 : (Jvm.Cond.methodLink "java/lang/IllegalStateException" (7 : Nat) ({ cls := "java/lang/RuntimeException", name := "<init>", desc := "(Ljava/lang/String;)V" } : Jvm.MethodName)) ∈ g_tbl := List.mem_filter.mpr ⟨List.mem_append_right _ (List.mem_of_getElem? (i := 414) (by decide +kernel)), by decide +kernel⟩
theorem w_419 : (Jvm.Cond.methodLink "ExactReader" (89 : Nat) ({ cls := "ExactReader", name := "bitsRead", desc := "(LExactReader$Format;)J" } : Jvm.MethodName)) ∈ g_tbl := List.mem_filter.mpr ⟨List.mem_append_right _ (List.mem_of_getElem? (i := 419) (by decide +kernel)), by decide +kernel⟩
theorem w_421 : (Jvm.Cond.instanceMethod ({ cls := "ExactReader", name := "bitsRead", desc := "(LExactReader$Format;)J" } : Jvm.MethodName)) ∈ g_tbl := List.mem_filter.mpr ⟨List.mem_append_right _ (List.mem_of_getElem? (i := 421) (by decide +kernel)), by decide +kernel⟩
theorem w_584 : (Jvm.Cond.methodLink "ExactReaderLaw" (76 : Nat) ({ cls := "ExactReaderLaw", name := "floatBits", desc := "(LExactReader;[J)I" } : Jvm.MethodName)) ∈ g_tbl := List.mem_filter.mpr ⟨List.mem_append_right _ (List.mem_of_getElem? (i := 584) (by decide +kernel)), by decide +kernel⟩
theorem w_585 : (Jvm.Cond.static ({ cls := "ExactReaderLaw", name := "floatBits", desc := "(LExactReader;[J)I" } : Jvm.MethodName)) ∈ g_tbl := List.mem_filter.mpr ⟨List.mem_append_right _ (List.mem_of_getElem? (i := 585) (by decide +kernel)), by decide +kernel⟩
theorem w_586 : (Jvm.Cond.codeWith ({ cls := "ExactReaderLaw", name := "floatBits", desc := "(LExactReader;[J)I" } : Jvm.MethodName) method_6_code (3 : Nat) (Option.some Jvm.ClassFile.FieldType.int) [((0 : Nat), (8 : Nat), (11 : Nat), (23 : Nat))]) ∈ g_tbl := List.mem_filter.mpr ⟨List.mem_append_right _ (List.mem_of_getElem? (i := 586) (by decide +kernel)), by decide +kernel⟩
theorem w_587 : (Jvm.Cond.methodLink "ExactReaderLaw" (25 : Nat) ({ cls := "ExactReader", name := "floatBits", desc := "()I" } : Jvm.MethodName)) ∈ g_tbl := List.mem_filter.mpr ⟨List.mem_append_right _ (List.mem_of_getElem? (i := 587) (by decide +kernel)), by decide +kernel⟩
theorem w_588 : (Jvm.Cond.instanceMethod ({ cls := "ExactReader", name := "floatBits", desc := "()I" } : Jvm.MethodName)) ∈ g_tbl := List.mem_filter.mpr ⟨List.mem_append_right _ (List.mem_of_getElem? (i := 588) (by decide +kernel)), by decide +kernel⟩
theorem w_589 : (Jvm.Cond.selects "ExactReader" ({ cls := "ExactReader", name := "floatBits", desc := "()I" } : Jvm.MethodName) ({ cls := "ExactReader", name := "floatBits", desc := "()I" } : Jvm.MethodName)) ∈ g_tbl := List.mem_filter.mpr ⟨List.mem_append_right _ (List.mem_of_getElem? (i := 589) (by decide +kernel)), by decide +kernel⟩
theorem w_593 : (Jvm.Cond.methodLink "ExactReaderLaw" (79 : Nat) ({ cls := "ExactReaderLaw", name := "side", desc := "(LExactReader;Z[J)I" } : Jvm.MethodName)) ∈ g_tbl := List.mem_filter.mpr ⟨List.mem_append_right _ (List.mem_of_getElem? (i := 593) (by decide +kernel)), by decide +kernel⟩
theorem w_594 : (Jvm.Cond.static ({ cls := "ExactReaderLaw", name := "side", desc := "(LExactReader;Z[J)I" } : Jvm.MethodName)) ∈ g_tbl := List.mem_filter.mpr ⟨List.mem_append_right _ (List.mem_of_getElem? (i := 594) (by decide +kernel)), by decide +kernel⟩
theorem w_595 : (Jvm.Cond.codeWith ({ cls := "ExactReaderLaw", name := "side", desc := "(LExactReader;Z[J)I" } : Jvm.MethodName) method_7_code (4 : Nat) (Option.some Jvm.ClassFile.FieldType.int) [((0 : Nat), (9 : Nat), (12 : Nat), (23 : Nat))]) ∈ g_tbl := List.mem_filter.mpr ⟨List.mem_append_right _ (List.mem_of_getElem? (i := 595) (by decide +kernel)), by decide +kernel⟩
theorem w_596 : (Jvm.Cond.methodLink "ExactReaderLaw" (29 : Nat) ({ cls := "ExactReader", name := "side", desc := "(Z)I" } : Jvm.MethodName)) ∈ g_tbl := List.mem_filter.mpr ⟨List.mem_append_right _ (List.mem_of_getElem? (i := 596) (by decide +kernel)), by decide +kernel⟩
theorem w_597 : (Jvm.Cond.instanceMethod ({ cls := "ExactReader", name := "side", desc := "(Z)I" } : Jvm.MethodName)) ∈ g_tbl := List.mem_filter.mpr ⟨List.mem_append_right _ (List.mem_of_getElem? (i := 597) (by decide +kernel)), by decide +kernel⟩
theorem w_598 : (Jvm.Cond.selects "ExactReader" ({ cls := "ExactReader", name := "side", desc := "(Z)I" } : Jvm.MethodName) ({ cls := "ExactReader", name := "side", desc := "(Z)I" } : Jvm.MethodName)) ∈ g_tbl := List.mem_filter.mpr ⟨List.mem_append_right _ (List.mem_of_getElem? (i := 598) (by decide +kernel)), by decide +kernel⟩
theorem w_600 : (Jvm.Cond.methodLink "ExactReaderLaw" (83 : Nat) ({ cls := "ExactReaderLaw", name := "compare", desc := "(LExactReader;J[J)I" } : Jvm.MethodName)) ∈ g_tbl := List.mem_filter.mpr ⟨List.mem_append_right _ (List.mem_of_getElem? (i := 600) (by decide +kernel)), by decide +kernel⟩
theorem w_601 : (Jvm.Cond.static ({ cls := "ExactReaderLaw", name := "compare", desc := "(LExactReader;J[J)I" } : Jvm.MethodName)) ∈ g_tbl := List.mem_filter.mpr ⟨List.mem_append_right _ (List.mem_of_getElem? (i := 601) (by decide +kernel)), by decide +kernel⟩
theorem w_602 : (Jvm.Cond.codeWith ({ cls := "ExactReaderLaw", name := "compare", desc := "(LExactReader;J[J)I" } : Jvm.MethodName) method_8_code (5 : Nat) (Option.some Jvm.ClassFile.FieldType.int) [((0 : Nat), (9 : Nat), (12 : Nat), (23 : Nat)), ((0 : Nat), (9 : Nat), (16 : Nat), (13 : Nat))]) ∈ g_tbl := List.mem_filter.mpr ⟨List.mem_append_right _ (List.mem_of_getElem? (i := 602) (by decide +kernel)), by decide +kernel⟩
theorem w_603 : (Jvm.Cond.methodLink "ExactReaderLaw" (33 : Nat) ({ cls := "ExactReader", name := "compare", desc := "(J)I" } : Jvm.MethodName)) ∈ g_tbl := List.mem_filter.mpr ⟨List.mem_append_right _ (List.mem_of_getElem? (i := 603) (by decide +kernel)), by decide +kernel⟩
theorem w_604 : (Jvm.Cond.instanceMethod ({ cls := "ExactReader", name := "compare", desc := "(J)I" } : Jvm.MethodName)) ∈ g_tbl := List.mem_filter.mpr ⟨List.mem_append_right _ (List.mem_of_getElem? (i := 604) (by decide +kernel)), by decide +kernel⟩
theorem w_605 : (Jvm.Cond.selects "ExactReader" ({ cls := "ExactReader", name := "compare", desc := "(J)I" } : Jvm.MethodName) ({ cls := "ExactReader", name := "compare", desc := "(J)I" } : Jvm.MethodName)) ∈ g_tbl := List.mem_filter.mpr ⟨List.mem_append_right _ (List.mem_of_getElem? (i := 605) (by decide +kernel)), by decide +kernel⟩
theorem w_608 : (Jvm.Cond.static ({ cls := "ExactReader$Format", name := "areNoNumber", desc := "(J)Z" } : Jvm.MethodName)) ∈ g_tbl := List.mem_filter.mpr ⟨List.mem_append_right _ (List.mem_of_getElem? (i := 608) (by decide +kernel)), by decide +kernel⟩
theorem w_618 : (Jvm.Cond.instanceMethod ({ cls := "ExactReader$Size", name := "setDouble", desc := "(J)V" } : Jvm.MethodName)) ∈ g_tbl := List.mem_filter.mpr ⟨List.mem_append_right _ (List.mem_of_getElem? (i := 618) (by decide +kernel)), by decide +kernel⟩
theorem w_629 : (Jvm.Cond.instanceMethod ({ cls := "ExactReader$Size", name := "signWith", desc := "(Z)I" } : Jvm.MethodName)) ∈ g_tbl := List.mem_filter.mpr ⟨List.mem_append_right _ (List.mem_of_getElem? (i := 629) (by decide +kernel)), by decide +kernel⟩
theorem w_631 : (Jvm.Cond.methodLink "ExactReader" (124 : Nat) ({ cls := "java/lang/Integer", name := "compare", desc := "(II)I" } : Jvm.MethodName)) ∈ g_tbl := List.mem_filter.mpr ⟨List.mem_append_right _ (List.mem_of_getElem? (i := 631) (by decide +kernel)), by decide +kernel⟩
theorem w_636 : (Jvm.Cond.instanceMethod ({ cls := "ExactReader$Size", name := "order", desc := "(LExactReader$Size;)I" } : Jvm.MethodName)) ∈ g_tbl := List.mem_filter.mpr ⟨List.mem_append_right _ (List.mem_of_getElem? (i := 636) (by decide +kernel)), by decide +kernel⟩
theorem w_646 : (Jvm.Cond.code ({ cls := "ExactReaderModel", name := "<init>", desc := "()V" } : Jvm.MethodName) prog_9_method_1_code (1 : Nat) (Option.none : Option Jvm.ClassFile.FieldType)) ∈ g_tbl := List.mem_filter.mpr ⟨List.mem_append_right _ (List.mem_of_getElem? (i := 646) (by decide +kernel)), by decide +kernel⟩
theorem w_647 : (Jvm.Cond.methodLink "ExactReaderModel" (1 : Nat) ({ cls := "java/lang/Object", name := "<init>", desc := "()V" } : Jvm.MethodName)) ∈ g_tbl := List.mem_filter.mpr ⟨List.mem_append_right _ (List.mem_of_getElem? (i := 647) (by decide +kernel)), by decide +kernel⟩
theorem w_700 : (Jvm.Cond.methodLink "ExactReaderLaw" (53 : Nat) ({ cls := "ExactReaderModel", name := "thrown", desc := "()I" } : Jvm.MethodName)) ∈ g_tbl := List.mem_filter.mpr ⟨List.mem_append_right _ (List.mem_of_getElem? (i := 700) (by decide +kernel)), by decide +kernel⟩
theorem w_701 : (Jvm.Cond.instanceMethod ({ cls := "ExactReaderModel", name := "thrown", desc := "()I" } : Jvm.MethodName)) ∈ g_tbl := List.mem_filter.mpr ⟨List.mem_append_right _ (List.mem_of_getElem? (i := 701) (by decide +kernel)), by decide +kernel⟩
theorem w_702 : (Jvm.Cond.selects "ExactReaderModel" ({ cls := "ExactReaderModel", name := "thrown", desc := "()I" } : Jvm.MethodName) ({ cls := "ExactReaderModel", name := "thrown", desc := "()I" } : Jvm.MethodName)) ∈ g_tbl := List.mem_filter.mpr ⟨List.mem_append_right _ (List.mem_of_getElem? (i := 702) (by decide +kernel)), by decide +kernel⟩
theorem w_704 : (Jvm.Cond.methodLink "ExactReaderLaw" (46 : Nat) ({ cls := "ExactReaderModel", name := "write", desc := "(J)I" } : Jvm.MethodName)) ∈ g_tbl := List.mem_filter.mpr ⟨List.mem_append_right _ (List.mem_of_getElem? (i := 704) (by decide +kernel)), by decide +kernel⟩
theorem w_705 : (Jvm.Cond.instanceMethod ({ cls := "ExactReaderModel", name := "write", desc := "(J)I" } : Jvm.MethodName)) ∈ g_tbl := List.mem_filter.mpr ⟨List.mem_append_right _ (List.mem_of_getElem? (i := 705) (by decide +kernel)), by decide +kernel⟩
theorem w_706 : (Jvm.Cond.selects "ExactReaderModel" ({ cls := "ExactReaderModel", name := "write", desc := "(J)I" } : Jvm.MethodName) ({ cls := "ExactReaderModel", name := "write", desc := "(J)I" } : Jvm.MethodName)) ∈ g_tbl := List.mem_filter.mpr ⟨List.mem_append_right _ (List.mem_of_getElem? (i := 706) (by decide +kernel)), by decide +kernel⟩
theorem w_709 : (Jvm.Cond.methodLink "ExactReaderLaw" (52 : Nat) ({ cls := "ExactReaderModel", name := "repeat", desc := "(II)I" } : Jvm.MethodName)) ∈ g_tbl := List.mem_filter.mpr ⟨List.mem_append_right _ (List.mem_of_getElem? (i := 709) (by decide +kernel)), by decide +kernel⟩
theorem w_710 : (Jvm.Cond.instanceMethod ({ cls := "ExactReaderModel", name := "repeat", desc := "(II)I" } : Jvm.MethodName)) ∈ g_tbl := List.mem_filter.mpr ⟨List.mem_append_right _ (List.mem_of_getElem? (i := 710) (by decide +kernel)), by decide +kernel⟩
theorem w_711 : (Jvm.Cond.selects "ExactReaderModel" ({ cls := "ExactReaderModel", name := "repeat", desc := "(II)I" } : Jvm.MethodName) ({ cls := "ExactReaderModel", name := "repeat", desc := "(II)I" } : Jvm.MethodName)) ∈ g_tbl := List.mem_filter.mpr ⟨List.mem_append_right _ (List.mem_of_getElem? (i := 711) (by decide +kernel)), by decide +kernel⟩
theorem w_713 : (Jvm.Cond.methodLink "ExactReaderLaw" (59 : Nat) ({ cls := "ExactReaderModel", name := "cut", desc := "(I)I" } : Jvm.MethodName)) ∈ g_tbl := List.mem_filter.mpr ⟨List.mem_append_right _ (List.mem_of_getElem? (i := 713) (by decide +kernel)), by decide +kernel⟩
theorem w_714 : (Jvm.Cond.instanceMethod ({ cls := "ExactReaderModel", name := "cut", desc := "(I)I" } : Jvm.MethodName)) ∈ g_tbl := List.mem_filter.mpr ⟨List.mem_append_right _ (List.mem_of_getElem? (i := 714) (by decide +kernel)), by decide +kernel⟩
theorem w_715 : (Jvm.Cond.selects "ExactReaderModel" ({ cls := "ExactReaderModel", name := "cut", desc := "(I)I" } : Jvm.MethodName) ({ cls := "ExactReaderModel", name := "cut", desc := "(I)I" } : Jvm.MethodName)) ∈ g_tbl := List.mem_filter.mpr ⟨List.mem_append_right _ (List.mem_of_getElem? (i := 715) (by decide +kernel)), by decide +kernel⟩
theorem w_717 : (Jvm.Cond.methodLink "ExactReaderLaw" (63 : Nat) ({ cls := "ExactReaderModel", name := "wipe", desc := "()I" } : Jvm.MethodName)) ∈ g_tbl := List.mem_filter.mpr ⟨List.mem_append_right _ (List.mem_of_getElem? (i := 717) (by decide +kernel)), by decide +kernel⟩
theorem w_718 : (Jvm.Cond.instanceMethod ({ cls := "ExactReaderModel", name := "wipe", desc := "()I" } : Jvm.MethodName)) ∈ g_tbl := List.mem_filter.mpr ⟨List.mem_append_right _ (List.mem_of_getElem? (i := 718) (by decide +kernel)), by decide +kernel⟩
theorem w_719 : (Jvm.Cond.selects "ExactReaderModel" ({ cls := "ExactReaderModel", name := "wipe", desc := "()I" } : Jvm.MethodName) ({ cls := "ExactReaderModel", name := "wipe", desc := "()I" } : Jvm.MethodName)) ∈ g_tbl := List.mem_filter.mpr ⟨List.mem_append_right _ (List.mem_of_getElem? (i := 719) (by decide +kernel)), by decide +kernel⟩
theorem w_721 : (Jvm.Cond.methodLink "ExactReaderLaw" (67 : Nat) ({ cls := "ExactReaderModel", name := "kind", desc := "()I" } : Jvm.MethodName)) ∈ g_tbl := List.mem_filter.mpr ⟨List.mem_append_right _ (List.mem_of_getElem? (i := 721) (by decide +kernel)), by decide +kernel⟩
theorem w_722 : (Jvm.Cond.instanceMethod ({ cls := "ExactReaderModel", name := "kind", desc := "()I" } : Jvm.MethodName)) ∈ g_tbl := List.mem_filter.mpr ⟨List.mem_append_right _ (List.mem_of_getElem? (i := 722) (by decide +kernel)), by decide +kernel⟩
theorem w_723 : (Jvm.Cond.selects "ExactReaderModel" ({ cls := "ExactReaderModel", name := "kind", desc := "()I" } : Jvm.MethodName) ({ cls := "ExactReaderModel", name := "kind", desc := "()I" } : Jvm.MethodName)) ∈ g_tbl := List.mem_filter.mpr ⟨List.mem_append_right _ (List.mem_of_getElem? (i := 723) (by decide +kernel)), by decide +kernel⟩
theorem w_768 : (Jvm.Cond.methodLink "ExactReaderLaw" (71 : Nat) ({ cls := "ExactReaderModel", name := "fault", desc := "()I" } : Jvm.MethodName)) ∈ g_tbl := List.mem_filter.mpr ⟨List.mem_append_right _ (List.mem_of_getElem? (i := 768) (by decide +kernel)), by decide +kernel⟩
theorem w_769 : (Jvm.Cond.instanceMethod ({ cls := "ExactReaderModel", name := "fault", desc := "()I" } : Jvm.MethodName)) ∈ g_tbl := List.mem_filter.mpr ⟨List.mem_append_right _ (List.mem_of_getElem? (i := 769) (by decide +kernel)), by decide +kernel⟩
theorem w_770 : (Jvm.Cond.selects "ExactReaderModel" ({ cls := "ExactReaderModel", name := "fault", desc := "()I" } : Jvm.MethodName) ({ cls := "ExactReaderModel", name := "fault", desc := "()I" } : Jvm.MethodName)) ∈ g_tbl := List.mem_filter.mpr ⟨List.mem_append_right _ (List.mem_of_getElem? (i := 770) (by decide +kernel)), by decide +kernel⟩
theorem w_772 : (Jvm.Cond.methodLink "ExactReaderLaw" (75 : Nat) ({ cls := "ExactReaderModel", name := "bits", desc := "()J" } : Jvm.MethodName)) ∈ g_tbl := List.mem_filter.mpr ⟨List.mem_append_right _ (List.mem_of_getElem? (i := 772) (by decide +kernel)), by decide +kernel⟩
theorem w_773 : (Jvm.Cond.instanceMethod ({ cls := "ExactReaderModel", name := "bits", desc := "()J" } : Jvm.MethodName)) ∈ g_tbl := List.mem_filter.mpr ⟨List.mem_append_right _ (List.mem_of_getElem? (i := 773) (by decide +kernel)), by decide +kernel⟩
theorem w_774 : (Jvm.Cond.selects "ExactReaderModel" ({ cls := "ExactReaderModel", name := "bits", desc := "()J" } : Jvm.MethodName) ({ cls := "ExactReaderModel", name := "bits", desc := "()J" } : Jvm.MethodName)) ∈ g_tbl := List.mem_filter.mpr ⟨List.mem_append_right _ (List.mem_of_getElem? (i := 774) (by decide +kernel)), by decide +kernel⟩
theorem w_834 : (Jvm.Cond.methodLink "ExactReaderLaw" (78 : Nat) ({ cls := "ExactReaderModel", name := "floatBits", desc := "()I" } : Jvm.MethodName)) ∈ g_tbl := List.mem_filter.mpr ⟨List.mem_append_right _ (List.mem_of_getElem? (i := 834) (by decide +kernel)), by decide +kernel⟩
theorem w_835 : (Jvm.Cond.instanceMethod ({ cls := "ExactReaderModel", name := "floatBits", desc := "()I" } : Jvm.MethodName)) ∈ g_tbl := List.mem_filter.mpr ⟨List.mem_append_right _ (List.mem_of_getElem? (i := 835) (by decide +kernel)), by decide +kernel⟩
theorem w_836 : (Jvm.Cond.selects "ExactReaderModel" ({ cls := "ExactReaderModel", name := "floatBits", desc := "()I" } : Jvm.MethodName) ({ cls := "ExactReaderModel", name := "floatBits", desc := "()I" } : Jvm.MethodName)) ∈ g_tbl := List.mem_filter.mpr ⟨List.mem_append_right _ (List.mem_of_getElem? (i := 836) (by decide +kernel)), by decide +kernel⟩
theorem w_839 : (Jvm.Cond.methodLink "ExactReaderLaw" (82 : Nat) ({ cls := "ExactReaderModel", name := "side", desc := "(Z)I" } : Jvm.MethodName)) ∈ g_tbl := List.mem_filter.mpr ⟨List.mem_append_right _ (List.mem_of_getElem? (i := 839) (by decide +kernel)), by decide +kernel⟩
theorem w_840 : (Jvm.Cond.instanceMethod ({ cls := "ExactReaderModel", name := "side", desc := "(Z)I" } : Jvm.MethodName)) ∈ g_tbl := List.mem_filter.mpr ⟨List.mem_append_right _ (List.mem_of_getElem? (i := 840) (by decide +kernel)), by decide +kernel⟩
theorem w_841 : (Jvm.Cond.selects "ExactReaderModel" ({ cls := "ExactReaderModel", name := "side", desc := "(Z)I" } : Jvm.MethodName) ({ cls := "ExactReaderModel", name := "side", desc := "(Z)I" } : Jvm.MethodName)) ∈ g_tbl := List.mem_filter.mpr ⟨List.mem_append_right _ (List.mem_of_getElem? (i := 841) (by decide +kernel)), by decide +kernel⟩
theorem w_843 : (Jvm.Cond.methodLink "ExactReaderLaw" (86 : Nat) ({ cls := "ExactReaderModel", name := "compare", desc := "(J)I" } : Jvm.MethodName)) ∈ g_tbl := List.mem_filter.mpr ⟨List.mem_append_right _ (List.mem_of_getElem? (i := 843) (by decide +kernel)), by decide +kernel⟩
theorem w_844 : (Jvm.Cond.instanceMethod ({ cls := "ExactReaderModel", name := "compare", desc := "(J)I" } : Jvm.MethodName)) ∈ g_tbl := List.mem_filter.mpr ⟨List.mem_append_right _ (List.mem_of_getElem? (i := 844) (by decide +kernel)), by decide +kernel⟩
theorem w_845 : (Jvm.Cond.selects "ExactReaderModel" ({ cls := "ExactReaderModel", name := "compare", desc := "(J)I" } : Jvm.MethodName) ({ cls := "ExactReaderModel", name := "compare", desc := "(J)I" } : Jvm.MethodName)) ∈ g_tbl := List.mem_filter.mpr ⟨List.mem_append_right _ (List.mem_of_getElem? (i := 845) (by decide +kernel)), by decide +kernel⟩
theorem w_853 : (Jvm.Cond.constantLong "ExactReaderLaw" (41 : Nat) (4294967295 : Int64)) ∈ g_tbl := List.mem_filter.mpr ⟨List.mem_append_right _ (List.mem_of_getElem? (i := 853) (by decide +kernel)), by decide +kernel⟩
theorem sl_16 : Cond.selects "ExactReader" ⟨"ExactReader", "bitsRead", "(LExactReader$Format;)J"⟩ ⟨"ExactReader", "bitsRead", "(LExactReader$Format;)J"⟩ ∈ g_tbl := List.mem_filter.mpr ⟨List.mem_append_left _ (List.mem_of_getElem? (i := 16) (by decide +kernel)), by decide +kernel⟩
theorem sl_51 : Cond.selects "ExactReader$Size" ⟨"ExactReader$Size", "setDouble", "(J)V"⟩ ⟨"ExactReader$Size", "setDouble", "(J)V"⟩ ∈ g_tbl := List.mem_filter.mpr ⟨List.mem_append_left _ (List.mem_of_getElem? (i := 51) (by decide +kernel)), by decide +kernel⟩
theorem sl_52 : Cond.selects "ExactReader$Size" ⟨"ExactReader$Size", "signWith", "(Z)I"⟩ ⟨"ExactReader$Size", "signWith", "(Z)I"⟩ ∈ g_tbl := List.mem_filter.mpr ⟨List.mem_append_left _ (List.mem_of_getElem? (i := 52) (by decide +kernel)), by decide +kernel⟩
theorem sl_53 : Cond.selects "ExactReader$Size" ⟨"ExactReader$Size", "order", "(LExactReader$Size;)I"⟩ ⟨"ExactReader$Size", "order", "(LExactReader$Size;)I"⟩ ∈ g_tbl := List.mem_filter.mpr ⟨List.mem_append_left _ (List.mem_of_getElem? (i := 53) (by decide +kernel)), by decide +kernel⟩
theorem nf_mem_147 : ("ExactReader", 107, "ExactReader$Rounding", "lies", "I", "ExactReader") ∈ g_nf := List.mem_of_getElem? (i := 14) rfl
theorem nm_mem_120 : ("ExactReader", 25, (⟨"ExactReader$Size", "<init>", "()V"⟩ : MethodName), "ExactReader") ∈ g_nm := List.mem_of_getElem? (i := 0) rfl
theorem nm_mem_139 : ("ExactReader", 35, (⟨"ExactReader$Rounding", "<init>", "()V"⟩ : MethodName), "ExactReader") ∈ g_nm := List.mem_of_getElem? (i := 1) rfl
theorem nm_mem_607 : ("ExactReader", 110, (⟨"ExactReader$Format", "areNoNumber", "(J)Z"⟩ : MethodName), "ExactReader") ∈ g_nm := List.mem_of_getElem? (i := 29) rfl
theorem nm_mem_616 : ("ExactReader", 116, (⟨"ExactReader$Size", "setDouble", "(J)V"⟩ : MethodName), "ExactReader") ∈ g_nm := List.mem_of_getElem? (i := 30) rfl
theorem nm_mem_627 : ("ExactReader", 120, (⟨"ExactReader$Size", "signWith", "(Z)I"⟩ : MethodName), "ExactReader") ∈ g_nm := List.mem_of_getElem? (i := 36) rfl
theorem nm_mem_634 : ("ExactReader", 130, (⟨"ExactReader$Size", "order", "(LExactReader$Size;)I"⟩ : MethodName), "ExactReader") ∈ g_nm := List.mem_of_getElem? (i := 37) rfl
abbrev mx_Er_repeat : gM := (yEr_repeat, cEr_repeat, 4, (some .int), { frames := 6, cells := 1, slots := 6, locals := 92 })
theorem okx_Er_repeat : gOk3 mx_Er_repeat 2 1 6 := ⟨w_1, w_318, ⟨by decide +kernel, by decide +kernel⟩, by decide +kernel, rfl, rfl⟩
abbrev mx_Er_cut : gM := (yEr_cut, cEr_cut, 2, (some .int), { frames := 6, cells := 1, slots := 6, locals := 92 })
theorem okx_Er_cut : gOk3 mx_Er_cut 1 1 6 := ⟨w_1, w_391, ⟨by decide +kernel, by decide +kernel⟩, by decide +kernel, rfl, rfl⟩
abbrev mx_Er_bits : gM := (yEr_bits, cEr_bits, 1, (some .long), { frames := 8, cells := 1, slots := 6, locals := 185 })
theorem okx_Er_bits : gOk3 mx_Er_bits 0 1 6 := ⟨w_1, w_400, ⟨by decide +kernel, by decide +kernel⟩, by decide +kernel, rfl, rfl⟩
abbrev mx_Er_floatBits : gM := (yEr_floatBits, cEr_floatBits, 1, (some .int), { frames := 8, cells := 1, slots := 6, locals := 185 })
theorem okx_Er_floatBits : gOk3 mx_Er_floatBits 0 1 6 := ⟨w_1, w_590, ⟨by decide +kernel, by decide +kernel⟩, by decide +kernel, rfl, rfl⟩
abbrev mx_Er_side : gM := (yEr_side, cEr_side, 2, (some .int), { frames := 7, cells := 1, slots := 6, locals := 162 })
theorem okx_Er_side : gOk3 mx_Er_side 1 1 6 := ⟨w_1, w_599, ⟨by decide +kernel, by decide +kernel⟩, by decide +kernel, rfl, rfl⟩
abbrev mx_Er_compare : gM := (yEr_compare, cEr_compare, 5, (some .int), { frames := 7, cells := 1, slots := 6, locals := 162 })
theorem okx_Er_compare : gOk3 mx_Er_compare 1 1 6 := ⟨w_1, w_606, ⟨by decide +kernel, by decide +kernel⟩, by decide +kernel, rfl, rfl⟩
abbrev mx_La_bits : gM := (yLa_bits, cLa_bits, 3, (some .int), { frames := 9, cells := 1, slots := 6, locals := 205 })
def hh_La_bits : List (Nat × Nat × Nat × Nat) := [(0, 7, 10, 23)]
theorem okx_La_bits : gOkW mx_La_bits hh_La_bits 2 1 6 := ⟨w_0, w_395, ⟨by decide +kernel, by decide +kernel⟩, by decide +kernel, rfl, rfl⟩
abbrev mx_La_compare : gM := (yLa_compare, cLa_compare, 5, (some .int), { frames := 8, cells := 1, slots := 6, locals := 186 })
def hh_La_compare : List (Nat × Nat × Nat × Nat) := [(0, 9, 12, 23), (0, 9, 16, 13)]
theorem okx_La_compare : gOkW mx_La_compare hh_La_compare 3 1 6 := ⟨w_0, w_602, ⟨by decide +kernel, by decide +kernel⟩, by decide +kernel, rfl, rfl⟩
abbrev mx_La_cut : gM := (yLa_cut, cLa_cut, 4, (some .int), { frames := 7, cells := 1, slots := 6, locals := 113 })
def hh_La_cut : List (Nat × Nat × Nat × Nat) := [(0, 9, 12, 13)]
theorem okx_La_cut : gOkW mx_La_cut hh_La_cut 3 1 6 := ⟨w_0, w_387, ⟨by decide +kernel, by decide +kernel⟩, by decide +kernel, rfl, rfl⟩
abbrev mx_La_floatBits : gM := (yLa_floatBits, cLa_floatBits, 3, (some .int), { frames := 9, cells := 1, slots := 6, locals := 205 })
def hh_La_floatBits : List (Nat × Nat × Nat × Nat) := [(0, 8, 11, 23)]
theorem okx_La_floatBits : gOkW mx_La_floatBits hh_La_floatBits 2 1 6 := ⟨w_0, w_586, ⟨by decide +kernel, by decide +kernel⟩, by decide +kernel, rfl, rfl⟩
abbrev mx_La_repeat : gM := (yLa_repeat, cLa_repeat, 5, (some .int), { frames := 7, cells := 1, slots := 6, locals := 115 })
def hh_La_repeat : List (Nat × Nat × Nat × Nat) := [(0, 10, 13, 13)]
theorem okx_La_repeat : gOkW mx_La_repeat hh_La_repeat 4 1 6 := ⟨w_0, w_313, ⟨by decide +kernel, by decide +kernel⟩, by decide +kernel, rfl, rfl⟩
abbrev mx_La_side : gM := (yLa_side, cLa_side, 4, (some .int), { frames := 8, cells := 1, slots := 6, locals := 183 })
def hh_La_side : List (Nat × Nat × Nat × Nat) := [(0, 9, 12, 23)]
theorem okx_La_side : gOkW mx_La_side hh_La_side 3 1 6 := ⟨w_0, w_595, ⟨by decide +kernel, by decide +kernel⟩, by decide +kernel, rfl, rfl⟩
abbrev mx_Si_init : gM := (ySi_init, cSi_init, 1, none, { frames := 1, cells := 0, slots := 0, locals := 16 })
theorem okx_Si_init : gOk3 mx_Si_init 0 0 0 := ⟨w_5, w_122, ⟨by decide +kernel, by decide +kernel⟩, by decide +kernel, rfl, rfl⟩
abbrev mx_Ro_init : gM := (yRo_init, cRo_init, 1, none, { frames := 1, cells := 0, slots := 0, locals := 16 })
theorem okx_Ro_init : gOk3 mx_Ro_init 0 0 0 := ⟨w_6, w_141, ⟨by decide +kernel, by decide +kernel⟩, by decide +kernel, rfl, rfl⟩
abbrev mx_Na_init : gM := (yNa_init, cNa_init, 1, none, { frames := 1, cells := 1, slots := 100, locals := 16 })
theorem okx_Na_init : gOk3 mx_Na_init 0 1 100 := ⟨w_4, w_97, ⟨by decide +kernel, by decide +kernel⟩, by decide +kernel, rfl, rfl⟩
abbrev mx_Nt_init : gM := (yNt_init, cNt_init, 1, none, { frames := 1, cells := 1, slots := 4096, locals := 16 })
theorem okx_Nt_init : gOk3 mx_Nt_init 0 1 4096 := ⟨w_2, w_34, ⟨by decide +kernel, by decide +kernel⟩, by decide +kernel, rfl, rfl⟩
abbrev mx_Mo_init : gM := (yMo_init, cMo_init, 1, none, { frames := 1, cells := 3, slots := 8992, locals := 16 })
theorem okx_Mo_init : gOk3 mx_Mo_init 0 3 8992 := ⟨w_7, w_646, ⟨by decide +kernel, by decide +kernel⟩, by decide +kernel, rfl, rfl⟩
abbrev mx_Ms_init : gM := (yMs_init, cMs_init, 1, none, { frames := 2, cells := 2, slots := 104, locals := 36 })
theorem okx_Ms_init : gOk3 mx_Ms_init 0 2 104 := ⟨w_3, w_91, ⟨by decide +kernel, by decide +kernel⟩, by decide +kernel, rfl, rfl⟩
abbrev mx_Er_init : gM := (yEr_init, cEr_init, 1, none, { frames := 3, cells := 8, slots := 4224, locals := 56 })
theorem okx_Er_init : gOk3 mx_Er_init 0 8 4224 := ⟨w_1, w_26, ⟨by decide +kernel, by decide +kernel⟩, by decide +kernel, rfl, rfl⟩
abbrev mx_La_law : gM := (yLa_law, cLa_law, 8, (some .boolean), { frames := 12, cells := 1045, slots := 21473, locals := 454 })
theorem own_IAE : ∀ w ∈ Bundle.ownAtoms "ExactReader" 60 "java/lang/IllegalArgumentException" g_up, g_own w := List.forall_mem_cons.mpr ⟨Or.inl w_8, List.forall_mem_cons.mpr ⟨Or.inl w_341, List.forall_mem_cons.mpr ⟨Or.inl w_350, List.forall_mem_cons.mpr ⟨Or.inl w_353, List.forall_mem_cons.mpr ⟨Or.inl w_356, List.forall_mem_cons.mpr ⟨Or.inl w_358, List.forall_mem_cons.mpr ⟨Or.inl w_342, List.forall_mem_cons.mpr ⟨Or.inl w_343, List.forall_mem_cons.mpr ⟨Or.inl w_28, List.forall_mem_cons.mpr ⟨Or.inl w_29, List.forall_mem_cons.mpr ⟨Or.inl w_344, List.forall_mem_cons.mpr ⟨Or.inl w_349, List.forall_mem_cons.mpr ⟨Or.inl w_354, List.forall_mem_cons.mpr ⟨Or.inl w_374, List.forall_mem_cons.mpr ⟨Or.inl w_331, List.forall_mem_cons.mpr ⟨Or.inl w_375, List.forall_mem_cons.mpr ⟨Or.inl w_333, List.forall_mem_cons.mpr ⟨Or.inl w_376, List.forall_mem_cons.mpr ⟨Or.inl w_335, List.forall_mem_cons.mpr ⟨Or.inl w_345, List.forall_mem_cons.mpr ⟨Or.inr (Or.inr (Or.inr (Or.inr (Or.inl rfl)))), List.forall_mem_cons.mpr ⟨Or.inl w_347, List.forall_mem_cons.mpr ⟨Or.inr (Or.inr (Or.inr (Or.inr (Or.inr rfl)))), List.forall_mem_cons.mpr ⟨Or.inl w_337, List.forall_mem_cons.mpr ⟨Or.inl w_370, List.forall_mem_cons.mpr ⟨Or.inl w_371, List.forall_mem_cons.mpr ⟨Or.inl w_373, List.forall_mem_cons.mpr ⟨Or.inl w_337, List.forall_mem_cons.mpr ⟨Or.inl w_361, List.forall_mem_cons.mpr ⟨Or.inl w_362, List.forall_mem_cons.mpr ⟨Or.inl w_363, List.forall_mem_cons.mpr ⟨Or.inl w_364, List.forall_mem_cons.mpr ⟨Or.inr (Or.inl (List.mem_of_getElem? (i := 2) rfl)), List.forall_mem_cons.mpr ⟨Or.inl w_364, List.forall_mem_cons.mpr ⟨Or.inl w_365, List.forall_mem_cons.mpr ⟨Or.inl w_366, List.forall_mem_cons.mpr ⟨Or.inl w_367, List.forall_mem_cons.mpr ⟨Or.inr (Or.inl (List.mem_of_getElem? (i := 3) rfl)), List.forall_mem_cons.mpr ⟨Or.inl w_367, List.forall_mem_cons.mpr ⟨Or.inl w_368, List.forall_mem_cons.mpr ⟨Or.inl w_369, List.forall_mem_cons.mpr ⟨Or.inl w_370, List.forall_mem_cons.mpr ⟨Or.inr (Or.inl (List.mem_of_getElem? (i := 4) rfl)), List.forall_mem_cons.mpr ⟨Or.inl w_360, List.forall_mem_cons.mpr ⟨Or.inl w_320, List.forall_mem_cons.mpr ⟨Or.inr (Or.inl (List.mem_of_getElem? (i := 0) rfl)), List.forall_mem_cons.mpr ⟨Or.inl w_328, List.forall_mem_cons.mpr ⟨Or.inl w_329, List.forall_mem_cons.mpr ⟨Or.inl w_330, List.forall_mem_cons.mpr ⟨Or.inl w_332, List.forall_mem_cons.mpr ⟨Or.inl w_334, List.forall_mem_cons.mpr ⟨Or.inl w_336, List.forall_mem_cons.mpr ⟨Or.inr (Or.inr (Or.inl rfl)), List.forall_mem_cons.mpr ⟨Or.inr (Or.inr (Or.inr (Or.inl rfl))), List.forall_mem_cons.mpr ⟨Or.inl w_340, List.forall_mem_cons.mpr ⟨Or.inl w_339, List.forall_mem_cons.mpr ⟨Or.inl w_338, (fun _ h => nomatch h)⟩⟩⟩⟩⟩⟩⟩⟩⟩⟩⟩⟩⟩⟩⟩⟩⟩⟩⟩⟩⟩⟩⟩⟩⟩⟩⟩⟩⟩⟩⟩⟩⟩⟩⟩⟩⟩⟩⟩⟩⟩⟩⟩⟩⟩⟩⟩⟩⟩⟩⟩⟩⟩⟩⟩⟩⟩
theorem own_ISE : ∀ w ∈ Bundle.ownAtoms "ExactReader" 82 "java/lang/IllegalStateException" g_up, g_own w := List.forall_mem_cons.mpr ⟨Or.inl w_8, List.forall_mem_cons.mpr ⟨Or.inl w_341, List.forall_mem_cons.mpr ⟨Or.inl w_350, List.forall_mem_cons.mpr ⟨Or.inl w_353, List.forall_mem_cons.mpr ⟨Or.inl w_356, List.forall_mem_cons.mpr ⟨Or.inl w_358, List.forall_mem_cons.mpr ⟨Or.inl w_342, List.forall_mem_cons.mpr ⟨Or.inl w_343, List.forall_mem_cons.mpr ⟨Or.inl w_28, List.forall_mem_cons.mpr ⟨Or.inl w_29, List.forall_mem_cons.mpr ⟨Or.inl w_344, List.forall_mem_cons.mpr ⟨Or.inl w_349, List.forall_mem_cons.mpr ⟨Or.inl w_354, List.forall_mem_cons.mpr ⟨Or.inl w_374, List.forall_mem_cons.mpr ⟨Or.inl w_331, List.forall_mem_cons.mpr ⟨Or.inl w_375, List.forall_mem_cons.mpr ⟨Or.inl w_333, List.forall_mem_cons.mpr ⟨Or.inl w_376, List.forall_mem_cons.mpr ⟨Or.inl w_335, List.forall_mem_cons.mpr ⟨Or.inl w_345, List.forall_mem_cons.mpr ⟨Or.inr (Or.inr (Or.inr (Or.inr (Or.inl rfl)))), List.forall_mem_cons.mpr ⟨Or.inl w_347, List.forall_mem_cons.mpr ⟨Or.inr (Or.inr (Or.inr (Or.inr (Or.inr rfl)))), List.forall_mem_cons.mpr ⟨Or.inl w_337, List.forall_mem_cons.mpr ⟨Or.inl w_370, List.forall_mem_cons.mpr ⟨Or.inl w_371, List.forall_mem_cons.mpr ⟨Or.inl w_373, List.forall_mem_cons.mpr ⟨Or.inl w_337, List.forall_mem_cons.mpr ⟨Or.inl w_412, List.forall_mem_cons.mpr ⟨Or.inl w_413, List.forall_mem_cons.mpr ⟨Or.inl w_414, List.forall_mem_cons.mpr ⟨Or.inl w_364, List.forall_mem_cons.mpr ⟨Or.inr (Or.inl (List.mem_of_getElem? (i := 2) rfl)), List.forall_mem_cons.mpr ⟨Or.inl w_364, List.forall_mem_cons.mpr ⟨Or.inl w_365, List.forall_mem_cons.mpr ⟨Or.inl w_366, List.forall_mem_cons.mpr ⟨Or.inl w_367, List.forall_mem_cons.mpr ⟨Or.inr (Or.inl (List.mem_of_getElem? (i := 3) rfl)), List.forall_mem_cons.mpr ⟨Or.inl w_367, List.forall_mem_cons.mpr ⟨Or.inl w_368, List.forall_mem_cons.mpr ⟨Or.inl w_369, List.forall_mem_cons.mpr ⟨Or.inl w_370, List.forall_mem_cons.mpr ⟨Or.inr (Or.inl (List.mem_of_getElem? (i := 4) rfl)), List.forall_mem_cons.mpr ⟨Or.inl w_411, List.forall_mem_cons.mpr ⟨Or.inl w_402, List.forall_mem_cons.mpr ⟨Or.inr (Or.inl (List.mem_of_getElem? (i := 1) rfl)), List.forall_mem_cons.mpr ⟨Or.inl w_404, List.forall_mem_cons.mpr ⟨Or.inl w_352, List.forall_mem_cons.mpr ⟨Or.inl w_405, List.forall_mem_cons.mpr ⟨Or.inl w_406, List.forall_mem_cons.mpr ⟨Or.inl w_407, List.forall_mem_cons.mpr ⟨Or.inl w_408, List.forall_mem_cons.mpr ⟨Or.inr (Or.inr (Or.inl rfl)), List.forall_mem_cons.mpr ⟨Or.inr (Or.inr (Or.inr (Or.inl rfl))), List.forall_mem_cons.mpr ⟨Or.inl w_340, List.forall_mem_cons.mpr ⟨Or.inl w_339, List.forall_mem_cons.mpr ⟨Or.inl w_409, (fun _ h => nomatch h)⟩⟩⟩⟩⟩⟩⟩⟩⟩⟩⟩⟩⟩⟩⟩⟩⟩⟩⟩⟩⟩⟩⟩⟩⟩⟩⟩⟩⟩⟩⟩⟩⟩⟩⟩⟩⟩⟩⟩⟩⟩⟩⟩⟩⟩⟩⟩⟩⟩⟩⟩⟩⟩⟩⟩⟩⟩
theorem t_Er_repeat_16 {l : Launch} {G : gG} {w0 : va_W} {lv : List (Nat × Value)} {ws : va_W} (hl9 : l.stackTraces = false) : gA3 l G mx_Er_repeat tb0 w0 (.inr (.inl ("java/lang/IllegalArgumentException", ws))) 0 0 16 lv [] ws :=
  z_throw hl9 dEr_repeat_16 dEr_repeat_19 dEr_repeat_20 dEr_repeat_22 dEr_repeat_25 w_319 w_11 (List.mem_of_getElem? (i := 2) rfl) (by decide +kernel) own_IAE (by decide) (by decide) (by decide) (by decide) rfl

theorem t_Er_cut_4 {l : Launch} {G : gG} {w0 : va_W} {lv : List (Nat × Value)} {ws : va_W} (hl9 : l.stackTraces = false) : gA3 l G mx_Er_cut tb0 w0 (.inr (.inl ("java/lang/IllegalArgumentException", ws))) 0 0 4 lv [] ws :=
  z_throw hl9 dEr_cut_4 dEr_cut_7 dEr_cut_8 dEr_cut_10 dEr_cut_13 w_319 w_11 (List.mem_of_getElem? (i := 3) rfl) (by decide +kernel) own_IAE (by decide) (by decide) (by decide) (by decide) rfl

theorem t_Er_bits_18 {l : Launch} {G : gG} {w0 : va_W} {lv : List (Nat × Value)} {ws : va_W} (hl9 : l.stackTraces = false) : gA3 l G mx_Er_bits tb0 w0 (.inr (.inl ("java/lang/IllegalStateException", ws))) 0 0 18 lv [] ws :=
  z_throw hl9 dEr_bits_18 dEr_bits_21 dEr_bits_22 dEr_bits_24 dEr_bits_27 w_401 w_17 (List.mem_of_getElem? (i := 4) rfl) (by decide +kernel) own_ISE (by decide) (by decide) (by decide) (by decide) rfl

theorem t_Er_floatBits_18 {l : Launch} {G : gG} {w0 : va_W} {lv : List (Nat × Value)} {ws : va_W} (hl9 : l.stackTraces = false) : gA3 l G mx_Er_floatBits tb0 w0 (.inr (.inl ("java/lang/IllegalStateException", ws))) 0 0 18 lv [] ws :=
  z_throw hl9 dEr_floatBits_18 dEr_floatBits_21 dEr_floatBits_22 dEr_floatBits_24 dEr_floatBits_27 w_401 w_17 (List.mem_of_getElem? (i := 4) rfl) (by decide +kernel) own_ISE (by decide) (by decide) (by decide) (by decide) rfl

theorem t_Er_side_18 {l : Launch} {G : gG} {w0 : va_W} {lv : List (Nat × Value)} {ws : va_W} (hl9 : l.stackTraces = false) : gA3 l G mx_Er_side tb0 w0 (.inr (.inl ("java/lang/IllegalStateException", ws))) 0 0 18 lv [] ws :=
  z_throw hl9 dEr_side_18 dEr_side_21 dEr_side_22 dEr_side_24 dEr_side_27 w_401 w_17 (List.mem_of_getElem? (i := 4) rfl) (by decide +kernel) own_ISE (by decide) (by decide) (by decide) (by decide) rfl

theorem t_Er_compare_18 {l : Launch} {G : gG} {w0 : va_W} {lv : List (Nat × Value)} {ws : va_W} (hl9 : l.stackTraces = false) : gA3 l G mx_Er_compare tb0 w0 (.inr (.inl ("java/lang/IllegalStateException", ws))) 0 0 18 lv [] ws :=
  z_throw hl9 dEr_compare_18 dEr_compare_21 dEr_compare_22 dEr_compare_24 dEr_compare_27 w_401 w_17 (List.mem_of_getElem? (i := 4) rfl) (by decide +kernel) own_ISE (by decide) (by decide) (by decide) (by decide) rfl

theorem t_Er_compare_46 {l : Launch} {G : gG} {w0 : va_W} {lv : List (Nat × Value)} {ws : va_W} (hl9 : l.stackTraces = false) : gA3 l G mx_Er_compare tb0 w0 (.inr (.inl ("java/lang/IllegalArgumentException", ws))) 0 0 46 lv [] ws :=
  z_throw hl9 dEr_compare_46 dEr_compare_49 dEr_compare_50 dEr_compare_52 dEr_compare_55 w_319 w_11 (List.mem_of_getElem? (i := 5) rfl) (by decide +kernel) own_IAE (by decide) (by decide) (by decide) (by decide) rfl
