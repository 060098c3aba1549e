theorem dMo_digits_62 : decode cMo_digits 62 = .ok (.getfield 39, 3) := by decide +kernel
theorem dMo_digits_65 : decode cMo_digits 65 = .ok (.iconst 1, 1) := by decide +kernel
theorem dMo_digits_66 : decode cMo_digits 66 = .ok (.iadd, 1) := by decide +kernel
theorem dMo_digits_67 : decode cMo_digits 67 = .ok (.putfield 39, 3) := by decide +kernel
theorem dMo_digits_70 : decode cMo_digits 70 = .ok (.goto 65, 3) := by decide +kernel
theorem dMo_digits_73 : decode cMo_digits 73 = .ok (.aload_n 0, 1) := by decide +kernel
theorem dMo_digits_74 : decode cMo_digits 74 = .ok (.invokevirtual 35, 3) := by decide +kernel
theorem dMo_digits_77 : decode cMo_digits 77 = .ok (.bipush 46, 2) := by decide +kernel
theorem dMo_digits_79 : decode cMo_digits 79 = .ok (.if_icmp .ne 21, 3) := by decide +kernel
theorem dMo_digits_82 : decode cMo_digits 82 = .ok (.aload_n 0, 1) := by decide +kernel
theorem dMo_digits_83 : decode cMo_digits 83 = .ok (.getfield 42, 3) := by decide +kernel
theorem dMo_digits_86 : decode cMo_digits 86 = .ok (.ifCond .ge 14, 3) := by decide +kernel
theorem dMo_digits_89 : decode cMo_digits 89 = .ok (.aload_n 0, 1) := by decide +kernel
theorem dMo_digits_90 : decode cMo_digits 90 = .ok (.aload_n 0, 1) := by decide +kernel
theorem dMo_digits_91 : decode cMo_digits 91 = .ok (.getfield 39, 3) := by decide +kernel
theorem dMo_digits_94 : decode cMo_digits 94 = .ok (.putfield 42, 3) := by decide +kernel
theorem dMo_digits_97 : decode cMo_digits 97 = .ok (.goto 38, 3) := by decide +kernel
theorem dMo_digits_100 : decode cMo_digits 100 = .ok (.aload_n 0, 1) := by decide +kernel
theorem dMo_digits_101 : decode cMo_digits 101 = .ok (.aload_n 0, 1) := by decide +kernel
theorem dMo_digits_102 : decode cMo_digits 102 = .ok (.getfield 42, 3) := by decide +kernel
theorem dMo_digits_105 : decode cMo_digits 105 = .ok (.ifCond .ge 10, 3) := by decide +kernel
theorem dMo_digits_108 : decode cMo_digits 108 = .ok (.aload_n 0, 1) := by decide +kernel
theorem dMo_digits_109 : decode cMo_digits 109 = .ok (.getfield 39, 3) := by decide +kernel
theorem dMo_digits_112 : decode cMo_digits 112 = .ok (.goto 7, 3) := by decide +kernel
theorem dMo_digits_115 : decode cMo_digits 115 = .ok (.aload_n 0, 1) := by decide +kernel
theorem dMo_digits_116 : decode cMo_digits 116 = .ok (.getfield 42, 3) := by decide +kernel
theorem dMo_digits_119 : decode cMo_digits 119 = .ok (.putfield 42, 3) := by decide +kernel
theorem dMo_digits_122 : decode cMo_digits 122 = .ok (.aload_n 0, 1) := by decide +kernel
theorem dMo_digits_123 : decode cMo_digits 123 = .ok (.getfield 39, 3) := by decide +kernel
theorem dMo_digits_126 : decode cMo_digits 126 = .ok (.ifCond .le 7, 3) := by decide +kernel
theorem dMo_digits_129 : decode cMo_digits 129 = .ok (.iconst 1, 1) := by decide +kernel
theorem dMo_digits_130 : decode cMo_digits 130 = .ok (.goto 4, 3) := by decide +kernel
theorem dMo_digits_133 : decode cMo_digits 133 = .ok (.iconst 0, 1) := by decide +kernel
theorem dMo_digits_134 : decode cMo_digits 134 = .ok (.ireturn, 1) := by decide +kernel
theorem dMo_digits_135 : decode cMo_digits 135 = .ok (.aload_n 0, 1) := by decide +kernel
theorem dMo_digits_136 : decode cMo_digits 136 = .ok (.dup, 1) := by decide +kernel
theorem dMo_digits_137 : decode cMo_digits 137 = .ok (.getfield 28, 3) := by decide +kernel
theorem dMo_digits_140 : decode cMo_digits 140 = .ok (.iconst 1, 1) := by decide +kernel
theorem dMo_digits_141 : decode cMo_digits 141 = .ok (.iadd, 1) := by decide +kernel
theorem dMo_digits_142 : decode cMo_digits 142 = .ok (.putfield 28, 3) := by decide +kernel
theorem dMo_digits_145 : decode cMo_digits 145 = .ok (.goto (-135), 3) := by decide +kernel
theorem dMo_hex_0 : decode cMo_hex 0 = .ok (.iload_n 0, 1) := by decide +kernel
theorem dMo_hex_1 : decode cMo_hex 1 = .ok (.invokestatic 31, 3) := by decide +kernel
theorem dMo_hex_4 : decode cMo_hex 4 = .ok (.ifCond .eq 10, 3) := by decide +kernel
theorem dMo_hex_7 : decode cMo_hex 7 = .ok (.iload_n 0, 1) := by decide +kernel
theorem dMo_hex_8 : decode cMo_hex 8 = .ok (.bipush 48, 2) := by decide +kernel
theorem dMo_hex_10 : decode cMo_hex 10 = .ok (.isub, 1) := by decide +kernel
theorem dMo_hex_11 : decode cMo_hex 11 = .ok (.goto 48, 3) := by decide +kernel
theorem dMo_hex_14 : decode cMo_hex 14 = .ok (.iload_n 0, 1) := by decide +kernel
theorem dMo_hex_15 : decode cMo_hex 15 = .ok (.bipush 97, 2) := by decide +kernel
theorem dMo_hex_17 : decode cMo_hex 17 = .ok (.if_icmp .lt 19, 3) := by decide +kernel
theorem dMo_hex_20 : decode cMo_hex 20 = .ok (.iload_n 0, 1) := by decide +kernel
theorem dMo_hex_21 : decode cMo_hex 21 = .ok (.bipush 102, 2) := by decide +kernel
theorem dMo_hex_23 : decode cMo_hex 23 = .ok (.if_icmp .gt 13, 3) := by decide +kernel
theorem dMo_hex_26 : decode cMo_hex 26 = .ok (.iload_n 0, 1) := by decide +kernel
theorem dMo_hex_27 : decode cMo_hex 27 = .ok (.bipush 97, 2) := by decide +kernel
theorem dMo_hex_29 : decode cMo_hex 29 = .ok (.isub, 1) := by decide +kernel
theorem dMo_hex_30 : decode cMo_hex 30 = .ok (.bipush 10, 2) := by decide +kernel
theorem dMo_hex_32 : decode cMo_hex 32 = .ok (.iadd, 1) := by decide +kernel
theorem dMo_hex_33 : decode cMo_hex 33 = .ok (.goto 26, 3) := by decide +kernel
theorem dMo_hex_36 : decode cMo_hex 36 = .ok (.iload_n 0, 1) := by decide +kernel
theorem dMo_hex_37 : decode cMo_hex 37 = .ok (.bipush 65, 2) := by decide +kernel
theorem dMo_hex_39 : decode cMo_hex 39 = .ok (.if_icmp .lt 19, 3) := by decide +kernel
theorem dMo_hex_42 : decode cMo_hex 42 = .ok (.iload_n 0, 1) := by decide +kernel
theorem dMo_hex_43 : decode cMo_hex 43 = .ok (.bipush 70, 2) := by decide +kernel
theorem dMo_hex_45 : decode cMo_hex 45 = .ok (.if_icmp .gt 13, 3) := by decide +kernel
theorem dMo_hex_48 : decode cMo_hex 48 = .ok (.iload_n 0, 1) := by decide +kernel
theorem dMo_hex_49 : decode cMo_hex 49 = .ok (.bipush 65, 2) := by decide +kernel
theorem dMo_hex_51 : decode cMo_hex 51 = .ok (.isub, 1) := by decide +kernel
theorem dMo_hex_52 : decode cMo_hex 52 = .ok (.bipush 10, 2) := by decide +kernel
theorem dMo_hex_54 : decode cMo_hex 54 = .ok (.iadd, 1) := by decide +kernel
theorem dMo_hex_55 : decode cMo_hex 55 = .ok (.goto 4, 3) := by decide +kernel
theorem dMo_hex_58 : decode cMo_hex 58 = .ok (.iconst (-1), 1) := by decide +kernel
theorem dMo_hex_59 : decode cMo_hex 59 = .ok (.ireturn, 1) := by decide +kernel
theorem dMo_isDigit_0 : decode cMo_isDigit 0 = .ok (.iload_n 0, 1) := by decide +kernel
theorem dMo_isDigit_1 : decode cMo_isDigit 1 = .ok (.bipush 48, 2) := by decide +kernel
theorem dMo_isDigit_3 : decode cMo_isDigit 3 = .ok (.if_icmp .lt 13, 3) := by decide +kernel
theorem dMo_isDigit_6 : decode cMo_isDigit 6 = .ok (.iload_n 0, 1) := by decide +kernel
theorem dMo_isDigit_7 : decode cMo_isDigit 7 = .ok (.bipush 57, 2) := by decide +kernel
theorem dMo_isDigit_9 : decode cMo_isDigit 9 = .ok (.if_icmp .gt 7, 3) := by decide +kernel
theorem dMo_isDigit_12 : decode cMo_isDigit 12 = .ok (.iconst 1, 1) := by decide +kernel
theorem dMo_isDigit_13 : decode cMo_isDigit 13 = .ok (.goto 4, 3) := by decide +kernel
theorem dMo_isDigit_16 : decode cMo_isDigit 16 = .ok (.iconst 0, 1) := by decide +kernel
theorem dMo_isDigit_17 : decode cMo_isDigit 17 = .ok (.ireturn, 1) := by decide +kernel
theorem dMo_isAt_0 : decode cMo_isAt 0 = .ok (.aload_n 0, 1) := by decide +kernel
theorem dMo_isAt_1 : decode cMo_isAt 1 = .ok (.invokevirtual 35, 3) := by decide +kernel
theorem dMo_isAt_4 : decode cMo_isAt 4 = .ok (.iload_n 1, 1) := by decide +kernel
theorem dMo_isAt_5 : decode cMo_isAt 5 = .ok (.if_icmp .eq 11, 3) := by decide +kernel
theorem dMo_isAt_8 : decode cMo_isAt 8 = .ok (.aload_n 0, 1) := by decide +kernel
theorem dMo_isAt_9 : decode cMo_isAt 9 = .ok (.invokevirtual 35, 3) := by decide +kernel
theorem dMo_isAt_12 : decode cMo_isAt 12 = .ok (.iload_n 2, 1) := by decide +kernel
theorem dMo_isAt_13 : decode cMo_isAt 13 = .ok (.if_icmp .ne 7, 3) := by decide +kernel
theorem dMo_isAt_16 : decode cMo_isAt 16 = .ok (.iconst 1, 1) := by decide +kernel
theorem dMo_isAt_17 : decode cMo_isAt 17 = .ok (.goto 4, 3) := by decide +kernel
theorem dMo_isAt_20 : decode cMo_isAt 20 = .ok (.iconst 0, 1) := by decide +kernel
theorem dMo_isAt_21 : decode cMo_isAt 21 = .ok (.ireturn, 1) := by decide +kernel
theorem dMo_power_0 : decode cMo_power 0 = .ok (.aload_n 0, 1) := by decide +kernel
theorem dMo_power_1 : decode cMo_power 1 = .ok (.invokevirtual 35, 3) := by decide +kernel
theorem dMo_power_4 : decode cMo_power 4 = .ok (.bipush 45, 2) := by decide +kernel
theorem dMo_power_6 : decode cMo_power 6 = .ok (.if_icmp .ne 7, 3) := by decide +kernel
theorem dMo_power_9 : decode cMo_power 9 = .ok (.iconst 1, 1) := by decide +kernel
theorem dMo_power_10 : decode cMo_power 10 = .ok (.goto 4, 3) := by decide +kernel
theorem dMo_power_13 : decode cMo_power 13 = .ok (.iconst 0, 1) := by decide +kernel
theorem dMo_power_14 : decode cMo_power 14 = .ok (.istore_n 1, 1) := by decide +kernel
theorem dMo_power_15 : decode cMo_power 15 = .ok (.iload_n 1, 1) := by decide +kernel
theorem dMo_power_16 : decode cMo_power 16 = .ok (.ifCond .ne 12, 3) := by decide +kernel
theorem dMo_power_19 : decode cMo_power 19 = .ok (.aload_n 0, 1) := by decide +kernel
theorem dMo_power_20 : decode cMo_power 20 = .ok (.invokevirtual 35, 3) := by decide +kernel
theorem dMo_power_23 : decode cMo_power 23 = .ok (.bipush 43, 2) := by decide +kernel
theorem dMo_power_25 : decode cMo_power 25 = .ok (.if_icmp .ne 13, 3) := by decide +kernel
theorem dMo_power_28 : decode cMo_power 28 = .ok (.aload_n 0, 1) := by decide +kernel
theorem dMo_power_29 : decode cMo_power 29 = .ok (.dup, 1) := by decide +kernel
theorem dMo_power_30 : decode cMo_power 30 = .ok (.getfield 28, 3) := by decide +kernel
theorem dMo_power_33 : decode cMo_power 33 = .ok (.iconst 1, 1) := by decide +kernel
theorem dMo_power_34 : decode cMo_power 34 = .ok (.iadd, 1) := by decide +kernel
theorem dMo_power_35 : decode cMo_power 35 = .ok (.putfield 28, 3) := by decide +kernel
theorem dMo_power_38 : decode cMo_power 38 = .ok (.aload_n 0, 1) := by decide +kernel
theorem dMo_power_39 : decode cMo_power 39 = .ok (.invokevirtual 35, 3) := by decide +kernel
theorem dMo_power_42 : decode cMo_power 42 = .ok (.invokestatic 31, 3) := by decide +kernel
theorem dMo_power_45 : decode cMo_power 45 = .ok (.ifCond .ne 5, 3) := by decide +kernel
theorem dMo_power_48 : decode cMo_power 48 = .ok (.iconst 0, 1) := by decide +kernel
theorem dMo_power_49 : decode cMo_power 49 = .ok (.ireturn, 1) := by decide +kernel
theorem dMo_power_50 : decode cMo_power 50 = .ok (.aload_n 0, 1) := by decide +kernel
theorem dMo_power_51 : decode cMo_power 51 = .ok (.invokevirtual 35, 3) := by decide +kernel
theorem dMo_power_54 : decode cMo_power 54 = .ok (.invokestatic 31, 3) := by decide +kernel
theorem dMo_power_57 : decode cMo_power 57 = .ok (.ifCond .eq 56, 3) := by decide +kernel
theorem dMo_power_60 : decode cMo_power 60 = .ok (.aload_n 0, 1) := by decide +kernel
theorem dMo_power_61 : decode cMo_power 61 = .ok (.aload_n 0, 1) := by decide +kernel
theorem dMo_power_62 : decode cMo_power 62 = .ok (.getfield 49, 3) := by decide +kernel
theorem dMo_power_65 : decode cMo_power 65 = .ok (.ldc2_w 53, 3) := by decide +kernel
theorem dMo_power_68 : decode cMo_power 68 = .ok (.lcmp, 1) := by decide +kernel
theorem dMo_power_69 : decode cMo_power 69 = .ok (.ifCond .ge 24, 3) := by decide +kernel
theorem dMo_power_72 : decode cMo_power 72 = .ok (.ldc2_w 55, 3) := by decide +kernel
theorem dMo_power_75 : decode cMo_power 75 = .ok (.aload_n 0, 1) := by decide +kernel
theorem dMo_power_76 : decode cMo_power 76 = .ok (.getfield 49, 3) := by decide +kernel
theorem dMo_power_79 : decode cMo_power 79 = .ok (.lmul, 1) := by decide +kernel
theorem dMo_power_80 : decode cMo_power 80 = .ok (.aload_n 0, 1) := by decide +kernel
theorem dMo_power_81 : decode cMo_power 81 = .ok (.invokevirtual 35, 3) := by decide +kernel
theorem dMo_power_84 : decode cMo_power 84 = .ok (.i2l, 1) := by decide +kernel
theorem dMo_power_85 : decode cMo_power 85 = .ok (.ladd, 1) := by decide +kernel
theorem dMo_power_86 : decode cMo_power 86 = .ok (.ldc2_w 57, 3) := by decide +kernel
theorem dMo_power_89 : decode cMo_power 89 = .ok (.lsub, 1) := by decide +kernel
theorem dMo_power_90 : decode cMo_power 90 = .ok (.goto 7, 3) := by decide +kernel
theorem dMo_power_93 : decode cMo_power 93 = .ok (.aload_n 0, 1) := by decide +kernel
theorem dMo_power_94 : decode cMo_power 94 = .ok (.getfield 49, 3) := by decide +kernel
theorem dMo_power_97 : decode cMo_power 97 = .ok (.putfield 49, 3) := by decide +kernel
theorem dMo_power_100 : decode cMo_power 100 = .ok (.aload_n 0, 1) := by decide +kernel
theorem dMo_power_101 : decode cMo_power 101 = .ok (.dup, 1) := by decide +kernel
theorem dMo_power_102 : decode cMo_power 102 = .ok (.getfield 28, 3) := by decide +kernel
theorem dMo_power_105 : decode cMo_power 105 = .ok (.iconst 1, 1) := by decide +kernel
theorem dMo_power_106 : decode cMo_power 106 = .ok (.iadd, 1) := by decide +kernel
theorem dMo_power_107 : decode cMo_power 107 = .ok (.putfield 28, 3) := by decide +kernel
theorem dMo_power_110 : decode cMo_power 110 = .ok (.goto (-60), 3) := by decide +kernel
theorem dMo_power_113 : decode cMo_power 113 = .ok (.aload_n 0, 1) := by decide +kernel
theorem dMo_power_114 : decode cMo_power 114 = .ok (.iload_n 1, 1) := by decide +kernel
theorem dMo_power_115 : decode cMo_power 115 = .ok (.ifCond .eq 11, 3) := by decide +kernel
theorem dMo_power_118 : decode cMo_power 118 = .ok (.aload_n 0, 1) := by decide +kernel
theorem dMo_power_119 : decode cMo_power 119 = .ok (.getfield 49, 3) := by decide +kernel
theorem dMo_power_122 : decode cMo_power 122 = .ok (.lneg, 1) := by decide +kernel
theorem dMo_power_123 : decode cMo_power 123 = .ok (.goto 7, 3) := by decide +kernel
theorem dMo_power_126 : decode cMo_power 126 = .ok (.aload_n 0, 1) := by decide +kernel
theorem dMo_power_127 : decode cMo_power 127 = .ok (.getfield 49, 3) := by decide +kernel
theorem dMo_power_130 : decode cMo_power 130 = .ok (.putfield 49, 3) := by decide +kernel
theorem dMo_power_133 : decode cMo_power 133 = .ok (.iconst 1, 1) := by decide +kernel
theorem dMo_power_134 : decode cMo_power 134 = .ok (.ireturn, 1) := by decide +kernel
theorem dMo_fault_0 : decode cMo_fault 0 = .ok (.aload_n 0, 1) := by decide +kernel
theorem dMo_fault_1 : decode cMo_fault 1 = .ok (.iconst 0, 1) := by decide +kernel
theorem dMo_fault_2 : decode cMo_fault 2 = .ok (.putfield 19, 3) := by decide +kernel
theorem dMo_fault_5 : decode cMo_fault 5 = .ok (.aload_n 0, 1) := by decide +kernel
theorem dMo_fault_6 : decode cMo_fault 6 = .ok (.invokevirtual 92, 3) := by decide +kernel
theorem dMo_fault_9 : decode cMo_fault 9 = .ok (.ifCond .eq 7, 3) := by decide +kernel
theorem dMo_fault_12 : decode cMo_fault 12 = .ok (.iconst (-1), 1) := by decide +kernel
theorem dMo_fault_13 : decode cMo_fault 13 = .ok (.goto 7, 3) := by decide +kernel
theorem dMo_fault_16 : decode cMo_fault 16 = .ok (.aload_n 0, 1) := by decide +kernel
theorem dMo_fault_17 : decode cMo_fault 17 = .ok (.getfield 28, 3) := by decide +kernel
theorem dMo_fault_20 : decode cMo_fault 20 = .ok (.ireturn, 1) := by decide +kernel
theorem dMo_bits_0 : decode cMo_bits 0 = .ok (.aload_n 0, 1) := by decide +kernel
theorem dMo_bits_1 : decode cMo_bits 1 = .ok (.aload_n 0, 1) := by decide +kernel
theorem dMo_bits_2 : decode cMo_bits 2 = .ok (.invokevirtual 92, 3) := by decide +kernel
theorem dMo_bits_5 : decode cMo_bits 5 = .ok (.ifCond .eq 7, 3) := by decide +kernel
theorem dMo_bits_8 : decode cMo_bits 8 = .ok (.iconst 0, 1) := by decide +kernel
theorem dMo_bits_9 : decode cMo_bits 9 = .ok (.goto 4, 3) := by decide +kernel
theorem dMo_bits_12 : decode cMo_bits 12 = .ok (.iconst 1, 1) := by decide +kernel
theorem dMo_bits_13 : decode cMo_bits 13 = .ok (.putfield 19, 3) := by decide +kernel
theorem dMo_bits_16 : decode cMo_bits 16 = .ok (.aload_n 0, 1) := by decide +kernel
theorem dMo_bits_17 : decode cMo_bits 17 = .ok (.getfield 19, 3) := by decide +kernel
theorem dMo_bits_20 : decode cMo_bits 20 = .ok (.ifCond .le 5, 3) := by decide +kernel
theorem dMo_bits_23 : decode cMo_bits 23 = .ok (.lconst 0, 1) := by decide +kernel
theorem dMo_bits_24 : decode cMo_bits 24 = .ok (.lreturn, 1) := by decide +kernel
theorem dMo_bits_25 : decode cMo_bits 25 = .ok (.aload_n 0, 1) := by decide +kernel
theorem dMo_bits_26 : decode cMo_bits 26 = .ok (.bipush 53, 2) := by decide +kernel
theorem dMo_bits_28 : decode cMo_bits 28 = .ok (.sipush (-1074), 3) := by decide +kernel
theorem dMo_bits_31 : decode cMo_bits 31 = .ok (.invokevirtual 172, 3) := by decide +kernel
theorem dMo_bits_34 : decode cMo_bits 34 = .ok (.lstore_n 1, 1) := by decide +kernel
theorem dMo_bits_35 : decode cMo_bits 35 = .ok (.aload_n 0, 1) := by decide +kernel
theorem dMo_bits_36 : decode cMo_bits 36 = .ok (.getfield 77, 3) := by decide +kernel
theorem dMo_bits_39 : decode cMo_bits 39 = .ok (.ifCond .eq 19, 3) := by decide +kernel
theorem dMo_bits_42 : decode cMo_bits 42 = .ok (.aload_n 0, 1) := by decide +kernel
theorem dMo_bits_43 : decode cMo_bits 43 = .ok (.getfield 59, 3) := by decide +kernel
theorem dMo_bits_46 : decode cMo_bits 46 = .ok (.iconst 3, 1) := by decide +kernel
theorem dMo_bits_47 : decode cMo_bits 47 = .ok (.if_icmp .ge 11, 3) := by decide +kernel
theorem dMo_bits_50 : decode cMo_bits 50 = .ok (.lload_n 1, 1) := by decide +kernel
theorem dMo_bits_51 : decode cMo_bits 51 = .ok (.ldc2_w 176, 3) := by decide +kernel
theorem dMo_bits_54 : decode cMo_bits 54 = .ok (.lor, 1) := by decide +kernel
theorem dMo_bits_55 : decode cMo_bits 55 = .ok (.goto 4, 3) := by decide +kernel
theorem dMo_bits_58 : decode cMo_bits 58 = .ok (.lload_n 1, 1) := by decide +kernel
theorem dMo_bits_59 : decode cMo_bits 59 = .ok (.lreturn, 1) := by decide +kernel
theorem dMo_sizeRead_0 : decode cMo_sizeRead 0 = .ok (.aload_n 0, 1) := by decide +kernel
theorem dMo_sizeRead_1 : decode cMo_sizeRead 1 = .ok (.getfield 59, 3) := by decide +kernel
theorem dMo_sizeRead_4 : decode cMo_sizeRead 4 = .ok (.iconst 1, 1) := by decide +kernel
theorem dMo_sizeRead_5 : decode cMo_sizeRead 5 = .ok (.if_icmp .le 41, 3) := by decide +kernel
theorem dMo_sizeRead_8 : decode cMo_sizeRead 8 = .ok (.iload_n 1, 1) := by decide +kernel
theorem dMo_sizeRead_9 : decode cMo_sizeRead 9 = .ok (.bipush 53, 2) := by decide +kernel
theorem dMo_sizeRead_11 : decode cMo_sizeRead 11 = .ok (.if_icmp .ne 9, 3) := by decide +kernel
theorem dMo_sizeRead_14 : decode cMo_sizeRead 14 = .ok (.ldc2_w 160, 3) := by decide +kernel
theorem dMo_sizeRead_17 : decode cMo_sizeRead 17 = .ok (.goto 6, 3) := by decide +kernel
theorem dMo_sizeRead_20 : decode cMo_sizeRead 20 = .ok (.ldc2_w 23, 3) := by decide +kernel
theorem dMo_sizeRead_23 : decode cMo_sizeRead 23 = .ok (.iload_n 1, 1) := by decide +kernel
theorem dMo_sizeRead_24 : decode cMo_sizeRead 24 = .ok (.iconst 1, 1) := by decide +kernel
theorem dMo_sizeRead_25 : decode cMo_sizeRead 25 = .ok (.isub, 1) := by decide +kernel
theorem dMo_sizeRead_26 : decode cMo_sizeRead 26 = .ok (.lshl, 1) := by decide +kernel
theorem dMo_sizeRead_27 : decode cMo_sizeRead 27 = .ok (.aload_n 0, 1) := by decide +kernel
theorem dMo_sizeRead_28 : decode cMo_sizeRead 28 = .ok (.getfield 59, 3) := by decide +kernel
theorem dMo_sizeRead_31 : decode cMo_sizeRead 31 = .ok (.iconst 3, 1) := by decide +kernel
theorem dMo_sizeRead_32 : decode cMo_sizeRead 32 = .ok (.if_icmp .ne 11, 3) := by decide +kernel
theorem dMo_sizeRead_35 : decode cMo_sizeRead 35 = .ok (.lconst 1, 1) := by decide +kernel
theorem dMo_sizeRead_36 : decode cMo_sizeRead 36 = .ok (.iload_n 1, 1) := by decide +kernel
theorem dMo_sizeRead_37 : decode cMo_sizeRead 37 = .ok (.iconst 2, 1) := by decide +kernel
theorem dMo_sizeRead_38 : decode cMo_sizeRead 38 = .ok (.isub, 1) := by decide +kernel
theorem dMo_sizeRead_39 : decode cMo_sizeRead 39 = .ok (.lshl, 1) := by decide +kernel
theorem dMo_sizeRead_40 : decode cMo_sizeRead 40 = .ok (.goto 4, 3) := by decide +kernel
theorem dMo_sizeRead_43 : decode cMo_sizeRead 43 = .ok (.lconst 0, 1) := by decide +kernel
theorem dMo_sizeRead_44 : decode cMo_sizeRead 44 = .ok (.lor, 1) := by decide +kernel
theorem dMo_sizeRead_45 : decode cMo_sizeRead 45 = .ok (.lreturn, 1) := by decide +kernel
theorem dMo_sizeRead_46 : decode cMo_sizeRead 46 = .ok (.aload_n 0, 1) := by decide +kernel
theorem dMo_sizeRead_47 : decode cMo_sizeRead 47 = .ok (.iload_n 1, 1) := by decide +kernel
theorem dMo_sizeRead_48 : decode cMo_sizeRead 48 = .ok (.iload_n 2, 1) := by decide +kernel
theorem dMo_sizeRead_49 : decode cMo_sizeRead 49 = .ok (.invokevirtual 162, 3) := by decide +kernel
theorem dMo_sizeRead_52 : decode cMo_sizeRead 52 = .ok (.aload_n 0, 1) := by decide +kernel
theorem dMo_sizeRead_53 : decode cMo_sizeRead 53 = .ok (.getfield 109, 3) := by decide +kernel
theorem dMo_sizeRead_56 : decode cMo_sizeRead 56 = .ok (.ifCond .eq 23, 3) := by decide +kernel
theorem dMo_sizeRead_59 : decode cMo_sizeRead 59 = .ok (.iload_n 1, 1) := by decide +kernel
theorem dMo_sizeRead_60 : decode cMo_sizeRead 60 = .ok (.bipush 53, 2) := by decide +kernel
theorem dMo_sizeRead_62 : decode cMo_sizeRead 62 = .ok (.if_icmp .ne 9, 3) := by decide +kernel
theorem dMo_sizeRead_65 : decode cMo_sizeRead 65 = .ok (.ldc2_w 160, 3) := by decide +kernel
theorem dMo_sizeRead_68 : decode cMo_sizeRead 68 = .ok (.goto 6, 3) := by decide +kernel
theorem dMo_sizeRead_71 : decode cMo_sizeRead 71 = .ok (.ldc2_w 23, 3) := by decide +kernel
theorem dMo_sizeRead_74 : decode cMo_sizeRead 74 = .ok (.iload_n 1, 1) := by decide +kernel
theorem dMo_sizeRead_75 : decode cMo_sizeRead 75 = .ok (.iconst 1, 1) := by decide +kernel
theorem dMo_sizeRead_76 : decode cMo_sizeRead 76 = .ok (.isub, 1) := by decide +kernel
theorem dMo_sizeRead_77 : decode cMo_sizeRead 77 = .ok (.lshl, 1) := by decide +kernel
theorem dMo_sizeRead_78 : decode cMo_sizeRead 78 = .ok (.lreturn, 1) := by decide +kernel
theorem dMo_sizeRead_79 : decode cMo_sizeRead 79 = .ok (.aload_n 0, 1) := by decide +kernel
theorem dMo_sizeRead_80 : decode cMo_sizeRead 80 = .ok (.aload_n 0, 1) := by decide +kernel
theorem dMo_sizeRead_81 : decode cMo_sizeRead 81 = .ok (.invokevirtual 165, 3) := by decide +kernel
theorem dMo_sizeRead_84 : decode cMo_sizeRead 84 = .ok (.ifCond .eq 12, 3) := by decide +kernel
theorem dMo_sizeRead_87 : decode cMo_sizeRead 87 = .ok (.aload_n 0, 1) := by decide +kernel
theorem dMo_sizeRead_88 : decode cMo_sizeRead 88 = .ok (.getfield 114, 3) := by decide +kernel
theorem dMo_sizeRead_91 : decode cMo_sizeRead 91 = .ok (.lconst 1, 1) := by decide +kernel
theorem dMo_sizeRead_92 : decode cMo_sizeRead 92 = .ok (.ladd, 1) := by decide +kernel
theorem dMo_sizeRead_93 : decode cMo_sizeRead 93 = .ok (.goto 7, 3) := by decide +kernel
theorem dMo_sizeRead_96 : decode cMo_sizeRead 96 = .ok (.aload_n 0, 1) := by decide +kernel
theorem dMo_sizeRead_97 : decode cMo_sizeRead 97 = .ok (.getfield 114, 3) := by decide +kernel
theorem dMo_sizeRead_100 : decode cMo_sizeRead 100 = .ok (.iload_n 1, 1) := by decide +kernel
theorem dMo_sizeRead_101 : decode cMo_sizeRead 101 = .ok (.iload_n 2, 1) := by decide +kernel
theorem dMo_sizeRead_102 : decode cMo_sizeRead 102 = .ok (.invokevirtual 168, 3) := by decide +kernel
theorem dMo_sizeRead_105 : decode cMo_sizeRead 105 = .ok (.lreturn, 1) := by decide +kernel
theorem dMo_find_0 : decode cMo_find 0 = .ok (.iconst 0, 1) := by decide +kernel
theorem dMo_find_1 : decode cMo_find 1 = .ok (.istore_n 3, 1) := by decide +kernel
theorem dMo_find_2 : decode cMo_find 2 = .ok (.iload_n 3, 1) := by decide +kernel
theorem dMo_find_3 : decode cMo_find 3 = .ok (.aload_n 0, 1) := by decide +kernel
theorem dMo_find_4 : decode cMo_find 4 = .ok (.getfield 39, 3) := by decide +kernel
theorem dMo_find_7 : decode cMo_find 7 = .ok (.if_icmp .ge 18, 3) := by decide +kernel
theorem dMo_find_10 : decode cMo_find 10 = .ok (.aload_n 0, 1) := by decide +kernel
theorem dMo_find_11 : decode cMo_find 11 = .ok (.getfield 13, 3) := by decide +kernel
theorem dMo_find_14 : decode cMo_find 14 = .ok (.iload_n 3, 1) := by decide +kernel
theorem dMo_find_15 : decode cMo_find 15 = .ok (.iaload, 1) := by decide +kernel
theorem dMo_find_16 : decode cMo_find 16 = .ok (.ifCond .ne 9, 3) := by decide +kernel
theorem dMo_find_19 : decode cMo_find 19 = .ok (.iinc 3 1, 3) := by decide +kernel
theorem dMo_find_22 : decode cMo_find 22 = .ok (.goto (-20), 3) := by decide +kernel
theorem dMo_find_25 : decode cMo_find 25 = .ok (.iload_n 3, 1) := by decide +kernel
theorem dMo_find_26 : decode cMo_find 26 = .ok (.aload_n 0, 1) := by decide +kernel
theorem dMo_find_27 : decode cMo_find 27 = .ok (.getfield 39, 3) := by decide +kernel
theorem dMo_find_30 : decode cMo_find 30 = .ok (.if_icmp .ne 27, 3) := by decide +kernel
theorem dMo_find_33 : decode cMo_find 33 = .ok (.aload_n 0, 1) := by decide +kernel
theorem dMo_find_34 : decode cMo_find 34 = .ok (.iconst 0, 1) := by decide +kernel
theorem dMo_find_35 : decode cMo_find 35 = .ok (.putfield 109, 3) := by decide +kernel
theorem dMo_find_38 : decode cMo_find 38 = .ok (.aload_n 0, 1) := by decide +kernel
theorem dMo_find_39 : decode cMo_find 39 = .ok (.lconst 0, 1) := by decide +kernel
theorem dMo_find_40 : decode cMo_find 40 = .ok (.putfield 114, 3) := by decide +kernel
theorem dMo_find_43 : decode cMo_find 43 = .ok (.aload_n 0, 1) := by decide +kernel
theorem dMo_find_44 : decode cMo_find 44 = .ok (.iload_n 2, 1) := by decide +kernel
theorem dMo_find_45 : decode cMo_find 45 = .ok (.i2l, 1) := by decide +kernel
theorem dMo_find_46 : decode cMo_find 46 = .ok (.putfield 117, 3) := by decide +kernel
theorem dMo_find_49 : decode cMo_find 49 = .ok (.aload_n 0, 1) := by decide +kernel
theorem dMo_find_50 : decode cMo_find 50 = .ok (.iconst 0, 1) := by decide +kernel
theorem dMo_find_51 : decode cMo_find 51 = .ok (.putfield 120, 3) := by decide +kernel
theorem dMo_find_54 : decode cMo_find 54 = .ok (.goto 27, 3) := by decide +kernel
theorem dMo_find_57 : decode cMo_find 57 = .ok (.aload_n 0, 1) := by decide +kernel
theorem dMo_find_58 : decode cMo_find 58 = .ok (.getfield 59, 3) := by decide +kernel
theorem dMo_find_61 : decode cMo_find 61 = .ok (.ifCond .ne 13, 3) := by decide +kernel
theorem dMo_find_64 : decode cMo_find 64 = .ok (.aload_n 0, 1) := by decide +kernel
theorem dMo_find_65 : decode cMo_find 65 = .ok (.iload_n 3, 1) := by decide +kernel
theorem dMo_find_66 : decode cMo_find 66 = .ok (.iload_n 1, 1) := by decide +kernel
theorem dMo_find_67 : decode cMo_find 67 = .ok (.iload_n 2, 1) := by decide +kernel
theorem dMo_find_68 : decode cMo_find 68 = .ok (.invokevirtual 153, 3) := by decide +kernel
theorem dMo_find_71 : decode cMo_find 71 = .ok (.goto 10, 3) := by decide +kernel
theorem dMo_find_74 : decode cMo_find 74 = .ok (.aload_n 0, 1) := by decide +kernel
theorem dMo_find_75 : decode cMo_find 75 = .ok (.iload_n 3, 1) := by decide +kernel
theorem dMo_find_76 : decode cMo_find 76 = .ok (.iload_n 1, 1) := by decide +kernel
theorem dMo_find_77 : decode cMo_find 77 = .ok (.iload_n 2, 1) := by decide +kernel
theorem dMo_find_78 : decode cMo_find 78 = .ok (.invokevirtual 157, 3) := by decide +kernel
theorem dMo_find_81 : decode cMo_find 81 = .ok (.return_, 1) := by decide +kernel
theorem dMo_findDecimal_0 : decode cMo_findDecimal 0 = .ok (.aload_n 0, 1) := by decide +kernel
theorem dMo_findDecimal_1 : decode cMo_findDecimal 1 = .ok (.getfield 42, 3) := by decide +kernel
theorem dMo_findDecimal_4 : decode cMo_findDecimal 4 = .ok (.iload_n 1, 1) := by decide +kernel
theorem dMo_findDecimal_5 : decode cMo_findDecimal 5 = .ok (.isub, 1) := by decide +kernel
theorem dMo_findDecimal_6 : decode cMo_findDecimal 6 = .ok (.i2l, 1) := by decide +kernel
theorem dMo_findDecimal_7 : decode cMo_findDecimal 7 = .ok (.aload_n 0, 1) := by decide +kernel
theorem dMo_findDecimal_8 : decode cMo_findDecimal 8 = .ok (.getfield 49, 3) := by decide +kernel
theorem dMo_findDecimal_11 : decode cMo_findDecimal 11 = .ok (.ladd, 1) := by decide +kernel
theorem dMo_findDecimal_12 : decode cMo_findDecimal 12 = .ok (.lstore 4, 2) := by decide +kernel
theorem dMo_findDecimal_14 : decode cMo_findDecimal 14 = .ok (.aload_n 0, 1) := by decide +kernel
theorem dMo_findDecimal_15 : decode cMo_findDecimal 15 = .ok (.lload 4, 2) := by decide +kernel
theorem dMo_findDecimal_17 : decode cMo_findDecimal 17 = .ok (.ldc2_w 107, 3) := by decide +kernel
theorem dMo_findDecimal_20 : decode cMo_findDecimal 20 = .ok (.lcmp, 1) := by decide +kernel
theorem dMo_findDecimal_21 : decode cMo_findDecimal 21 = .ok (.ifCond .le 7, 3) := by decide +kernel
theorem dMo_findDecimal_24 : decode cMo_findDecimal 24 = .ok (.iconst 1, 1) := by decide +kernel
theorem dMo_findDecimal_25 : decode cMo_findDecimal 25 = .ok (.goto 4, 3) := by decide +kernel
theorem dMo_findDecimal_28 : decode cMo_findDecimal 28 = .ok (.iconst 0, 1) := by decide +kernel
theorem dMo_findDecimal_29 : decode cMo_findDecimal 29 = .ok (.putfield 109, 3) := by decide +kernel
theorem dMo_findDecimal_32 : decode cMo_findDecimal 32 = .ok (.aload_n 0, 1) := by decide +kernel
theorem dMo_findDecimal_33 : decode cMo_findDecimal 33 = .ok (.getfield 109, 3) := by decide +kernel
theorem dMo_findDecimal_36 : decode cMo_findDecimal 36 = .ok (.ifCond .ne 12, 3) := by decide +kernel
theorem dMo_findDecimal_39 : decode cMo_findDecimal 39 = .ok (.lload 4, 2) := by decide +kernel
theorem dMo_findDecimal_41 : decode cMo_findDecimal 41 = .ok (.ldc2_w 112, 3) := by decide +kernel
theorem dMo_findDecimal_44 : decode cMo_findDecimal 44 = .ok (.lcmp, 1) := by decide +kernel
theorem dMo_findDecimal_45 : decode cMo_findDecimal 45 = .ok (.ifCond .ge 20, 3) := by decide +kernel
theorem dMo_findDecimal_48 : decode cMo_findDecimal 48 = .ok (.aload_n 0, 1) := by decide +kernel
theorem dMo_findDecimal_49 : decode cMo_findDecimal 49 = .ok (.lconst 0, 1) := by decide +kernel
theorem dMo_findDecimal_50 : decode cMo_findDecimal 50 = .ok (.putfield 114, 3) := by decide +kernel
theorem dMo_findDecimal_53 : decode cMo_findDecimal 53 = .ok (.aload_n 0, 1) := by decide +kernel
theorem dMo_findDecimal_54 : decode cMo_findDecimal 54 = .ok (.iload_n 3, 1) := by decide +kernel
theorem dMo_findDecimal_55 : decode cMo_findDecimal 55 = .ok (.i2l, 1) := by decide +kernel
theorem dMo_findDecimal_56 : decode cMo_findDecimal 56 = .ok (.putfield 117, 3) := by decide +kernel
theorem dMo_findDecimal_59 : decode cMo_findDecimal 59 = .ok (.aload_n 0, 1) := by decide +kernel
theorem dMo_findDecimal_60 : decode cMo_findDecimal 60 = .ok (.iconst 1, 1) := by decide +kernel
theorem dMo_findDecimal_61 : decode cMo_findDecimal 61 = .ok (.putfield 120, 3) := by decide +kernel
theorem dMo_findDecimal_64 : decode cMo_findDecimal 64 = .ok (.return_, 1) := by decide +kernel
theorem dMo_findDecimal_65 : decode cMo_findDecimal 65 = .ok (.aload_n 0, 1) := by decide +kernel
theorem dMo_findDecimal_66 : decode cMo_findDecimal 66 = .ok (.iload_n 1, 1) := by decide +kernel
theorem dMo_findDecimal_67 : decode cMo_findDecimal 67 = .ok (.lload 4, 2) := by decide +kernel
theorem dMo_findDecimal_69 : decode cMo_findDecimal 69 = .ok (.l2i, 1) := by decide +kernel
theorem dMo_findDecimal_70 : decode cMo_findDecimal 70 = .ok (.invokevirtual 123, 3) := by decide +kernel
theorem dMo_findDecimal_73 : decode cMo_findDecimal 73 = .ok (.aload_n 0, 1) := by decide +kernel
theorem dMo_findDecimal_74 : decode cMo_findDecimal 74 = .ok (.lconst 0, 1) := by decide +kernel
theorem dMo_findDecimal_75 : decode cMo_findDecimal 75 = .ok (.putfield 117, 3) := by decide +kernel
theorem dMo_findDecimal_78 : decode cMo_findDecimal 78 = .ok (.aload_n 0, 1) := by decide +kernel
theorem dMo_findDecimal_79 : decode cMo_findDecimal 79 = .ok (.invokevirtual 127, 3) := by decide +kernel
theorem dMo_findDecimal_82 : decode cMo_findDecimal 82 = .ok (.lconst 1, 1) := by decide +kernel
theorem dMo_findDecimal_83 : decode cMo_findDecimal 83 = .ok (.iload_n 2, 1) := by decide +kernel
theorem dMo_findDecimal_84 : decode cMo_findDecimal 84 = .ok (.lshl, 1) := by decide +kernel
theorem dMo_findDecimal_85 : decode cMo_findDecimal 85 = .ok (.lcmp, 1) := by decide +kernel
theorem dMo_findDecimal_86 : decode cMo_findDecimal 86 = .ok (.ifCond .lt 20, 3) := by decide +kernel
theorem dMo_findDecimal_89 : decode cMo_findDecimal 89 = .ok (.aload_n 0, 1) := by decide +kernel
theorem dMo_findDecimal_90 : decode cMo_findDecimal 90 = .ok (.invokevirtual 131, 3) := by decide +kernel
theorem dMo_findDecimal_93 : decode cMo_findDecimal 93 = .ok (.aload_n 0, 1) := by decide +kernel
theorem dMo_findDecimal_94 : decode cMo_findDecimal 94 = .ok (.dup, 1) := by decide +kernel
theorem dMo_findDecimal_95 : decode cMo_findDecimal 95 = .ok (.getfield 117, 3) := by decide +kernel
theorem dMo_findDecimal_98 : decode cMo_findDecimal 98 = .ok (.lconst 1, 1) := by decide +kernel
theorem dMo_findDecimal_99 : decode cMo_findDecimal 99 = .ok (.ladd, 1) := by decide +kernel
theorem dMo_findDecimal_100 : decode cMo_findDecimal 100 = .ok (.putfield 117, 3) := by decide +kernel
theorem dMo_findDecimal_103 : decode cMo_findDecimal 103 = .ok (.goto (-25), 3) := by decide +kernel
theorem dMo_findDecimal_106 : decode cMo_findDecimal 106 = .ok (.aload_n 0, 1) := by decide +kernel
theorem dMo_findDecimal_107 : decode cMo_findDecimal 107 = .ok (.invokevirtual 127, 3) := by decide +kernel
theorem dMo_findDecimal_110 : decode cMo_findDecimal 110 = .ok (.lconst 1, 1) := by decide +kernel
theorem dMo_findDecimal_111 : decode cMo_findDecimal 111 = .ok (.iload_n 2, 1) := by decide +kernel
theorem dMo_findDecimal_112 : decode cMo_findDecimal 112 = .ok (.iconst 1, 1) := by decide +kernel
theorem dMo_findDecimal_113 : decode cMo_findDecimal 113 = .ok (.isub, 1) := by decide +kernel
theorem dMo_findDecimal_114 : decode cMo_findDecimal 114 = .ok (.lshl, 1) := by decide +kernel
theorem dMo_findDecimal_115 : decode cMo_findDecimal 115 = .ok (.lcmp, 1) := by decide +kernel
theorem dMo_findDecimal_116 : decode cMo_findDecimal 116 = .ok (.ifCond .ge 30, 3) := by decide +kernel
theorem dMo_findDecimal_119 : decode cMo_findDecimal 119 = .ok (.aload_n 0, 1) := by decide +kernel
theorem dMo_findDecimal_120 : decode cMo_findDecimal 120 = .ok (.getfield 117, 3) := by decide +kernel
theorem dMo_findDecimal_123 : decode cMo_findDecimal 123 = .ok (.iload_n 3, 1) := by decide +kernel
theorem dMo_findDecimal_124 : decode cMo_findDecimal 124 = .ok (.i2l, 1) := by decide +kernel
theorem dMo_findDecimal_125 : decode cMo_findDecimal 125 = .ok (.lcmp, 1) := by decide +kernel
theorem dMo_findDecimal_126 : decode cMo_findDecimal 126 = .ok (.ifCond .le 20, 3) := by decide +kernel
theorem dMo_findDecimal_129 : decode cMo_findDecimal 129 = .ok (.aload_n 0, 1) := by decide +kernel
theorem dMo_findDecimal_130 : decode cMo_findDecimal 130 = .ok (.invokevirtual 134, 3) := by decide +kernel
theorem dMo_findDecimal_133 : decode cMo_findDecimal 133 = .ok (.aload_n 0, 1) := by decide +kernel
theorem dMo_findDecimal_134 : decode cMo_findDecimal 134 = .ok (.dup, 1) := by decide +kernel
theorem dMo_findDecimal_135 : decode cMo_findDecimal 135 = .ok (.getfield 117, 3) := by decide +kernel
theorem dMo_findDecimal_138 : decode cMo_findDecimal 138 = .ok (.lconst 1, 1) := by decide +kernel
theorem dMo_findDecimal_139 : decode cMo_findDecimal 139 = .ok (.lsub, 1) := by decide +kernel
theorem dMo_findDecimal_140 : decode cMo_findDecimal 140 = .ok (.putfield 117, 3) := by decide +kernel
theorem dMo_findDecimal_143 : decode cMo_findDecimal 143 = .ok (.goto (-37), 3) := by decide +kernel
theorem dMo_findDecimal_146 : decode cMo_findDecimal 146 = .ok (.aload_n 0, 1) := by decide +kernel
theorem dMo_findDecimal_147 : decode cMo_findDecimal 147 = .ok (.aload_n 0, 1) := by decide +kernel
theorem dMo_findDecimal_148 : decode cMo_findDecimal 148 = .ok (.invokevirtual 127, 3) := by decide +kernel
theorem dMo_findDecimal_151 : decode cMo_findDecimal 151 = .ok (.putfield 114, 3) := by decide +kernel
theorem dMo_findDecimal_154 : decode cMo_findDecimal 154 = .ok (.aload_n 0, 1) := by decide +kernel
theorem dMo_findDecimal_155 : decode cMo_findDecimal 155 = .ok (.getfield 95, 3) := by decide +kernel
theorem dMo_findDecimal_158 : decode cMo_findDecimal 158 = .ok (.bipush 54, 2) := by decide +kernel
theorem dMo_findDecimal_160 : decode cMo_findDecimal 160 = .ok (.if_icmp .le 13, 3) := by decide +kernel
theorem dMo_findDecimal_163 : decode cMo_findDecimal 163 = .ok (.aload_n 0, 1) := by decide +kernel
theorem dMo_findDecimal_164 : decode cMo_findDecimal 164 = .ok (.getfield 16, 3) := by decide +kernel
theorem dMo_findDecimal_167 : decode cMo_findDecimal 167 = .ok (.bipush 55, 2) := by decide +kernel
theorem dMo_findDecimal_169 : decode cMo_findDecimal 169 = .ok (.iaload, 1) := by decide +kernel
theorem dMo_findDecimal_170 : decode cMo_findDecimal 170 = .ok (.goto 4, 3) := by decide +kernel
theorem dMo_findDecimal_173 : decode cMo_findDecimal 173 = .ok (.iconst 0, 1) := by decide +kernel
theorem dMo_findDecimal_174 : decode cMo_findDecimal 174 = .ok (.istore 6, 2) := by decide +kernel
theorem dMo_findDecimal_176 : decode cMo_findDecimal 176 = .ok (.aload_n 0, 1) := by decide +kernel
theorem dMo_findDecimal_177 : decode cMo_findDecimal 177 = .ok (.getfield 95, 3) := by decide +kernel
theorem dMo_findDecimal_180 : decode cMo_findDecimal 180 = .ok (.bipush 55, 2) := by decide +kernel
theorem dMo_findDecimal_182 : decode cMo_findDecimal 182 = .ok (.if_icmp .le 7, 3) := by decide +kernel
theorem dMo_findDecimal_185 : decode cMo_findDecimal 185 = .ok (.iconst 1, 1) := by decide +kernel
theorem dMo_findDecimal_186 : decode cMo_findDecimal 186 = .ok (.goto 4, 3) := by decide +kernel
theorem dMo_findDecimal_189 : decode cMo_findDecimal 189 = .ok (.iconst 0, 1) := by decide +kernel
theorem dMo_findDecimal_190 : decode cMo_findDecimal 190 = .ok (.istore 7, 2) := by decide +kernel
theorem dMo_findDecimal_192 : decode cMo_findDecimal 192 = .ok (.aload_n 0, 1) := by decide +kernel
theorem dMo_findDecimal_193 : decode cMo_findDecimal 193 = .ok (.aload_n 0, 1) := by decide +kernel
theorem dMo_findDecimal_194 : decode cMo_findDecimal 194 = .ok (.getfield 95, 3) := by decide +kernel
theorem dMo_findDecimal_197 : decode cMo_findDecimal 197 = .ok (.bipush 54, 2) := by decide +kernel
theorem dMo_findDecimal_199 : decode cMo_findDecimal 199 = .ok (.if_icmp .ne 7, 3) := by decide +kernel
theorem dMo_findDecimal_202 : decode cMo_findDecimal 202 = .ok (.iconst 0, 1) := by decide +kernel
theorem dMo_findDecimal_203 : decode cMo_findDecimal 203 = .ok (.goto 31, 3) := by decide +kernel
theorem dMo_findDecimal_206 : decode cMo_findDecimal 206 = .ok (.iload 6, 2) := by decide +kernel
theorem dMo_findDecimal_208 : decode cMo_findDecimal 208 = .ok (.ldc 102, 2) := by decide +kernel
theorem dMo_findDecimal_210 : decode cMo_findDecimal 210 = .ok (.if_icmp .ge 7, 3) := by decide +kernel
theorem dMo_findDecimal_213 : decode cMo_findDecimal 213 = .ok (.iconst 1, 1) := by decide +kernel
theorem dMo_findDecimal_214 : decode cMo_findDecimal 214 = .ok (.goto 20, 3) := by decide +kernel
theorem dMo_findDecimal_217 : decode cMo_findDecimal 217 = .ok (.iload 6, 2) := by decide +kernel
theorem dMo_findDecimal_219 : decode cMo_findDecimal 219 = .ok (.ldc 102, 2) := by decide +kernel
theorem dMo_findDecimal_221 : decode cMo_findDecimal 221 = .ok (.if_icmp .gt 8, 3) := by decide +kernel
theorem dMo_findDecimal_224 : decode cMo_findDecimal 224 = .ok (.iload 7, 2) := by decide +kernel
theorem dMo_findDecimal_226 : decode cMo_findDecimal 226 = .ok (.ifCond .eq 7, 3) := by decide +kernel
theorem dMo_findDecimal_229 : decode cMo_findDecimal 229 = .ok (.iconst 3, 1) := by decide +kernel
theorem dMo_findDecimal_230 : decode cMo_findDecimal 230 = .ok (.goto 4, 3) := by decide +kernel
theorem dMo_findDecimal_233 : decode cMo_findDecimal 233 = .ok (.iconst 2, 1) := by decide +kernel
theorem dMo_findDecimal_234 : decode cMo_findDecimal 234 = .ok (.putfield 120, 3) := by decide +kernel
theorem dMo_findDecimal_237 : decode cMo_findDecimal 237 = .ok (.return_, 1) := by decide +kernel
theorem dMo_writeOut_0 : decode cMo_writeOut 0 = .ok (.iconst 0, 1) := by decide +kernel
theorem dMo_writeOut_1 : decode cMo_writeOut 1 = .ok (.istore_n 3, 1) := by decide +kernel
theorem dMo_writeOut_2 : decode cMo_writeOut 2 = .ok (.iload_n 3, 1) := by decide +kernel
theorem dMo_writeOut_3 : decode cMo_writeOut 3 = .ok (.sipush 800, 3) := by decide +kernel
theorem dMo_writeOut_6 : decode cMo_writeOut 6 = .ok (.if_icmp .ge 16, 3) := by decide +kernel
theorem dMo_writeOut_9 : decode cMo_writeOut 9 = .ok (.aload_n 0, 1) := by decide +kernel
theorem dMo_writeOut_10 : decode cMo_writeOut 10 = .ok (.getfield 16, 3) := by decide +kernel
theorem dMo_writeOut_13 : decode cMo_writeOut 13 = .ok (.iload_n 3, 1) := by decide +kernel
