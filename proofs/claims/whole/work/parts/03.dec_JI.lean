theorem dJI_numberOfLeadingZeros_0 : decode cJI_numberOfLeadingZeros 0 = .ok (.iload_n 0, 1) := by decide +kernel
theorem dJI_numberOfLeadingZeros_1 : decode cJI_numberOfLeadingZeros 1 = .ok (.ifCond .gt 14, 3) := by decide +kernel
theorem dJI_numberOfLeadingZeros_4 : decode cJI_numberOfLeadingZeros 4 = .ok (.iload_n 0, 1) := by decide +kernel
theorem dJI_numberOfLeadingZeros_5 : decode cJI_numberOfLeadingZeros 5 = .ok (.ifCond .ne 8, 3) := by decide +kernel
theorem dJI_numberOfLeadingZeros_8 : decode cJI_numberOfLeadingZeros 8 = .ok (.bipush 32, 2) := by decide +kernel
theorem dJI_numberOfLeadingZeros_10 : decode cJI_numberOfLeadingZeros 10 = .ok (.goto 4, 3) := by decide +kernel
theorem dJI_numberOfLeadingZeros_13 : decode cJI_numberOfLeadingZeros 13 = .ok (.iconst 0, 1) := by decide +kernel
theorem dJI_numberOfLeadingZeros_14 : decode cJI_numberOfLeadingZeros 14 = .ok (.ireturn, 1) := by decide +kernel
theorem dJI_numberOfLeadingZeros_15 : decode cJI_numberOfLeadingZeros 15 = .ok (.bipush 31, 2) := by decide +kernel
theorem dJI_numberOfLeadingZeros_17 : decode cJI_numberOfLeadingZeros 17 = .ok (.istore_n 1, 1) := by decide +kernel
theorem dJI_numberOfLeadingZeros_18 : decode cJI_numberOfLeadingZeros 18 = .ok (.iload_n 0, 1) := by decide +kernel
theorem dJI_numberOfLeadingZeros_19 : decode cJI_numberOfLeadingZeros 19 = .ok (.ldc_w 264, 3) := by decide +kernel
theorem dJI_numberOfLeadingZeros_22 : decode cJI_numberOfLeadingZeros 22 = .ok (.if_icmp .lt 11, 3) := by decide +kernel
theorem dJI_numberOfLeadingZeros_25 : decode cJI_numberOfLeadingZeros 25 = .ok (.iinc 1 (-16), 3) := by decide +kernel
theorem dJI_numberOfLeadingZeros_28 : decode cJI_numberOfLeadingZeros 28 = .ok (.iload_n 0, 1) := by decide +kernel
theorem dJI_numberOfLeadingZeros_29 : decode cJI_numberOfLeadingZeros 29 = .ok (.bipush 16, 2) := by decide +kernel
theorem dJI_numberOfLeadingZeros_31 : decode cJI_numberOfLeadingZeros 31 = .ok (.iushr, 1) := by decide +kernel
theorem dJI_numberOfLeadingZeros_32 : decode cJI_numberOfLeadingZeros 32 = .ok (.istore_n 0, 1) := by decide +kernel
theorem dJI_numberOfLeadingZeros_33 : decode cJI_numberOfLeadingZeros 33 = .ok (.iload_n 0, 1) := by decide +kernel
theorem dJI_numberOfLeadingZeros_34 : decode cJI_numberOfLeadingZeros 34 = .ok (.sipush 256, 3) := by decide +kernel
theorem dJI_numberOfLeadingZeros_37 : decode cJI_numberOfLeadingZeros 37 = .ok (.if_icmp .lt 11, 3) := by decide +kernel
theorem dJI_numberOfLeadingZeros_40 : decode cJI_numberOfLeadingZeros 40 = .ok (.iinc 1 (-8), 3) := by decide +kernel
theorem dJI_numberOfLeadingZeros_43 : decode cJI_numberOfLeadingZeros 43 = .ok (.iload_n 0, 1) := by decide +kernel
theorem dJI_numberOfLeadingZeros_44 : decode cJI_numberOfLeadingZeros 44 = .ok (.bipush 8, 2) := by decide +kernel
theorem dJI_numberOfLeadingZeros_46 : decode cJI_numberOfLeadingZeros 46 = .ok (.iushr, 1) := by decide +kernel
theorem dJI_numberOfLeadingZeros_47 : decode cJI_numberOfLeadingZeros 47 = .ok (.istore_n 0, 1) := by decide +kernel
theorem dJI_numberOfLeadingZeros_48 : decode cJI_numberOfLeadingZeros 48 = .ok (.iload_n 0, 1) := by decide +kernel
theorem dJI_numberOfLeadingZeros_49 : decode cJI_numberOfLeadingZeros 49 = .ok (.bipush 16, 2) := by decide +kernel
theorem dJI_numberOfLeadingZeros_51 : decode cJI_numberOfLeadingZeros 51 = .ok (.if_icmp .lt 10, 3) := by decide +kernel
theorem dJI_numberOfLeadingZeros_54 : decode cJI_numberOfLeadingZeros 54 = .ok (.iinc 1 (-4), 3) := by decide +kernel
theorem dJI_numberOfLeadingZeros_57 : decode cJI_numberOfLeadingZeros 57 = .ok (.iload_n 0, 1) := by decide +kernel
theorem dJI_numberOfLeadingZeros_58 : decode cJI_numberOfLeadingZeros 58 = .ok (.iconst 4, 1) := by decide +kernel
theorem dJI_numberOfLeadingZeros_59 : decode cJI_numberOfLeadingZeros 59 = .ok (.iushr, 1) := by decide +kernel
theorem dJI_numberOfLeadingZeros_60 : decode cJI_numberOfLeadingZeros 60 = .ok (.istore_n 0, 1) := by decide +kernel
theorem dJI_numberOfLeadingZeros_61 : decode cJI_numberOfLeadingZeros 61 = .ok (.iload_n 0, 1) := by decide +kernel
theorem dJI_numberOfLeadingZeros_62 : decode cJI_numberOfLeadingZeros 62 = .ok (.iconst 4, 1) := by decide +kernel
theorem dJI_numberOfLeadingZeros_63 : decode cJI_numberOfLeadingZeros 63 = .ok (.if_icmp .lt 10, 3) := by decide +kernel
theorem dJI_numberOfLeadingZeros_66 : decode cJI_numberOfLeadingZeros 66 = .ok (.iinc 1 (-2), 3) := by decide +kernel
theorem dJI_numberOfLeadingZeros_69 : decode cJI_numberOfLeadingZeros 69 = .ok (.iload_n 0, 1) := by decide +kernel
theorem dJI_numberOfLeadingZeros_70 : decode cJI_numberOfLeadingZeros 70 = .ok (.iconst 2, 1) := by decide +kernel
theorem dJI_numberOfLeadingZeros_71 : decode cJI_numberOfLeadingZeros 71 = .ok (.iushr, 1) := by decide +kernel
theorem dJI_numberOfLeadingZeros_72 : decode cJI_numberOfLeadingZeros 72 = .ok (.istore_n 0, 1) := by decide +kernel
theorem dJI_numberOfLeadingZeros_73 : decode cJI_numberOfLeadingZeros 73 = .ok (.iload_n 1, 1) := by decide +kernel
theorem dJI_numberOfLeadingZeros_74 : decode cJI_numberOfLeadingZeros 74 = .ok (.iload_n 0, 1) := by decide +kernel
theorem dJI_numberOfLeadingZeros_75 : decode cJI_numberOfLeadingZeros 75 = .ok (.iconst 1, 1) := by decide +kernel
theorem dJI_numberOfLeadingZeros_76 : decode cJI_numberOfLeadingZeros 76 = .ok (.iushr, 1) := by decide +kernel
theorem dJI_numberOfLeadingZeros_77 : decode cJI_numberOfLeadingZeros 77 = .ok (.isub, 1) := by decide +kernel
theorem dJI_numberOfLeadingZeros_78 : decode cJI_numberOfLeadingZeros 78 = .ok (.ireturn, 1) := by decide +kernel
theorem dJI_compare_0 : decode cJI_compare 0 = .ok (.iload_n 0, 1) := by decide +kernel
theorem dJI_compare_1 : decode cJI_compare 1 = .ok (.iload_n 1, 1) := by decide +kernel
theorem dJI_compare_2 : decode cJI_compare 2 = .ok (.if_icmp .ge 7, 3) := by decide +kernel
theorem dJI_compare_5 : decode cJI_compare 5 = .ok (.iconst (-1), 1) := by decide +kernel
theorem dJI_compare_6 : decode cJI_compare 6 = .ok (.goto 13, 3) := by decide +kernel
theorem dJI_compare_9 : decode cJI_compare 9 = .ok (.iload_n 0, 1) := by decide +kernel
theorem dJI_compare_10 : decode cJI_compare 10 = .ok (.iload_n 1, 1) := by decide +kernel
theorem dJI_compare_11 : decode cJI_compare 11 = .ok (.if_icmp .ne 7, 3) := by decide +kernel
theorem dJI_compare_14 : decode cJI_compare 14 = .ok (.iconst 0, 1) := by decide +kernel
theorem dJI_compare_15 : decode cJI_compare 15 = .ok (.goto 4, 3) := by decide +kernel
theorem dJI_compare_18 : decode cJI_compare 18 = .ok (.iconst 1, 1) := by decide +kernel
theorem dJI_compare_19 : decode cJI_compare 19 = .ok (.ireturn, 1) := by decide +kernel
