theorem dJL_numberOfLeadingZeros_0 : decode cJL_numberOfLeadingZeros 0 = .ok (.lload_n 0, 1) := by decide +kernel
theorem dJL_numberOfLeadingZeros_1 : decode cJL_numberOfLeadingZeros 1 = .ok (.bipush 32, 2) := by decide +kernel
theorem dJL_numberOfLeadingZeros_3 : decode cJL_numberOfLeadingZeros 3 = .ok (.lushr, 1) := by decide +kernel
theorem dJL_numberOfLeadingZeros_4 : decode cJL_numberOfLeadingZeros 4 = .ok (.l2i, 1) := by decide +kernel
theorem dJL_numberOfLeadingZeros_5 : decode cJL_numberOfLeadingZeros 5 = .ok (.istore_n 2, 1) := by decide +kernel
theorem dJL_numberOfLeadingZeros_6 : decode cJL_numberOfLeadingZeros 6 = .ok (.iload_n 2, 1) := by decide +kernel
theorem dJL_numberOfLeadingZeros_7 : decode cJL_numberOfLeadingZeros 7 = .ok (.ifCond .ne 14, 3) := by decide +kernel
theorem dJL_numberOfLeadingZeros_10 : decode cJL_numberOfLeadingZeros 10 = .ok (.bipush 32, 2) := by decide +kernel
theorem dJL_numberOfLeadingZeros_12 : decode cJL_numberOfLeadingZeros 12 = .ok (.lload_n 0, 1) := by decide +kernel
theorem dJL_numberOfLeadingZeros_13 : decode cJL_numberOfLeadingZeros 13 = .ok (.l2i, 1) := by decide +kernel
theorem dJL_numberOfLeadingZeros_14 : decode cJL_numberOfLeadingZeros 14 = .ok (.invokestatic 308, 3) := by decide +kernel
theorem dJL_numberOfLeadingZeros_17 : decode cJL_numberOfLeadingZeros 17 = .ok (.iadd, 1) := by decide +kernel
theorem dJL_numberOfLeadingZeros_18 : decode cJL_numberOfLeadingZeros 18 = .ok (.goto 7, 3) := by decide +kernel
theorem dJL_numberOfLeadingZeros_21 : decode cJL_numberOfLeadingZeros 21 = .ok (.iload_n 2, 1) := by decide +kernel
theorem dJL_numberOfLeadingZeros_22 : decode cJL_numberOfLeadingZeros 22 = .ok (.invokestatic 308, 3) := by decide +kernel
theorem dJL_numberOfLeadingZeros_25 : decode cJL_numberOfLeadingZeros 25 = .ok (.ireturn, 1) := by decide +kernel
theorem dJL_compare_0 : decode cJL_compare 0 = .ok (.lload_n 0, 1) := by decide +kernel
theorem dJL_compare_1 : decode cJL_compare 1 = .ok (.lload_n 2, 1) := by decide +kernel
theorem dJL_compare_2 : decode cJL_compare 2 = .ok (.lcmp, 1) := by decide +kernel
theorem dJL_compare_3 : decode cJL_compare 3 = .ok (.ifCond .ge 7, 3) := by decide +kernel
theorem dJL_compare_6 : decode cJL_compare 6 = .ok (.iconst (-1), 1) := by decide +kernel
theorem dJL_compare_7 : decode cJL_compare 7 = .ok (.goto 14, 3) := by decide +kernel
theorem dJL_compare_10 : decode cJL_compare 10 = .ok (.lload_n 0, 1) := by decide +kernel
theorem dJL_compare_11 : decode cJL_compare 11 = .ok (.lload_n 2, 1) := by decide +kernel
theorem dJL_compare_12 : decode cJL_compare 12 = .ok (.lcmp, 1) := by decide +kernel
theorem dJL_compare_13 : decode cJL_compare 13 = .ok (.ifCond .ne 7, 3) := by decide +kernel
theorem dJL_compare_16 : decode cJL_compare 16 = .ok (.iconst 0, 1) := by decide +kernel
theorem dJL_compare_17 : decode cJL_compare 17 = .ok (.goto 4, 3) := by decide +kernel
theorem dJL_compare_20 : decode cJL_compare 20 = .ok (.iconst 1, 1) := by decide +kernel
theorem dJL_compare_21 : decode cJL_compare 21 = .ok (.ireturn, 1) := by decide +kernel
