theorem dFm_bitsOfNoNumber_0 : decode cFm_bitsOfNoNumber 0 = .ok (.aload_n 0, 1) := by decide +kernel
theorem dFm_bitsOfNoNumber_1 : decode cFm_bitsOfNoNumber 1 = .ok (.aload_n 0, 1) := by decide +kernel
theorem dFm_bitsOfNoNumber_2 : decode cFm_bitsOfNoNumber 2 = .ok (.invokevirtual 43, 3) := by decide +kernel
theorem dFm_bitsOfNoNumber_5 : decode cFm_bitsOfNoNumber 5 = .ok (.aload_n 0, 1) := by decide +kernel
theorem dFm_bitsOfNoNumber_6 : decode cFm_bitsOfNoNumber 6 = .ok (.invokevirtual 51, 3) := by decide +kernel
theorem dFm_bitsOfNoNumber_9 : decode cFm_bitsOfNoNumber 9 = .ok (.iconst 1, 1) := by decide +kernel
theorem dFm_bitsOfNoNumber_10 : decode cFm_bitsOfNoNumber 10 = .ok (.lushr, 1) := by decide +kernel
theorem dFm_bitsOfNoNumber_11 : decode cFm_bitsOfNoNumber 11 = .ok (.invokevirtual 55, 3) := by decide +kernel
theorem dFm_bitsOfNoNumber_14 : decode cFm_bitsOfNoNumber 14 = .ok (.lreturn, 1) := by decide +kernel
theorem dFm_infiniteField_0 : decode cFm_infiniteField 0 = .ok (.iconst 1, 1) := by decide +kernel
theorem dFm_infiniteField_1 : decode cFm_infiniteField 1 = .ok (.aload_n 0, 1) := by decide +kernel
theorem dFm_infiniteField_2 : decode cFm_infiniteField 2 = .ok (.getfield 36, 3) := by decide +kernel
theorem dFm_infiniteField_5 : decode cFm_infiniteField 5 = .ok (.ishl, 1) := by decide +kernel
theorem dFm_infiniteField_6 : decode cFm_infiniteField 6 = .ok (.iconst 1, 1) := by decide +kernel
theorem dFm_infiniteField_7 : decode cFm_infiniteField 7 = .ok (.isub, 1) := by decide +kernel
theorem dFm_infiniteField_8 : decode cFm_infiniteField 8 = .ok (.ireturn, 1) := by decide +kernel
theorem dFm_hiddenBit_0 : decode cFm_hiddenBit 0 = .ok (.lconst 1, 1) := by decide +kernel
theorem dFm_hiddenBit_1 : decode cFm_hiddenBit 1 = .ok (.aload_n 0, 1) := by decide +kernel
theorem dFm_hiddenBit_2 : decode cFm_hiddenBit 2 = .ok (.getfield 29, 3) := by decide +kernel
theorem dFm_hiddenBit_5 : decode cFm_hiddenBit 5 = .ok (.iconst 1, 1) := by decide +kernel
theorem dFm_hiddenBit_6 : decode cFm_hiddenBit 6 = .ok (.isub, 1) := by decide +kernel
theorem dFm_hiddenBit_7 : decode cFm_hiddenBit 7 = .ok (.lshl, 1) := by decide +kernel
theorem dFm_hiddenBit_8 : decode cFm_hiddenBit 8 = .ok (.lreturn, 1) := by decide +kernel
theorem dFm_bitsOf_0 : decode cFm_bitsOf 0 = .ok (.iload_n 1, 1) := by decide +kernel
theorem dFm_bitsOf_1 : decode cFm_bitsOf 1 = .ok (.i2l, 1) := by decide +kernel
theorem dFm_bitsOf_2 : decode cFm_bitsOf 2 = .ok (.aload_n 0, 1) := by decide +kernel
theorem dFm_bitsOf_3 : decode cFm_bitsOf 3 = .ok (.getfield 29, 3) := by decide +kernel
theorem dFm_bitsOf_6 : decode cFm_bitsOf 6 = .ok (.iconst 1, 1) := by decide +kernel
theorem dFm_bitsOf_7 : decode cFm_bitsOf 7 = .ok (.isub, 1) := by decide +kernel
theorem dFm_bitsOf_8 : decode cFm_bitsOf 8 = .ok (.lshl, 1) := by decide +kernel
theorem dFm_bitsOf_9 : decode cFm_bitsOf 9 = .ok (.aload_n 0, 1) := by decide +kernel
theorem dFm_bitsOf_10 : decode cFm_bitsOf 10 = .ok (.lload_n 2, 1) := by decide +kernel
theorem dFm_bitsOf_11 : decode cFm_bitsOf 11 = .ok (.invokevirtual 47, 3) := by decide +kernel
theorem dFm_bitsOf_14 : decode cFm_bitsOf 14 = .ok (.lor, 1) := by decide +kernel
theorem dFm_bitsOf_15 : decode cFm_bitsOf 15 = .ok (.lreturn, 1) := by decide +kernel
theorem dFm_lowField_0 : decode cFm_lowField 0 = .ok (.lload_n 1, 1) := by decide +kernel
theorem dFm_lowField_1 : decode cFm_lowField 1 = .ok (.aload_n 0, 1) := by decide +kernel
theorem dFm_lowField_2 : decode cFm_lowField 2 = .ok (.invokevirtual 51, 3) := by decide +kernel
theorem dFm_lowField_5 : decode cFm_lowField 5 = .ok (.lconst 1, 1) := by decide +kernel
theorem dFm_lowField_6 : decode cFm_lowField 6 = .ok (.lsub, 1) := by decide +kernel
theorem dFm_lowField_7 : decode cFm_lowField 7 = .ok (.land, 1) := by decide +kernel
theorem dFm_lowField_8 : decode cFm_lowField 8 = .ok (.lreturn, 1) := by decide +kernel
theorem dFm_exponentOf_0 : decode cFm_exponentOf 0 = .ok (.iload_n 1, 1) := by decide +kernel
theorem dFm_exponentOf_1 : decode cFm_exponentOf 1 = .ok (.iconst 1, 1) := by decide +kernel
theorem dFm_exponentOf_2 : decode cFm_exponentOf 2 = .ok (.isub, 1) := by decide +kernel
theorem dFm_exponentOf_3 : decode cFm_exponentOf 3 = .ok (.aload_n 0, 1) := by decide +kernel
theorem dFm_exponentOf_4 : decode cFm_exponentOf 4 = .ok (.getfield 33, 3) := by decide +kernel
theorem dFm_exponentOf_7 : decode cFm_exponentOf 7 = .ok (.iadd, 1) := by decide +kernel
theorem dFm_exponentOf_8 : decode cFm_exponentOf 8 = .ok (.ireturn, 1) := by decide +kernel
theorem dFm_signBit_0 : decode cFm_signBit 0 = .ok (.lconst 1, 1) := by decide +kernel
theorem dFm_signBit_1 : decode cFm_signBit 1 = .ok (.aload_n 0, 1) := by decide +kernel
theorem dFm_signBit_2 : decode cFm_signBit 2 = .ok (.getfield 29, 3) := by decide +kernel
theorem dFm_signBit_5 : decode cFm_signBit 5 = .ok (.iconst 1, 1) := by decide +kernel
theorem dFm_signBit_6 : decode cFm_signBit 6 = .ok (.isub, 1) := by decide +kernel
theorem dFm_signBit_7 : decode cFm_signBit 7 = .ok (.aload_n 0, 1) := by decide +kernel
theorem dFm_signBit_8 : decode cFm_signBit 8 = .ok (.getfield 36, 3) := by decide +kernel
theorem dFm_signBit_11 : decode cFm_signBit 11 = .ok (.iadd, 1) := by decide +kernel
theorem dFm_signBit_12 : decode cFm_signBit 12 = .ok (.lshl, 1) := by decide +kernel
theorem dFm_signBit_13 : decode cFm_signBit 13 = .ok (.lreturn, 1) := by decide +kernel
theorem dFm_areNoNumber_0 : decode cFm_areNoNumber 0 = .ok (.getstatic 3, 3) := by decide +kernel
theorem dFm_areNoNumber_3 : decode cFm_areNoNumber 3 = .ok (.lload_n 0, 1) := by decide +kernel
theorem dFm_areNoNumber_4 : decode cFm_areNoNumber 4 = .ok (.invokevirtual 39, 3) := by decide +kernel
theorem dFm_areNoNumber_7 : decode cFm_areNoNumber 7 = .ok (.getstatic 3, 3) := by decide +kernel
theorem dFm_areNoNumber_10 : decode cFm_areNoNumber 10 = .ok (.invokevirtual 43, 3) := by decide +kernel
theorem dFm_areNoNumber_13 : decode cFm_areNoNumber 13 = .ok (.if_icmp .ne 19, 3) := by decide +kernel
theorem dFm_areNoNumber_16 : decode cFm_areNoNumber 16 = .ok (.getstatic 3, 3) := by decide +kernel
theorem dFm_areNoNumber_19 : decode cFm_areNoNumber 19 = .ok (.lload_n 0, 1) := by decide +kernel
theorem dFm_areNoNumber_20 : decode cFm_areNoNumber 20 = .ok (.invokevirtual 47, 3) := by decide +kernel
theorem dFm_areNoNumber_23 : decode cFm_areNoNumber 23 = .ok (.lconst 0, 1) := by decide +kernel
theorem dFm_areNoNumber_24 : decode cFm_areNoNumber 24 = .ok (.lcmp, 1) := by decide +kernel
theorem dFm_areNoNumber_25 : decode cFm_areNoNumber 25 = .ok (.ifCond .eq 7, 3) := by decide +kernel
theorem dFm_areNoNumber_28 : decode cFm_areNoNumber 28 = .ok (.iconst 1, 1) := by decide +kernel
theorem dFm_areNoNumber_29 : decode cFm_areNoNumber 29 = .ok (.goto 4, 3) := by decide +kernel
theorem dFm_areNoNumber_32 : decode cFm_areNoNumber 32 = .ok (.iconst 0, 1) := by decide +kernel
theorem dFm_areNoNumber_33 : decode cFm_areNoNumber 33 = .ok (.ireturn, 1) := by decide +kernel
theorem dFm_exponentField_0 : decode cFm_exponentField 0 = .ok (.lload_n 1, 1) := by decide +kernel
theorem dFm_exponentField_1 : decode cFm_exponentField 1 = .ok (.aload_n 0, 1) := by decide +kernel
theorem dFm_exponentField_2 : decode cFm_exponentField 2 = .ok (.getfield 29, 3) := by decide +kernel
theorem dFm_exponentField_5 : decode cFm_exponentField 5 = .ok (.iconst 1, 1) := by decide +kernel
theorem dFm_exponentField_6 : decode cFm_exponentField 6 = .ok (.isub, 1) := by decide +kernel
theorem dFm_exponentField_7 : decode cFm_exponentField 7 = .ok (.lushr, 1) := by decide +kernel
theorem dFm_exponentField_8 : decode cFm_exponentField 8 = .ok (.l2i, 1) := by decide +kernel
theorem dFm_exponentField_9 : decode cFm_exponentField 9 = .ok (.aload_n 0, 1) := by decide +kernel
theorem dFm_exponentField_10 : decode cFm_exponentField 10 = .ok (.invokevirtual 43, 3) := by decide +kernel
theorem dFm_exponentField_13 : decode cFm_exponentField 13 = .ok (.iand, 1) := by decide +kernel
theorem dFm_exponentField_14 : decode cFm_exponentField 14 = .ok (.ireturn, 1) := by decide +kernel
