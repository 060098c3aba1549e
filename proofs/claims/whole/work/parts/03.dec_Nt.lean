theorem dNt_init_0 : decode cNt_init 0 = .ok (.aload_n 0, 1) := by decide +kernel
theorem dNt_init_1 : decode cNt_init 1 = .ok (.invokespecial 3, 3) := by decide +kernel
theorem dNt_init_4 : decode cNt_init 4 = .ok (.aload_n 0, 1) := by decide +kernel
theorem dNt_init_5 : decode cNt_init 5 = .ok (.sipush 4096, 3) := by decide +kernel
theorem dNt_init_8 : decode cNt_init 8 = .ok (.newarray .char, 2) := by decide +kernel
theorem dNt_init_10 : decode cNt_init 10 = .ok (.putfield 9, 3) := by decide +kernel
theorem dNt_init_13 : decode cNt_init 13 = .ok (.return_, 1) := by decide +kernel
theorem dNt_room_0 : decode cNt_room 0 = .ok (.aload_n 0, 1) := by decide +kernel
theorem dNt_room_1 : decode cNt_room 1 = .ok (.getfield 9, 3) := by decide +kernel
theorem dNt_room_4 : decode cNt_room 4 = .ok (.arraylength, 1) := by decide +kernel
theorem dNt_room_5 : decode cNt_room 5 = .ok (.aload_n 0, 1) := by decide +kernel
theorem dNt_room_6 : decode cNt_room 6 = .ok (.getfield 15, 3) := by decide +kernel
theorem dNt_room_9 : decode cNt_room 9 = .ok (.isub, 1) := by decide +kernel
theorem dNt_room_10 : decode cNt_room 10 = .ok (.ireturn, 1) := by decide +kernel
theorem dNt_append_0 : decode cNt_append 0 = .ok (.iload_n 1, 1) := by decide +kernel
theorem dNt_append_1 : decode cNt_append 1 = .ok (.ifCond .eq 47, 3) := by decide +kernel
theorem dNt_append_4 : decode cNt_append 4 = .ok (.aload_n 0, 1) := by decide +kernel
theorem dNt_append_5 : decode cNt_append 5 = .ok (.getfield 15, 3) := by decide +kernel
theorem dNt_append_8 : decode cNt_append 8 = .ok (.ifCond .lt 40, 3) := by decide +kernel
theorem dNt_append_11 : decode cNt_append 11 = .ok (.aload_n 0, 1) := by decide +kernel
theorem dNt_append_12 : decode cNt_append 12 = .ok (.getfield 15, 3) := by decide +kernel
theorem dNt_append_15 : decode cNt_append 15 = .ok (.aload_n 0, 1) := by decide +kernel
theorem dNt_append_16 : decode cNt_append 16 = .ok (.getfield 9, 3) := by decide +kernel
theorem dNt_append_19 : decode cNt_append 19 = .ok (.arraylength, 1) := by decide +kernel
theorem dNt_append_20 : decode cNt_append 20 = .ok (.if_icmp .ge 28, 3) := by decide +kernel
theorem dNt_append_23 : decode cNt_append 23 = .ok (.aload_n 0, 1) := by decide +kernel
theorem dNt_append_24 : decode cNt_append 24 = .ok (.getfield 9, 3) := by decide +kernel
theorem dNt_append_27 : decode cNt_append 27 = .ok (.aload_n 0, 1) := by decide +kernel
theorem dNt_append_28 : decode cNt_append 28 = .ok (.getfield 15, 3) := by decide +kernel
theorem dNt_append_31 : decode cNt_append 31 = .ok (.iload_n 1, 1) := by decide +kernel
theorem dNt_append_32 : decode cNt_append 32 = .ok (.castore, 1) := by decide +kernel
theorem dNt_append_33 : decode cNt_append 33 = .ok (.aload_n 0, 1) := by decide +kernel
theorem dNt_append_34 : decode cNt_append 34 = .ok (.dup, 1) := by decide +kernel
theorem dNt_append_35 : decode cNt_append 35 = .ok (.getfield 15, 3) := by decide +kernel
theorem dNt_append_38 : decode cNt_append 38 = .ok (.iconst 1, 1) := by decide +kernel
theorem dNt_append_39 : decode cNt_append 39 = .ok (.iadd, 1) := by decide +kernel
theorem dNt_append_40 : decode cNt_append 40 = .ok (.putfield 15, 3) := by decide +kernel
theorem dNt_append_43 : decode cNt_append 43 = .ok (.aload_n 0, 1) := by decide +kernel
theorem dNt_append_44 : decode cNt_append 44 = .ok (.iconst 0, 1) := by decide +kernel
theorem dNt_append_45 : decode cNt_append 45 = .ok (.putfield 19, 3) := by decide +kernel
theorem dNt_append_48 : decode cNt_append 48 = .ok (.return_, 1) := by decide +kernel
theorem dNt_dropLast_0 : decode cNt_dropLast 0 = .ok (.aload_n 0, 1) := by decide +kernel
theorem dNt_dropLast_1 : decode cNt_dropLast 1 = .ok (.dup, 1) := by decide +kernel
theorem dNt_dropLast_2 : decode cNt_dropLast 2 = .ok (.getfield 15, 3) := by decide +kernel
theorem dNt_dropLast_5 : decode cNt_dropLast 5 = .ok (.iload_n 1, 1) := by decide +kernel
theorem dNt_dropLast_6 : decode cNt_dropLast 6 = .ok (.aload_n 0, 1) := by decide +kernel
theorem dNt_dropLast_7 : decode cNt_dropLast 7 = .ok (.getfield 15, 3) := by decide +kernel
theorem dNt_dropLast_10 : decode cNt_dropLast 10 = .ok (.invokestatic 23, 3) := by decide +kernel
theorem dNt_dropLast_13 : decode cNt_dropLast 13 = .ok (.isub, 1) := by decide +kernel
theorem dNt_dropLast_14 : decode cNt_dropLast 14 = .ok (.putfield 15, 3) := by decide +kernel
theorem dNt_dropLast_17 : decode cNt_dropLast 17 = .ok (.aload_n 0, 1) := by decide +kernel
theorem dNt_dropLast_18 : decode cNt_dropLast 18 = .ok (.iconst 0, 1) := by decide +kernel
theorem dNt_dropLast_19 : decode cNt_dropLast 19 = .ok (.putfield 19, 3) := by decide +kernel
theorem dNt_dropLast_22 : decode cNt_dropLast 22 = .ok (.return_, 1) := by decide +kernel
theorem dNt_scan_0 : decode cNt_scan 0 = .ok (.aload_n 0, 1) := by decide +kernel
theorem dNt_scan_1 : decode cNt_scan 1 = .ok (.getfield 19, 3) := by decide +kernel
theorem dNt_scan_4 : decode cNt_scan 4 = .ok (.ifCond .eq 4, 3) := by decide +kernel
theorem dNt_scan_7 : decode cNt_scan 7 = .ok (.return_, 1) := by decide +kernel
theorem dNt_scan_8 : decode cNt_scan 8 = .ok (.aload_n 0, 1) := by decide +kernel
theorem dNt_scan_9 : decode cNt_scan 9 = .ok (.iconst 1, 1) := by decide +kernel
theorem dNt_scan_10 : decode cNt_scan 10 = .ok (.putfield 19, 3) := by decide +kernel
theorem dNt_scan_13 : decode cNt_scan 13 = .ok (.aload_n 0, 1) := by decide +kernel
theorem dNt_scan_14 : decode cNt_scan 14 = .ok (.iconst 0, 1) := by decide +kernel
theorem dNt_scan_15 : decode cNt_scan 15 = .ok (.putfield 29, 3) := by decide +kernel
theorem dNt_scan_18 : decode cNt_scan 18 = .ok (.aload_n 0, 1) := by decide +kernel
theorem dNt_scan_19 : decode cNt_scan 19 = .ok (.iconst 0, 1) := by decide +kernel
theorem dNt_scan_20 : decode cNt_scan 20 = .ok (.putfield 32, 3) := by decide +kernel
theorem dNt_scan_23 : decode cNt_scan 23 = .ok (.aload_n 0, 1) := by decide +kernel
theorem dNt_scan_24 : decode cNt_scan 24 = .ok (.invokevirtual 35, 3) := by decide +kernel
theorem dNt_scan_27 : decode cNt_scan 27 = .ok (.aload_n 0, 1) := by decide +kernel
theorem dNt_scan_28 : decode cNt_scan 28 = .ok (.aload_n 0, 1) := by decide +kernel
theorem dNt_scan_29 : decode cNt_scan 29 = .ok (.invokevirtual 38, 3) := by decide +kernel
theorem dNt_scan_32 : decode cNt_scan 32 = .ok (.bipush 45, 2) := by decide +kernel
theorem dNt_scan_34 : decode cNt_scan 34 = .ok (.if_icmp .ne 7, 3) := by decide +kernel
theorem dNt_scan_37 : decode cNt_scan 37 = .ok (.iconst 1, 1) := by decide +kernel
theorem dNt_scan_38 : decode cNt_scan 38 = .ok (.goto 4, 3) := by decide +kernel
theorem dNt_scan_41 : decode cNt_scan 41 = .ok (.iconst 0, 1) := by decide +kernel
theorem dNt_scan_42 : decode cNt_scan 42 = .ok (.putfield 42, 3) := by decide +kernel
theorem dNt_scan_45 : decode cNt_scan 45 = .ok (.aload_n 0, 1) := by decide +kernel
theorem dNt_scan_46 : decode cNt_scan 46 = .ok (.bipush 43, 2) := by decide +kernel
theorem dNt_scan_48 : decode cNt_scan 48 = .ok (.bipush 45, 2) := by decide +kernel
theorem dNt_scan_50 : decode cNt_scan 50 = .ok (.invokevirtual 45, 3) := by decide +kernel
theorem dNt_scan_53 : decode cNt_scan 53 = .ok (.pop, 1) := by decide +kernel
theorem dNt_scan_54 : decode cNt_scan 54 = .ok (.aload_n 0, 1) := by decide +kernel
theorem dNt_scan_55 : decode cNt_scan 55 = .ok (.aload_n 0, 1) := by decide +kernel
theorem dNt_scan_56 : decode cNt_scan 56 = .ok (.invokevirtual 49, 3) := by decide +kernel
theorem dNt_scan_59 : decode cNt_scan 59 = .ok (.putfield 53, 3) := by decide +kernel
theorem dNt_scan_62 : decode cNt_scan 62 = .ok (.aload_n 0, 1) := by decide +kernel
theorem dNt_scan_63 : decode cNt_scan 63 = .ok (.getfield 53, 3) := by decide +kernel
theorem dNt_scan_66 : decode cNt_scan 66 = .ok (.iconst (-1), 1) := by decide +kernel
theorem dNt_scan_67 : decode cNt_scan 67 = .ok (.if_icmp .eq 30, 3) := by decide +kernel
theorem dNt_scan_70 : decode cNt_scan 70 = .ok (.aload_n 0, 1) := by decide +kernel
theorem dNt_scan_71 : decode cNt_scan 71 = .ok (.invokevirtual 35, 3) := by decide +kernel
theorem dNt_scan_74 : decode cNt_scan 74 = .ok (.aload_n 0, 1) := by decide +kernel
theorem dNt_scan_75 : decode cNt_scan 75 = .ok (.aload_n 0, 1) := by decide +kernel
theorem dNt_scan_76 : decode cNt_scan 76 = .ok (.getfield 32, 3) := by decide +kernel
theorem dNt_scan_79 : decode cNt_scan 79 = .ok (.aload_n 0, 1) := by decide +kernel
theorem dNt_scan_80 : decode cNt_scan 80 = .ok (.getfield 15, 3) := by decide +kernel
theorem dNt_scan_83 : decode cNt_scan 83 = .ok (.if_icmp .ge 7, 3) := by decide +kernel
theorem dNt_scan_86 : decode cNt_scan 86 = .ok (.iconst (-1), 1) := by decide +kernel
theorem dNt_scan_87 : decode cNt_scan 87 = .ok (.goto 7, 3) := by decide +kernel
theorem dNt_scan_90 : decode cNt_scan 90 = .ok (.aload_n 0, 1) := by decide +kernel
theorem dNt_scan_91 : decode cNt_scan 91 = .ok (.getfield 53, 3) := by decide +kernel
theorem dNt_scan_94 : decode cNt_scan 94 = .ok (.putfield 53, 3) := by decide +kernel
theorem dNt_scan_97 : decode cNt_scan 97 = .ok (.aload_n 0, 1) := by decide +kernel
theorem dNt_scan_98 : decode cNt_scan 98 = .ok (.aload_n 0, 1) := by decide +kernel
theorem dNt_scan_99 : decode cNt_scan 99 = .ok (.getfield 53, 3) := by decide +kernel
theorem dNt_scan_102 : decode cNt_scan 102 = .ok (.iconst (-1), 1) := by decide +kernel
theorem dNt_scan_103 : decode cNt_scan 103 = .ok (.if_icmp .ne 10, 3) := by decide +kernel
theorem dNt_scan_106 : decode cNt_scan 106 = .ok (.aload_n 0, 1) := by decide +kernel
theorem dNt_scan_107 : decode cNt_scan 107 = .ok (.getfield 32, 3) := by decide +kernel
theorem dNt_scan_110 : decode cNt_scan 110 = .ok (.goto 4, 3) := by decide +kernel
theorem dNt_scan_113 : decode cNt_scan 113 = .ok (.iconst (-1), 1) := by decide +kernel
theorem dNt_scan_114 : decode cNt_scan 114 = .ok (.putfield 56, 3) := by decide +kernel
theorem dNt_scan_117 : decode cNt_scan 117 = .ok (.return_, 1) := by decide +kernel
theorem dNt_skipBlanks_0 : decode cNt_skipBlanks 0 = .ok (.aload_n 0, 1) := by decide +kernel
theorem dNt_skipBlanks_1 : decode cNt_skipBlanks 1 = .ok (.getfield 32, 3) := by decide +kernel
theorem dNt_skipBlanks_4 : decode cNt_skipBlanks 4 = .ok (.aload_n 0, 1) := by decide +kernel
theorem dNt_skipBlanks_5 : decode cNt_skipBlanks 5 = .ok (.getfield 15, 3) := by decide +kernel
theorem dNt_skipBlanks_8 : decode cNt_skipBlanks 8 = .ok (.if_icmp .ge 25, 3) := by decide +kernel
theorem dNt_skipBlanks_11 : decode cNt_skipBlanks 11 = .ok (.aload_n 0, 1) := by decide +kernel
theorem dNt_skipBlanks_12 : decode cNt_skipBlanks 12 = .ok (.invokevirtual 38, 3) := by decide +kernel
theorem dNt_skipBlanks_15 : decode cNt_skipBlanks 15 = .ok (.bipush 32, 2) := by decide +kernel
theorem dNt_skipBlanks_17 : decode cNt_skipBlanks 17 = .ok (.if_icmp .gt 16, 3) := by decide +kernel
theorem dNt_skipBlanks_20 : decode cNt_skipBlanks 20 = .ok (.aload_n 0, 1) := by decide +kernel
theorem dNt_skipBlanks_21 : decode cNt_skipBlanks 21 = .ok (.dup, 1) := by decide +kernel
theorem dNt_skipBlanks_22 : decode cNt_skipBlanks 22 = .ok (.getfield 32, 3) := by decide +kernel
theorem dNt_skipBlanks_25 : decode cNt_skipBlanks 25 = .ok (.iconst 1, 1) := by decide +kernel
theorem dNt_skipBlanks_26 : decode cNt_skipBlanks 26 = .ok (.iadd, 1) := by decide +kernel
theorem dNt_skipBlanks_27 : decode cNt_skipBlanks 27 = .ok (.putfield 32, 3) := by decide +kernel
theorem dNt_skipBlanks_30 : decode cNt_skipBlanks 30 = .ok (.goto (-30), 3) := by decide +kernel
theorem dNt_skipBlanks_33 : decode cNt_skipBlanks 33 = .ok (.return_, 1) := by decide +kernel
theorem dNt_here_0 : decode cNt_here 0 = .ok (.aload_n 0, 1) := by decide +kernel
theorem dNt_here_1 : decode cNt_here 1 = .ok (.getfield 32, 3) := by decide +kernel
theorem dNt_here_4 : decode cNt_here 4 = .ok (.ifCond .lt 38, 3) := by decide +kernel
theorem dNt_here_7 : decode cNt_here 7 = .ok (.aload_n 0, 1) := by decide +kernel
theorem dNt_here_8 : decode cNt_here 8 = .ok (.getfield 32, 3) := by decide +kernel
theorem dNt_here_11 : decode cNt_here 11 = .ok (.aload_n 0, 1) := by decide +kernel
theorem dNt_here_12 : decode cNt_here 12 = .ok (.getfield 15, 3) := by decide +kernel
theorem dNt_here_15 : decode cNt_here 15 = .ok (.if_icmp .ge 27, 3) := by decide +kernel
theorem dNt_here_18 : decode cNt_here 18 = .ok (.aload_n 0, 1) := by decide +kernel
theorem dNt_here_19 : decode cNt_here 19 = .ok (.getfield 32, 3) := by decide +kernel
theorem dNt_here_22 : decode cNt_here 22 = .ok (.aload_n 0, 1) := by decide +kernel
theorem dNt_here_23 : decode cNt_here 23 = .ok (.getfield 9, 3) := by decide +kernel
theorem dNt_here_26 : decode cNt_here 26 = .ok (.arraylength, 1) := by decide +kernel
theorem dNt_here_27 : decode cNt_here 27 = .ok (.if_icmp .ge 15, 3) := by decide +kernel
theorem dNt_here_30 : decode cNt_here 30 = .ok (.aload_n 0, 1) := by decide +kernel
theorem dNt_here_31 : decode cNt_here 31 = .ok (.getfield 9, 3) := by decide +kernel
theorem dNt_here_34 : decode cNt_here 34 = .ok (.aload_n 0, 1) := by decide +kernel
theorem dNt_here_35 : decode cNt_here 35 = .ok (.getfield 32, 3) := by decide +kernel
theorem dNt_here_38 : decode cNt_here 38 = .ok (.caload, 1) := by decide +kernel
theorem dNt_here_39 : decode cNt_here 39 = .ok (.goto 4, 3) := by decide +kernel
theorem dNt_here_42 : decode cNt_here 42 = .ok (.iconst 0, 1) := by decide +kernel
theorem dNt_here_43 : decode cNt_here 43 = .ok (.ireturn, 1) := by decide +kernel
theorem dNt_skipOneOf_0 : decode cNt_skipOneOf 0 = .ok (.aload_n 0, 1) := by decide +kernel
theorem dNt_skipOneOf_1 : decode cNt_skipOneOf 1 = .ok (.invokevirtual 38, 3) := by decide +kernel
theorem dNt_skipOneOf_4 : decode cNt_skipOneOf 4 = .ok (.istore_n 3, 1) := by decide +kernel
theorem dNt_skipOneOf_5 : decode cNt_skipOneOf 5 = .ok (.iload_n 3, 1) := by decide +kernel
theorem dNt_skipOneOf_6 : decode cNt_skipOneOf 6 = .ok (.iload_n 1, 1) := by decide +kernel
theorem dNt_skipOneOf_7 : decode cNt_skipOneOf 7 = .ok (.if_icmp .eq 10, 3) := by decide +kernel
theorem dNt_skipOneOf_10 : decode cNt_skipOneOf 10 = .ok (.iload_n 3, 1) := by decide +kernel
theorem dNt_skipOneOf_11 : decode cNt_skipOneOf 11 = .ok (.iload_n 2, 1) := by decide +kernel
theorem dNt_skipOneOf_12 : decode cNt_skipOneOf 12 = .ok (.if_icmp .eq 5, 3) := by decide +kernel
theorem dNt_skipOneOf_15 : decode cNt_skipOneOf 15 = .ok (.iconst 0, 1) := by decide +kernel
theorem dNt_skipOneOf_16 : decode cNt_skipOneOf 16 = .ok (.ireturn, 1) := by decide +kernel
theorem dNt_skipOneOf_17 : decode cNt_skipOneOf 17 = .ok (.aload_n 0, 1) := by decide +kernel
theorem dNt_skipOneOf_18 : decode cNt_skipOneOf 18 = .ok (.dup, 1) := by decide +kernel
theorem dNt_skipOneOf_19 : decode cNt_skipOneOf 19 = .ok (.getfield 32, 3) := by decide +kernel
theorem dNt_skipOneOf_22 : decode cNt_skipOneOf 22 = .ok (.iconst 1, 1) := by decide +kernel
theorem dNt_skipOneOf_23 : decode cNt_skipOneOf 23 = .ok (.iadd, 1) := by decide +kernel
theorem dNt_skipOneOf_24 : decode cNt_skipOneOf 24 = .ok (.putfield 32, 3) := by decide +kernel
theorem dNt_skipOneOf_27 : decode cNt_skipOneOf 27 = .ok (.iconst 1, 1) := by decide +kernel
theorem dNt_skipOneOf_28 : decode cNt_skipOneOf 28 = .ok (.ireturn, 1) := by decide +kernel
theorem dNt_takeBody_0 : decode cNt_takeBody 0 = .ok (.aload_n 0, 1) := by decide +kernel
theorem dNt_takeBody_1 : decode cNt_takeBody 1 = .ok (.invokevirtual 38, 3) := by decide +kernel
theorem dNt_takeBody_4 : decode cNt_takeBody 4 = .ok (.bipush 78, 2) := by decide +kernel
theorem dNt_takeBody_6 : decode cNt_takeBody 6 = .ok (.if_icmp .ne 18, 3) := by decide +kernel
theorem dNt_takeBody_9 : decode cNt_takeBody 9 = .ok (.aload_n 0, 1) := by decide +kernel
theorem dNt_takeBody_10 : decode cNt_takeBody 10 = .ok (.ldc 59, 2) := by decide +kernel
theorem dNt_takeBody_12 : decode cNt_takeBody 12 = .ok (.invokevirtual 61, 3) := by decide +kernel
theorem dNt_takeBody_15 : decode cNt_takeBody 15 = .ok (.ifCond .eq 7, 3) := by decide +kernel
theorem dNt_takeBody_18 : decode cNt_takeBody 18 = .ok (.iconst 3, 1) := by decide +kernel
theorem dNt_takeBody_19 : decode cNt_takeBody 19 = .ok (.goto 4, 3) := by decide +kernel
theorem dNt_takeBody_22 : decode cNt_takeBody 22 = .ok (.iconst (-1), 1) := by decide +kernel
theorem dNt_takeBody_23 : decode cNt_takeBody 23 = .ok (.ireturn, 1) := by decide +kernel
theorem dNt_takeBody_24 : decode cNt_takeBody 24 = .ok (.aload_n 0, 1) := by decide +kernel
theorem dNt_takeBody_25 : decode cNt_takeBody 25 = .ok (.invokevirtual 38, 3) := by decide +kernel
theorem dNt_takeBody_28 : decode cNt_takeBody 28 = .ok (.bipush 73, 2) := by decide +kernel
theorem dNt_takeBody_30 : decode cNt_takeBody 30 = .ok (.if_icmp .ne 18, 3) := by decide +kernel
theorem dNt_takeBody_33 : decode cNt_takeBody 33 = .ok (.aload_n 0, 1) := by decide +kernel
theorem dNt_takeBody_34 : decode cNt_takeBody 34 = .ok (.ldc 65, 2) := by decide +kernel
theorem dNt_takeBody_36 : decode cNt_takeBody 36 = .ok (.invokevirtual 61, 3) := by decide +kernel
theorem dNt_takeBody_39 : decode cNt_takeBody 39 = .ok (.ifCond .eq 7, 3) := by decide +kernel
theorem dNt_takeBody_42 : decode cNt_takeBody 42 = .ok (.iconst 2, 1) := by decide +kernel
theorem dNt_takeBody_43 : decode cNt_takeBody 43 = .ok (.goto 4, 3) := by decide +kernel
theorem dNt_takeBody_46 : decode cNt_takeBody 46 = .ok (.iconst (-1), 1) := by decide +kernel
theorem dNt_takeBody_47 : decode cNt_takeBody 47 = .ok (.ireturn, 1) := by decide +kernel
theorem dNt_takeBody_48 : decode cNt_takeBody 48 = .ok (.aload_n 0, 1) := by decide +kernel
theorem dNt_takeBody_49 : decode cNt_takeBody 49 = .ok (.aload_n 0, 1) := by decide +kernel
theorem dNt_takeBody_50 : decode cNt_takeBody 50 = .ok (.getfield 32, 3) := by decide +kernel
theorem dNt_takeBody_53 : decode cNt_takeBody 53 = .ok (.iconst 1, 1) := by decide +kernel
theorem dNt_takeBody_54 : decode cNt_takeBody 54 = .ok (.iadd, 1) := by decide +kernel
theorem dNt_takeBody_55 : decode cNt_takeBody 55 = .ok (.invokevirtual 67, 3) := by decide +kernel
theorem dNt_takeBody_58 : decode cNt_takeBody 58 = .ok (.istore_n 1, 1) := by decide +kernel
theorem dNt_takeBody_59 : decode cNt_takeBody 59 = .ok (.aload_n 0, 1) := by decide +kernel
theorem dNt_takeBody_60 : decode cNt_takeBody 60 = .ok (.invokevirtual 38, 3) := by decide +kernel
theorem dNt_takeBody_63 : decode cNt_takeBody 63 = .ok (.bipush 48, 2) := by decide +kernel
theorem dNt_takeBody_65 : decode cNt_takeBody 65 = .ok (.if_icmp .ne 38, 3) := by decide +kernel
theorem dNt_takeBody_68 : decode cNt_takeBody 68 = .ok (.iload_n 1, 1) := by decide +kernel
theorem dNt_takeBody_69 : decode cNt_takeBody 69 = .ok (.bipush 120, 2) := by decide +kernel
theorem dNt_takeBody_71 : decode cNt_takeBody 71 = .ok (.if_icmp .eq 9, 3) := by decide +kernel
theorem dNt_takeBody_74 : decode cNt_takeBody 74 = .ok (.iload_n 1, 1) := by decide +kernel
theorem dNt_takeBody_75 : decode cNt_takeBody 75 = .ok (.bipush 88, 2) := by decide +kernel
theorem dNt_takeBody_77 : decode cNt_takeBody 77 = .ok (.if_icmp .ne 26, 3) := by decide +kernel
theorem dNt_takeBody_80 : decode cNt_takeBody 80 = .ok (.aload_n 0, 1) := by decide +kernel
theorem dNt_takeBody_81 : decode cNt_takeBody 81 = .ok (.dup, 1) := by decide +kernel
theorem dNt_takeBody_82 : decode cNt_takeBody 82 = .ok (.getfield 32, 3) := by decide +kernel
theorem dNt_takeBody_85 : decode cNt_takeBody 85 = .ok (.iconst 2, 1) := by decide +kernel
theorem dNt_takeBody_86 : decode cNt_takeBody 86 = .ok (.iadd, 1) := by decide +kernel
theorem dNt_takeBody_87 : decode cNt_takeBody 87 = .ok (.putfield 32, 3) := by decide +kernel
theorem dNt_takeBody_90 : decode cNt_takeBody 90 = .ok (.aload_n 0, 1) := by decide +kernel
theorem dNt_takeBody_91 : decode cNt_takeBody 91 = .ok (.invokevirtual 71, 3) := by decide +kernel
theorem dNt_takeBody_94 : decode cNt_takeBody 94 = .ok (.ifCond .eq 7, 3) := by decide +kernel
theorem dNt_takeBody_97 : decode cNt_takeBody 97 = .ok (.iconst 1, 1) := by decide +kernel
theorem dNt_takeBody_98 : decode cNt_takeBody 98 = .ok (.goto 4, 3) := by decide +kernel
theorem dNt_takeBody_101 : decode cNt_takeBody 101 = .ok (.iconst (-1), 1) := by decide +kernel
theorem dNt_takeBody_102 : decode cNt_takeBody 102 = .ok (.ireturn, 1) := by decide +kernel
theorem dNt_takeBody_103 : decode cNt_takeBody 103 = .ok (.aload_n 0, 1) := by decide +kernel
theorem dNt_takeBody_104 : decode cNt_takeBody 104 = .ok (.invokevirtual 75, 3) := by decide +kernel
theorem dNt_takeBody_107 : decode cNt_takeBody 107 = .ok (.ifCond .eq 7, 3) := by decide +kernel
theorem dNt_takeBody_110 : decode cNt_takeBody 110 = .ok (.iconst 0, 1) := by decide +kernel
theorem dNt_takeBody_111 : decode cNt_takeBody 111 = .ok (.goto 4, 3) := by decide +kernel
theorem dNt_takeBody_114 : decode cNt_takeBody 114 = .ok (.iconst (-1), 1) := by decide +kernel
theorem dNt_takeBody_115 : decode cNt_takeBody 115 = .ok (.ireturn, 1) := by decide +kernel
theorem dNt_takeWord_0 : decode cNt_takeWord 0 = .ok (.iconst 0, 1) := by decide +kernel
theorem dNt_takeWord_1 : decode cNt_takeWord 1 = .ok (.istore_n 2, 1) := by decide +kernel
theorem dNt_takeWord_2 : decode cNt_takeWord 2 = .ok (.iload_n 2, 1) := by decide +kernel
theorem dNt_takeWord_3 : decode cNt_takeWord 3 = .ok (.aload_n 1, 1) := by decide +kernel
theorem dNt_takeWord_4 : decode cNt_takeWord 4 = .ok (.invokevirtual 78, 3) := by decide +kernel
theorem dNt_takeWord_7 : decode cNt_takeWord 7 = .ok (.if_icmp .ge 33, 3) := by decide +kernel
theorem dNt_takeWord_10 : decode cNt_takeWord 10 = .ok (.aload_n 0, 1) := by decide +kernel
theorem dNt_takeWord_11 : decode cNt_takeWord 11 = .ok (.invokevirtual 38, 3) := by decide +kernel
theorem dNt_takeWord_14 : decode cNt_takeWord 14 = .ok (.aload_n 1, 1) := by decide +kernel
theorem dNt_takeWord_15 : decode cNt_takeWord 15 = .ok (.iload_n 2, 1) := by decide +kernel
theorem dNt_takeWord_16 : decode cNt_takeWord 16 = .ok (.invokevirtual 82, 3) := by decide +kernel
theorem dNt_takeWord_19 : decode cNt_takeWord 19 = .ok (.if_icmp .eq 5, 3) := by decide +kernel
theorem dNt_takeWord_22 : decode cNt_takeWord 22 = .ok (.iconst 0, 1) := by decide +kernel
theorem dNt_takeWord_23 : decode cNt_takeWord 23 = .ok (.ireturn, 1) := by decide +kernel
theorem dNt_takeWord_24 : decode cNt_takeWord 24 = .ok (.aload_n 0, 1) := by decide +kernel
theorem dNt_takeWord_25 : decode cNt_takeWord 25 = .ok (.dup, 1) := by decide +kernel
theorem dNt_takeWord_26 : decode cNt_takeWord 26 = .ok (.getfield 32, 3) := by decide +kernel
theorem dNt_takeWord_29 : decode cNt_takeWord 29 = .ok (.iconst 1, 1) := by decide +kernel
theorem dNt_takeWord_30 : decode cNt_takeWord 30 = .ok (.iadd, 1) := by decide +kernel
theorem dNt_takeWord_31 : decode cNt_takeWord 31 = .ok (.putfield 32, 3) := by decide +kernel
theorem dNt_takeWord_34 : decode cNt_takeWord 34 = .ok (.iinc 2 1, 3) := by decide +kernel
theorem dNt_takeWord_37 : decode cNt_takeWord 37 = .ok (.goto (-35), 3) := by decide +kernel
theorem dNt_takeWord_40 : decode cNt_takeWord 40 = .ok (.iconst 1, 1) := by decide +kernel
theorem dNt_takeWord_41 : decode cNt_takeWord 41 = .ok (.ireturn, 1) := by decide +kernel
theorem dNt_characterAt_0 : decode cNt_characterAt 0 = .ok (.iload_n 1, 1) := by decide +kernel
theorem dNt_characterAt_1 : decode cNt_characterAt 1 = .ok (.ifCond .lt 29, 3) := by decide +kernel
theorem dNt_characterAt_4 : decode cNt_characterAt 4 = .ok (.iload_n 1, 1) := by decide +kernel
theorem dNt_characterAt_5 : decode cNt_characterAt 5 = .ok (.aload_n 0, 1) := by decide +kernel
theorem dNt_characterAt_6 : decode cNt_characterAt 6 = .ok (.getfield 15, 3) := by decide +kernel
theorem dNt_characterAt_9 : decode cNt_characterAt 9 = .ok (.if_icmp .ge 21, 3) := by decide +kernel
theorem dNt_characterAt_12 : decode cNt_characterAt 12 = .ok (.iload_n 1, 1) := by decide +kernel
theorem dNt_characterAt_13 : decode cNt_characterAt 13 = .ok (.aload_n 0, 1) := by decide +kernel
theorem dNt_characterAt_14 : decode cNt_characterAt 14 = .ok (.getfield 9, 3) := by decide +kernel
theorem dNt_characterAt_17 : decode cNt_characterAt 17 = .ok (.arraylength, 1) := by decide +kernel
theorem dNt_characterAt_18 : decode cNt_characterAt 18 = .ok (.if_icmp .ge 12, 3) := by decide +kernel
theorem dNt_characterAt_21 : decode cNt_characterAt 21 = .ok (.aload_n 0, 1) := by decide +kernel
theorem dNt_characterAt_22 : decode cNt_characterAt 22 = .ok (.getfield 9, 3) := by decide +kernel
theorem dNt_characterAt_25 : decode cNt_characterAt 25 = .ok (.iload_n 1, 1) := by decide +kernel
theorem dNt_characterAt_26 : decode cNt_characterAt 26 = .ok (.caload, 1) := by decide +kernel
theorem dNt_characterAt_27 : decode cNt_characterAt 27 = .ok (.goto 4, 3) := by decide +kernel
theorem dNt_characterAt_30 : decode cNt_characterAt 30 = .ok (.iconst 0, 1) := by decide +kernel
theorem dNt_characterAt_31 : decode cNt_characterAt 31 = .ok (.ireturn, 1) := by decide +kernel
theorem dNt_takeHexadecimal_0 : decode cNt_takeHexadecimal 0 = .ok (.aload_n 0, 1) := by decide +kernel
theorem dNt_takeHexadecimal_1 : decode cNt_takeHexadecimal 1 = .ok (.bipush 16, 2) := by decide +kernel
theorem dNt_takeHexadecimal_3 : decode cNt_takeHexadecimal 3 = .ok (.invokevirtual 88, 3) := by decide +kernel
theorem dNt_takeHexadecimal_6 : decode cNt_takeHexadecimal 6 = .ok (.ifCond .eq 21, 3) := by decide +kernel
theorem dNt_takeHexadecimal_9 : decode cNt_takeHexadecimal 9 = .ok (.aload_n 0, 1) := by decide +kernel
theorem dNt_takeHexadecimal_10 : decode cNt_takeHexadecimal 10 = .ok (.bipush 112, 2) := by decide +kernel
theorem dNt_takeHexadecimal_12 : decode cNt_takeHexadecimal 12 = .ok (.bipush 80, 2) := by decide +kernel
theorem dNt_takeHexadecimal_14 : decode cNt_takeHexadecimal 14 = .ok (.invokevirtual 45, 3) := by decide +kernel
theorem dNt_takeHexadecimal_17 : decode cNt_takeHexadecimal 17 = .ok (.ifCond .eq 10, 3) := by decide +kernel
theorem dNt_takeHexadecimal_20 : decode cNt_takeHexadecimal 20 = .ok (.aload_n 0, 1) := by decide +kernel
theorem dNt_takeHexadecimal_21 : decode cNt_takeHexadecimal 21 = .ok (.invokevirtual 92, 3) := by decide +kernel
theorem dNt_takeHexadecimal_24 : decode cNt_takeHexadecimal 24 = .ok (.ifCond .ne 5, 3) := by decide +kernel
theorem dNt_takeHexadecimal_27 : decode cNt_takeHexadecimal 27 = .ok (.iconst 0, 1) := by decide +kernel
theorem dNt_takeHexadecimal_28 : decode cNt_takeHexadecimal 28 = .ok (.ireturn, 1) := by decide +kernel
theorem dNt_takeHexadecimal_29 : decode cNt_takeHexadecimal 29 = .ok (.aload_n 0, 1) := by decide +kernel
theorem dNt_takeHexadecimal_30 : decode cNt_takeHexadecimal 30 = .ok (.invokevirtual 95, 3) := by decide +kernel
theorem dNt_takeHexadecimal_33 : decode cNt_takeHexadecimal 33 = .ok (.iconst 1, 1) := by decide +kernel
theorem dNt_takeHexadecimal_34 : decode cNt_takeHexadecimal 34 = .ok (.ireturn, 1) := by decide +kernel
theorem dNt_takeDigits_0 : decode cNt_takeDigits 0 = .ok (.iconst 0, 1) := by decide +kernel
theorem dNt_takeDigits_1 : decode cNt_takeDigits 1 = .ok (.istore_n 2, 1) := by decide +kernel
theorem dNt_takeDigits_2 : decode cNt_takeDigits 2 = .ok (.iconst 0, 1) := by decide +kernel
theorem dNt_takeDigits_3 : decode cNt_takeDigits 3 = .ok (.istore_n 3, 1) := by decide +kernel
theorem dNt_takeDigits_4 : decode cNt_takeDigits 4 = .ok (.aload_n 0, 1) := by decide +kernel
theorem dNt_takeDigits_5 : decode cNt_takeDigits 5 = .ok (.iconst 0, 1) := by decide +kernel
theorem dNt_takeDigits_6 : decode cNt_takeDigits 6 = .ok (.putfield 98, 3) := by decide +kernel
theorem dNt_takeDigits_9 : decode cNt_takeDigits 9 = .ok (.aload_n 0, 1) := by decide +kernel
theorem dNt_takeDigits_10 : decode cNt_takeDigits 10 = .ok (.iconst 0, 1) := by decide +kernel
theorem dNt_takeDigits_11 : decode cNt_takeDigits 11 = .ok (.putfield 101, 3) := by decide +kernel
theorem dNt_takeDigits_14 : decode cNt_takeDigits 14 = .ok (.aload_n 0, 1) := by decide +kernel
theorem dNt_takeDigits_15 : decode cNt_takeDigits 15 = .ok (.aload_n 0, 1) := by decide +kernel
theorem dNt_takeDigits_16 : decode cNt_takeDigits 16 = .ok (.getfield 32, 3) := by decide +kernel
theorem dNt_takeDigits_19 : decode cNt_takeDigits 19 = .ok (.putfield 104, 3) := by decide +kernel
theorem dNt_takeDigits_22 : decode cNt_takeDigits 22 = .ok (.aload_n 0, 1) := by decide +kernel
theorem dNt_takeDigits_23 : decode cNt_takeDigits 23 = .ok (.getfield 32, 3) := by decide +kernel
theorem dNt_takeDigits_26 : decode cNt_takeDigits 26 = .ok (.aload_n 0, 1) := by decide +kernel
theorem dNt_takeDigits_27 : decode cNt_takeDigits 27 = .ok (.getfield 15, 3) := by decide +kernel
theorem dNt_takeDigits_30 : decode cNt_takeDigits 30 = .ok (.if_icmp .ge 98, 3) := by decide +kernel
theorem dNt_takeDigits_33 : decode cNt_takeDigits 33 = .ok (.aload_n 0, 1) := by decide +kernel
theorem dNt_takeDigits_34 : decode cNt_takeDigits 34 = .ok (.invokevirtual 38, 3) := by decide +kernel
theorem dNt_takeDigits_37 : decode cNt_takeDigits 37 = .ok (.istore 4, 2) := by decide +kernel
theorem dNt_takeDigits_39 : decode cNt_takeDigits 39 = .ok (.iload 4, 2) := by decide +kernel
theorem dNt_takeDigits_41 : decode cNt_takeDigits 41 = .ok (.iload_n 1, 1) := by decide +kernel
theorem dNt_takeDigits_42 : decode cNt_takeDigits 42 = .ok (.invokestatic 107, 3) := by decide +kernel
theorem dNt_takeDigits_45 : decode cNt_takeDigits 45 = .ok (.istore 5, 2) := by decide +kernel
theorem dNt_takeDigits_47 : decode cNt_takeDigits 47 = .ok (.iload 5, 2) := by decide +kernel
theorem dNt_takeDigits_49 : decode cNt_takeDigits 49 = .ok (.iconst (-1), 1) := by decide +kernel
theorem dNt_takeDigits_50 : decode cNt_takeDigits 50 = .ok (.if_icmp .eq 52, 3) := by decide +kernel
theorem dNt_takeDigits_53 : decode cNt_takeDigits 53 = .ok (.iconst 1, 1) := by decide +kernel
theorem dNt_takeDigits_54 : decode cNt_takeDigits 54 = .ok (.istore_n 2, 1) := by decide +kernel
theorem dNt_takeDigits_55 : decode cNt_takeDigits 55 = .ok (.aload_n 0, 1) := by decide +kernel
theorem dNt_takeDigits_56 : decode cNt_takeDigits 56 = .ok (.dup, 1) := by decide +kernel
theorem dNt_takeDigits_57 : decode cNt_takeDigits 57 = .ok (.getfield 98, 3) := by decide +kernel
theorem dNt_takeDigits_60 : decode cNt_takeDigits 60 = .ok (.aload_n 0, 1) := by decide +kernel
theorem dNt_takeDigits_61 : decode cNt_takeDigits 61 = .ok (.getfield 98, 3) := by decide +kernel
theorem dNt_takeDigits_64 : decode cNt_takeDigits 64 = .ok (.ifCond .gt 8, 3) := by decide +kernel
theorem dNt_takeDigits_67 : decode cNt_takeDigits 67 = .ok (.iload 5, 2) := by decide +kernel
theorem dNt_takeDigits_69 : decode cNt_takeDigits 69 = .ok (.ifCond .le 7, 3) := by decide +kernel
theorem dNt_takeDigits_72 : decode cNt_takeDigits 72 = .ok (.iconst 1, 1) := by decide +kernel
theorem dNt_takeDigits_73 : decode cNt_takeDigits 73 = .ok (.goto 4, 3) := by decide +kernel
theorem dNt_takeDigits_76 : decode cNt_takeDigits 76 = .ok (.iconst 0, 1) := by decide +kernel
theorem dNt_takeDigits_77 : decode cNt_takeDigits 77 = .ok (.iadd, 1) := by decide +kernel
theorem dNt_takeDigits_78 : decode cNt_takeDigits 78 = .ok (.putfield 98, 3) := by decide +kernel
theorem dNt_takeDigits_81 : decode cNt_takeDigits 81 = .ok (.aload_n 0, 1) := by decide +kernel
theorem dNt_takeDigits_82 : decode cNt_takeDigits 82 = .ok (.dup, 1) := by decide +kernel
theorem dNt_takeDigits_83 : decode cNt_takeDigits 83 = .ok (.getfield 101, 3) := by decide +kernel
theorem dNt_takeDigits_86 : decode cNt_takeDigits 86 = .ok (.iload_n 3, 1) := by decide +kernel
theorem dNt_takeDigits_87 : decode cNt_takeDigits 87 = .ok (.ifCond .eq 7, 3) := by decide +kernel
theorem dNt_takeDigits_90 : decode cNt_takeDigits 90 = .ok (.iconst 1, 1) := by decide +kernel
theorem dNt_takeDigits_91 : decode cNt_takeDigits 91 = .ok (.goto 4, 3) := by decide +kernel
theorem dNt_takeDigits_94 : decode cNt_takeDigits 94 = .ok (.iconst 0, 1) := by decide +kernel
theorem dNt_takeDigits_95 : decode cNt_takeDigits 95 = .ok (.iadd, 1) := by decide +kernel
theorem dNt_takeDigits_96 : decode cNt_takeDigits 96 = .ok (.putfield 101, 3) := by decide +kernel
theorem dNt_takeDigits_99 : decode cNt_takeDigits 99 = .ok (.goto 16, 3) := by decide +kernel
theorem dNt_takeDigits_102 : decode cNt_takeDigits 102 = .ok (.iload 4, 2) := by decide +kernel
theorem dNt_takeDigits_104 : decode cNt_takeDigits 104 = .ok (.bipush 46, 2) := by decide +kernel
theorem dNt_takeDigits_106 : decode cNt_takeDigits 106 = .ok (.if_icmp .ne 22, 3) := by decide +kernel
theorem dNt_takeDigits_109 : decode cNt_takeDigits 109 = .ok (.iload_n 3, 1) := by decide +kernel
theorem dNt_takeDigits_110 : decode cNt_takeDigits 110 = .ok (.ifCond .ne 18, 3) := by decide +kernel
theorem dNt_takeDigits_113 : decode cNt_takeDigits 113 = .ok (.iconst 1, 1) := by decide +kernel
theorem dNt_takeDigits_114 : decode cNt_takeDigits 114 = .ok (.istore_n 3, 1) := by decide +kernel
theorem dNt_takeDigits_115 : decode cNt_takeDigits 115 = .ok (.aload_n 0, 1) := by decide +kernel
theorem dNt_takeDigits_116 : decode cNt_takeDigits 116 = .ok (.dup, 1) := by decide +kernel
theorem dNt_takeDigits_117 : decode cNt_takeDigits 117 = .ok (.getfield 32, 3) := by decide +kernel
theorem dNt_takeDigits_120 : decode cNt_takeDigits 120 = .ok (.iconst 1, 1) := by decide +kernel
theorem dNt_takeDigits_121 : decode cNt_takeDigits 121 = .ok (.iadd, 1) := by decide +kernel
theorem dNt_takeDigits_122 : decode cNt_takeDigits 122 = .ok (.putfield 32, 3) := by decide +kernel
theorem dNt_takeDigits_125 : decode cNt_takeDigits 125 = .ok (.goto (-103), 3) := by decide +kernel
theorem dNt_takeDigits_128 : decode cNt_takeDigits 128 = .ok (.aload_n 0, 1) := by decide +kernel
theorem dNt_takeDigits_129 : decode cNt_takeDigits 129 = .ok (.aload_n 0, 1) := by decide +kernel
theorem dNt_takeDigits_130 : decode cNt_takeDigits 130 = .ok (.getfield 32, 3) := by decide +kernel
theorem dNt_takeDigits_133 : decode cNt_takeDigits 133 = .ok (.putfield 111, 3) := by decide +kernel
theorem dNt_takeDigits_136 : decode cNt_takeDigits 136 = .ok (.iload_n 2, 1) := by decide +kernel
theorem dNt_takeDigits_137 : decode cNt_takeDigits 137 = .ok (.ireturn, 1) := by decide +kernel
theorem dNt_digitOf_0 : decode cNt_digitOf 0 = .ok (.iload_n 0, 1) := by decide +kernel
theorem dNt_digitOf_1 : decode cNt_digitOf 1 = .ok (.bipush 48, 2) := by decide +kernel
theorem dNt_digitOf_3 : decode cNt_digitOf 3 = .ok (.if_icmp .lt 14, 3) := by decide +kernel
theorem dNt_digitOf_6 : decode cNt_digitOf 6 = .ok (.iload_n 0, 1) := by decide +kernel
theorem dNt_digitOf_7 : decode cNt_digitOf 7 = .ok (.bipush 57, 2) := by decide +kernel
theorem dNt_digitOf_9 : decode cNt_digitOf 9 = .ok (.if_icmp .gt 8, 3) := by decide +kernel
theorem dNt_digitOf_12 : decode cNt_digitOf 12 = .ok (.iload_n 0, 1) := by decide +kernel
theorem dNt_digitOf_13 : decode cNt_digitOf 13 = .ok (.bipush 48, 2) := by decide +kernel
theorem dNt_digitOf_15 : decode cNt_digitOf 15 = .ok (.isub, 1) := by decide +kernel
theorem dNt_digitOf_16 : decode cNt_digitOf 16 = .ok (.ireturn, 1) := by decide +kernel
theorem dNt_digitOf_17 : decode cNt_digitOf 17 = .ok (.iload_n 1, 1) := by decide +kernel
theorem dNt_digitOf_18 : decode cNt_digitOf 18 = .ok (.bipush 16, 2) := by decide +kernel
theorem dNt_digitOf_20 : decode cNt_digitOf 20 = .ok (.if_icmp .ne 23, 3) := by decide +kernel
theorem dNt_digitOf_23 : decode cNt_digitOf 23 = .ok (.iload_n 0, 1) := by decide +kernel
theorem dNt_digitOf_24 : decode cNt_digitOf 24 = .ok (.bipush 97, 2) := by decide +kernel
theorem dNt_digitOf_26 : decode cNt_digitOf 26 = .ok (.if_icmp .lt 17, 3) := by decide +kernel
theorem dNt_digitOf_29 : decode cNt_digitOf 29 = .ok (.iload_n 0, 1) := by decide +kernel
theorem dNt_digitOf_30 : decode cNt_digitOf 30 = .ok (.bipush 102, 2) := by decide +kernel
theorem dNt_digitOf_32 : decode cNt_digitOf 32 = .ok (.if_icmp .gt 11, 3) := by decide +kernel
theorem dNt_digitOf_35 : decode cNt_digitOf 35 = .ok (.iload_n 0, 1) := by decide +kernel
theorem dNt_digitOf_36 : decode cNt_digitOf 36 = .ok (.bipush 97, 2) := by decide +kernel
theorem dNt_digitOf_38 : decode cNt_digitOf 38 = .ok (.isub, 1) := by decide +kernel
theorem dNt_digitOf_39 : decode cNt_digitOf 39 = .ok (.bipush 10, 2) := by decide +kernel
theorem dNt_digitOf_41 : decode cNt_digitOf 41 = .ok (.iadd, 1) := by decide +kernel
theorem dNt_digitOf_42 : decode cNt_digitOf 42 = .ok (.ireturn, 1) := by decide +kernel
theorem dNt_digitOf_43 : decode cNt_digitOf 43 = .ok (.iload_n 1, 1) := by decide +kernel
theorem dNt_digitOf_44 : decode cNt_digitOf 44 = .ok (.bipush 16, 2) := by decide +kernel
theorem dNt_digitOf_46 : decode cNt_digitOf 46 = .ok (.if_icmp .ne 23, 3) := by decide +kernel
theorem dNt_digitOf_49 : decode cNt_digitOf 49 = .ok (.iload_n 0, 1) := by decide +kernel
theorem dNt_digitOf_50 : decode cNt_digitOf 50 = .ok (.bipush 65, 2) := by decide +kernel
theorem dNt_digitOf_52 : decode cNt_digitOf 52 = .ok (.if_icmp .lt 17, 3) := by decide +kernel
theorem dNt_digitOf_55 : decode cNt_digitOf 55 = .ok (.iload_n 0, 1) := by decide +kernel
theorem dNt_digitOf_56 : decode cNt_digitOf 56 = .ok (.bipush 70, 2) := by decide +kernel
theorem dNt_digitOf_58 : decode cNt_digitOf 58 = .ok (.if_icmp .gt 11, 3) := by decide +kernel
theorem dNt_digitOf_61 : decode cNt_digitOf 61 = .ok (.iload_n 0, 1) := by decide +kernel
theorem dNt_digitOf_62 : decode cNt_digitOf 62 = .ok (.bipush 65, 2) := by decide +kernel
theorem dNt_digitOf_64 : decode cNt_digitOf 64 = .ok (.isub, 1) := by decide +kernel
theorem dNt_digitOf_65 : decode cNt_digitOf 65 = .ok (.bipush 10, 2) := by decide +kernel
theorem dNt_digitOf_67 : decode cNt_digitOf 67 = .ok (.iadd, 1) := by decide +kernel
theorem dNt_digitOf_68 : decode cNt_digitOf 68 = .ok (.ireturn, 1) := by decide +kernel
theorem dNt_digitOf_69 : decode cNt_digitOf 69 = .ok (.iconst (-1), 1) := by decide +kernel
theorem dNt_digitOf_70 : decode cNt_digitOf 70 = .ok (.ireturn, 1) := by decide +kernel
theorem dNt_takeExponent_0 : decode cNt_takeExponent 0 = .ok (.aload_n 0, 1) := by decide +kernel
theorem dNt_takeExponent_1 : decode cNt_takeExponent 1 = .ok (.invokevirtual 38, 3) := by decide +kernel
theorem dNt_takeExponent_4 : decode cNt_takeExponent 4 = .ok (.bipush 45, 2) := by decide +kernel
theorem dNt_takeExponent_6 : decode cNt_takeExponent 6 = .ok (.if_icmp .ne 7, 3) := by decide +kernel
theorem dNt_takeExponent_9 : decode cNt_takeExponent 9 = .ok (.iconst 1, 1) := by decide +kernel
theorem dNt_takeExponent_10 : decode cNt_takeExponent 10 = .ok (.goto 4, 3) := by decide +kernel
theorem dNt_takeExponent_13 : decode cNt_takeExponent 13 = .ok (.iconst 0, 1) := by decide +kernel
theorem dNt_takeExponent_14 : decode cNt_takeExponent 14 = .ok (.istore_n 1, 1) := by decide +kernel
theorem dNt_takeExponent_15 : decode cNt_takeExponent 15 = .ok (.aload_n 0, 1) := by decide +kernel
theorem dNt_takeExponent_16 : decode cNt_takeExponent 16 = .ok (.bipush 43, 2) := by decide +kernel
theorem dNt_takeExponent_18 : decode cNt_takeExponent 18 = .ok (.bipush 45, 2) := by decide +kernel
theorem dNt_takeExponent_20 : decode cNt_takeExponent 20 = .ok (.invokevirtual 45, 3) := by decide +kernel
theorem dNt_takeExponent_23 : decode cNt_takeExponent 23 = .ok (.pop, 1) := by decide +kernel
theorem dNt_takeExponent_24 : decode cNt_takeExponent 24 = .ok (.aload_n 0, 1) := by decide +kernel
theorem dNt_takeExponent_25 : decode cNt_takeExponent 25 = .ok (.getfield 32, 3) := by decide +kernel
theorem dNt_takeExponent_28 : decode cNt_takeExponent 28 = .ok (.istore_n 2, 1) := by decide +kernel
theorem dNt_takeExponent_29 : decode cNt_takeExponent 29 = .ok (.iconst 0, 1) := by decide +kernel
theorem dNt_takeExponent_30 : decode cNt_takeExponent 30 = .ok (.istore_n 3, 1) := by decide +kernel
theorem dNt_takeExponent_31 : decode cNt_takeExponent 31 = .ok (.aload_n 0, 1) := by decide +kernel
theorem dNt_takeExponent_32 : decode cNt_takeExponent 32 = .ok (.getfield 32, 3) := by decide +kernel
theorem dNt_takeExponent_35 : decode cNt_takeExponent 35 = .ok (.aload_n 0, 1) := by decide +kernel
theorem dNt_takeExponent_36 : decode cNt_takeExponent 36 = .ok (.getfield 15, 3) := by decide +kernel
theorem dNt_takeExponent_39 : decode cNt_takeExponent 39 = .ok (.if_icmp .ge 49, 3) := by decide +kernel
theorem dNt_takeExponent_42 : decode cNt_takeExponent 42 = .ok (.aload_n 0, 1) := by decide +kernel
theorem dNt_takeExponent_43 : decode cNt_takeExponent 43 = .ok (.invokevirtual 38, 3) := by decide +kernel
theorem dNt_takeExponent_46 : decode cNt_takeExponent 46 = .ok (.bipush 10, 2) := by decide +kernel
theorem dNt_takeExponent_48 : decode cNt_takeExponent 48 = .ok (.invokestatic 107, 3) := by decide +kernel
theorem dNt_takeExponent_51 : decode cNt_takeExponent 51 = .ok (.istore 4, 2) := by decide +kernel
theorem dNt_takeExponent_53 : decode cNt_takeExponent 53 = .ok (.iload 4, 2) := by decide +kernel
theorem dNt_takeExponent_55 : decode cNt_takeExponent 55 = .ok (.iconst (-1), 1) := by decide +kernel
theorem dNt_takeExponent_56 : decode cNt_takeExponent 56 = .ok (.if_icmp .ne 6, 3) := by decide +kernel
theorem dNt_takeExponent_59 : decode cNt_takeExponent 59 = .ok (.goto 29, 3) := by decide +kernel
theorem dNt_takeExponent_62 : decode cNt_takeExponent 62 = .ok (.iload_n 3, 1) := by decide +kernel
theorem dNt_takeExponent_63 : decode cNt_takeExponent 63 = .ok (.bipush 10, 2) := by decide +kernel
theorem dNt_takeExponent_65 : decode cNt_takeExponent 65 = .ok (.imul, 1) := by decide +kernel
theorem dNt_takeExponent_66 : decode cNt_takeExponent 66 = .ok (.iload 4, 2) := by decide +kernel
theorem dNt_takeExponent_68 : decode cNt_takeExponent 68 = .ok (.iadd, 1) := by decide +kernel
theorem dNt_takeExponent_69 : decode cNt_takeExponent 69 = .ok (.ldc 114, 2) := by decide +kernel
theorem dNt_takeExponent_71 : decode cNt_takeExponent 71 = .ok (.invokestatic 23, 3) := by decide +kernel
theorem dNt_takeExponent_74 : decode cNt_takeExponent 74 = .ok (.istore_n 3, 1) := by decide +kernel
theorem dNt_takeExponent_75 : decode cNt_takeExponent 75 = .ok (.aload_n 0, 1) := by decide +kernel
theorem dNt_takeExponent_76 : decode cNt_takeExponent 76 = .ok (.dup, 1) := by decide +kernel
theorem dNt_takeExponent_77 : decode cNt_takeExponent 77 = .ok (.getfield 32, 3) := by decide +kernel
theorem dNt_takeExponent_80 : decode cNt_takeExponent 80 = .ok (.iconst 1, 1) := by decide +kernel
theorem dNt_takeExponent_81 : decode cNt_takeExponent 81 = .ok (.iadd, 1) := by decide +kernel
theorem dNt_takeExponent_82 : decode cNt_takeExponent 82 = .ok (.putfield 32, 3) := by decide +kernel
theorem dNt_takeExponent_85 : decode cNt_takeExponent 85 = .ok (.goto (-54), 3) := by decide +kernel
theorem dNt_takeExponent_88 : decode cNt_takeExponent 88 = .ok (.aload_n 0, 1) := by decide +kernel
theorem dNt_takeExponent_89 : decode cNt_takeExponent 89 = .ok (.iload_n 1, 1) := by decide +kernel
theorem dNt_takeExponent_90 : decode cNt_takeExponent 90 = .ok (.ifCond .eq 8, 3) := by decide +kernel
theorem dNt_takeExponent_93 : decode cNt_takeExponent 93 = .ok (.iload_n 3, 1) := by decide +kernel
theorem dNt_takeExponent_94 : decode cNt_takeExponent 94 = .ok (.ineg, 1) := by decide +kernel
theorem dNt_takeExponent_95 : decode cNt_takeExponent 95 = .ok (.goto 4, 3) := by decide +kernel
theorem dNt_takeExponent_98 : decode cNt_takeExponent 98 = .ok (.iload_n 3, 1) := by decide +kernel
theorem dNt_takeExponent_99 : decode cNt_takeExponent 99 = .ok (.putfield 85, 3) := by decide +kernel
theorem dNt_takeExponent_102 : decode cNt_takeExponent 102 = .ok (.aload_n 0, 1) := by decide +kernel
theorem dNt_takeExponent_103 : decode cNt_takeExponent 103 = .ok (.getfield 32, 3) := by decide +kernel
theorem dNt_takeExponent_106 : decode cNt_takeExponent 106 = .ok (.iload_n 2, 1) := by decide +kernel
theorem dNt_takeExponent_107 : decode cNt_takeExponent 107 = .ok (.if_icmp .le 7, 3) := by decide +kernel
theorem dNt_takeExponent_110 : decode cNt_takeExponent 110 = .ok (.iconst 1, 1) := by decide +kernel
theorem dNt_takeExponent_111 : decode cNt_takeExponent 111 = .ok (.goto 4, 3) := by decide +kernel
theorem dNt_takeExponent_114 : decode cNt_takeExponent 114 = .ok (.iconst 0, 1) := by decide +kernel
theorem dNt_takeExponent_115 : decode cNt_takeExponent 115 = .ok (.ireturn, 1) := by decide +kernel
theorem dNt_skipSuffix_0 : decode cNt_skipSuffix 0 = .ok (.aload_n 0, 1) := by decide +kernel
theorem dNt_skipSuffix_1 : decode cNt_skipSuffix 1 = .ok (.bipush 100, 2) := by decide +kernel
theorem dNt_skipSuffix_3 : decode cNt_skipSuffix 3 = .ok (.bipush 68, 2) := by decide +kernel
theorem dNt_skipSuffix_5 : decode cNt_skipSuffix 5 = .ok (.invokevirtual 45, 3) := by decide +kernel
theorem dNt_skipSuffix_8 : decode cNt_skipSuffix 8 = .ok (.ifCond .ne 12, 3) := by decide +kernel
theorem dNt_skipSuffix_11 : decode cNt_skipSuffix 11 = .ok (.aload_n 0, 1) := by decide +kernel
theorem dNt_skipSuffix_12 : decode cNt_skipSuffix 12 = .ok (.bipush 102, 2) := by decide +kernel
theorem dNt_skipSuffix_14 : decode cNt_skipSuffix 14 = .ok (.bipush 70, 2) := by decide +kernel
theorem dNt_skipSuffix_16 : decode cNt_skipSuffix 16 = .ok (.invokevirtual 45, 3) := by decide +kernel
theorem dNt_skipSuffix_19 : decode cNt_skipSuffix 19 = .ok (.pop, 1) := by decide +kernel
theorem dNt_skipSuffix_20 : decode cNt_skipSuffix 20 = .ok (.return_, 1) := by decide +kernel
theorem dNt_takeDecimal_0 : decode cNt_takeDecimal 0 = .ok (.aload_n 0, 1) := by decide +kernel
theorem dNt_takeDecimal_1 : decode cNt_takeDecimal 1 = .ok (.iconst 0, 1) := by decide +kernel
theorem dNt_takeDecimal_2 : decode cNt_takeDecimal 2 = .ok (.putfield 85, 3) := by decide +kernel
theorem dNt_takeDecimal_5 : decode cNt_takeDecimal 5 = .ok (.aload_n 0, 1) := by decide +kernel
theorem dNt_takeDecimal_6 : decode cNt_takeDecimal 6 = .ok (.bipush 10, 2) := by decide +kernel
theorem dNt_takeDecimal_8 : decode cNt_takeDecimal 8 = .ok (.invokevirtual 88, 3) := by decide +kernel
theorem dNt_takeDecimal_11 : decode cNt_takeDecimal 11 = .ok (.ifCond .ne 5, 3) := by decide +kernel
theorem dNt_takeDecimal_14 : decode cNt_takeDecimal 14 = .ok (.iconst 0, 1) := by decide +kernel
theorem dNt_takeDecimal_15 : decode cNt_takeDecimal 15 = .ok (.ireturn, 1) := by decide +kernel
theorem dNt_takeDecimal_16 : decode cNt_takeDecimal 16 = .ok (.aload_n 0, 1) := by decide +kernel
theorem dNt_takeDecimal_17 : decode cNt_takeDecimal 17 = .ok (.bipush 101, 2) := by decide +kernel
theorem dNt_takeDecimal_19 : decode cNt_takeDecimal 19 = .ok (.bipush 69, 2) := by decide +kernel
theorem dNt_takeDecimal_21 : decode cNt_takeDecimal 21 = .ok (.invokevirtual 45, 3) := by decide +kernel
theorem dNt_takeDecimal_24 : decode cNt_takeDecimal 24 = .ok (.ifCond .eq 12, 3) := by decide +kernel
theorem dNt_takeDecimal_27 : decode cNt_takeDecimal 27 = .ok (.aload_n 0, 1) := by decide +kernel
theorem dNt_takeDecimal_28 : decode cNt_takeDecimal 28 = .ok (.invokevirtual 92, 3) := by decide +kernel
theorem dNt_takeDecimal_31 : decode cNt_takeDecimal 31 = .ok (.ifCond .ne 5, 3) := by decide +kernel
theorem dNt_takeDecimal_34 : decode cNt_takeDecimal 34 = .ok (.iconst 0, 1) := by decide +kernel
theorem dNt_takeDecimal_35 : decode cNt_takeDecimal 35 = .ok (.ireturn, 1) := by decide +kernel
theorem dNt_takeDecimal_36 : decode cNt_takeDecimal 36 = .ok (.aload_n 0, 1) := by decide +kernel
theorem dNt_takeDecimal_37 : decode cNt_takeDecimal 37 = .ok (.invokevirtual 95, 3) := by decide +kernel
theorem dNt_takeDecimal_40 : decode cNt_takeDecimal 40 = .ok (.iconst 1, 1) := by decide +kernel
theorem dNt_takeDecimal_41 : decode cNt_takeDecimal 41 = .ok (.ireturn, 1) := by decide +kernel
theorem dNt_digitAt_0 : decode cNt_digitAt 0 = .ok (.aload_n 0, 1) := by decide +kernel
theorem dNt_digitAt_1 : decode cNt_digitAt 1 = .ok (.iload_n 1, 1) := by decide +kernel
theorem dNt_digitAt_2 : decode cNt_digitAt 2 = .ok (.invokevirtual 67, 3) := by decide +kernel
theorem dNt_digitAt_5 : decode cNt_digitAt 5 = .ok (.iload_n 2, 1) := by decide +kernel
theorem dNt_digitAt_6 : decode cNt_digitAt 6 = .ok (.invokestatic 107, 3) := by decide +kernel
theorem dNt_digitAt_9 : decode cNt_digitAt 9 = .ok (.ireturn, 1) := by decide +kernel
