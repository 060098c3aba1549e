theorem dMo_init_0 : decode cMo_init 0 = .ok (.aload_n 0, 1) := by decide +kernel
theorem dMo_init_1 : decode cMo_init 1 = .ok (.invokespecial 1, 3) := by decide +kernel
theorem dMo_init_4 : decode cMo_init 4 = .ok (.aload_n 0, 1) := by decide +kernel
theorem dMo_init_5 : decode cMo_init 5 = .ok (.sipush 4096, 3) := by decide +kernel
theorem dMo_init_8 : decode cMo_init 8 = .ok (.newarray .int, 2) := by decide +kernel
theorem dMo_init_10 : decode cMo_init 10 = .ok (.putfield 7, 3) := by decide +kernel
theorem dMo_init_13 : decode cMo_init 13 = .ok (.aload_n 0, 1) := by decide +kernel
theorem dMo_init_14 : decode cMo_init 14 = .ok (.sipush 4096, 3) := by decide +kernel
theorem dMo_init_17 : decode cMo_init 17 = .ok (.newarray .int, 2) := by decide +kernel
theorem dMo_init_19 : decode cMo_init 19 = .ok (.putfield 13, 3) := by decide +kernel
theorem dMo_init_22 : decode cMo_init 22 = .ok (.aload_n 0, 1) := by decide +kernel
theorem dMo_init_23 : decode cMo_init 23 = .ok (.sipush 800, 3) := by decide +kernel
theorem dMo_init_26 : decode cMo_init 26 = .ok (.newarray .int, 2) := by decide +kernel
theorem dMo_init_28 : decode cMo_init 28 = .ok (.putfield 16, 3) := by decide +kernel
theorem dMo_init_31 : decode cMo_init 31 = .ok (.return_, 1) := by decide +kernel
theorem dMo_thrown_0 : decode cMo_thrown 0 = .ok (.aload_n 0, 1) := by decide +kernel
theorem dMo_thrown_1 : decode cMo_thrown 1 = .ok (.getfield 19, 3) := by decide +kernel
theorem dMo_thrown_4 : decode cMo_thrown 4 = .ok (.ireturn, 1) := by decide +kernel
theorem dMo_write_0 : decode cMo_write 0 = .ok (.aload_n 0, 1) := by decide +kernel
theorem dMo_write_1 : decode cMo_write 1 = .ok (.iconst 0, 1) := by decide +kernel
theorem dMo_write_2 : decode cMo_write 2 = .ok (.putfield 19, 3) := by decide +kernel
theorem dMo_write_5 : decode cMo_write 5 = .ok (.iconst 0, 1) := by decide +kernel
theorem dMo_write_6 : decode cMo_write 6 = .ok (.istore_n 3, 1) := by decide +kernel
theorem dMo_write_7 : decode cMo_write 7 = .ok (.iconst 0, 1) := by decide +kernel
theorem dMo_write_8 : decode cMo_write 8 = .ok (.istore 4, 2) := by decide +kernel
theorem dMo_write_10 : decode cMo_write 10 = .ok (.iload 4, 2) := by decide +kernel
theorem dMo_write_12 : decode cMo_write 12 = .ok (.bipush 64, 2) := by decide +kernel
theorem dMo_write_14 : decode cMo_write 14 = .ok (.if_icmp .ge 30, 3) := by decide +kernel
theorem dMo_write_17 : decode cMo_write 17 = .ok (.lload_n 1, 1) := by decide +kernel
theorem dMo_write_18 : decode cMo_write 18 = .ok (.iload 4, 2) := by decide +kernel
theorem dMo_write_20 : decode cMo_write 20 = .ok (.lshr, 1) := by decide +kernel
theorem dMo_write_21 : decode cMo_write 21 = .ok (.ldc2_w 23, 3) := by decide +kernel
theorem dMo_write_24 : decode cMo_write 24 = .ok (.land, 1) := by decide +kernel
theorem dMo_write_25 : decode cMo_write 25 = .ok (.lconst 0, 1) := by decide +kernel
theorem dMo_write_26 : decode cMo_write 26 = .ok (.lcmp, 1) := by decide +kernel
theorem dMo_write_27 : decode cMo_write 27 = .ok (.ifCond .eq 9, 3) := by decide +kernel
theorem dMo_write_30 : decode cMo_write 30 = .ok (.iload_n 3, 1) := by decide +kernel
theorem dMo_write_31 : decode cMo_write 31 = .ok (.iconst 1, 1) := by decide +kernel
theorem dMo_write_32 : decode cMo_write 32 = .ok (.iadd, 1) := by decide +kernel
theorem dMo_write_33 : decode cMo_write 33 = .ok (.goto 4, 3) := by decide +kernel
theorem dMo_write_36 : decode cMo_write 36 = .ok (.iload_n 3, 1) := by decide +kernel
theorem dMo_write_37 : decode cMo_write 37 = .ok (.istore_n 3, 1) := by decide +kernel
theorem dMo_write_38 : decode cMo_write 38 = .ok (.iinc 4 8, 3) := by decide +kernel
theorem dMo_write_41 : decode cMo_write 41 = .ok (.goto (-31), 3) := by decide +kernel
theorem dMo_write_44 : decode cMo_write 44 = .ok (.aload_n 0, 1) := by decide +kernel
theorem dMo_write_45 : decode cMo_write 45 = .ok (.getfield 25, 3) := by decide +kernel
theorem dMo_write_48 : decode cMo_write 48 = .ok (.iload_n 3, 1) := by decide +kernel
theorem dMo_write_49 : decode cMo_write 49 = .ok (.iadd, 1) := by decide +kernel
theorem dMo_write_50 : decode cMo_write 50 = .ok (.sipush 4096, 3) := by decide +kernel
theorem dMo_write_53 : decode cMo_write 53 = .ok (.if_icmp .le 5, 3) := by decide +kernel
theorem dMo_write_56 : decode cMo_write 56 = .ok (.iconst (-1), 1) := by decide +kernel
theorem dMo_write_57 : decode cMo_write 57 = .ok (.ireturn, 1) := by decide +kernel
theorem dMo_write_58 : decode cMo_write 58 = .ok (.iconst 0, 1) := by decide +kernel
theorem dMo_write_59 : decode cMo_write 59 = .ok (.istore 4, 2) := by decide +kernel
theorem dMo_write_61 : decode cMo_write 61 = .ok (.iload 4, 2) := by decide +kernel
theorem dMo_write_63 : decode cMo_write 63 = .ok (.bipush 64, 2) := by decide +kernel
theorem dMo_write_65 : decode cMo_write 65 = .ok (.if_icmp .ge 46, 3) := by decide +kernel
theorem dMo_write_68 : decode cMo_write 68 = .ok (.lload_n 1, 1) := by decide +kernel
theorem dMo_write_69 : decode cMo_write 69 = .ok (.iload 4, 2) := by decide +kernel
theorem dMo_write_71 : decode cMo_write 71 = .ok (.lshr, 1) := by decide +kernel
theorem dMo_write_72 : decode cMo_write 72 = .ok (.ldc2_w 23, 3) := by decide +kernel
theorem dMo_write_75 : decode cMo_write 75 = .ok (.land, 1) := by decide +kernel
theorem dMo_write_76 : decode cMo_write 76 = .ok (.l2i, 1) := by decide +kernel
theorem dMo_write_77 : decode cMo_write 77 = .ok (.istore 5, 2) := by decide +kernel
theorem dMo_write_79 : decode cMo_write 79 = .ok (.iload 5, 2) := by decide +kernel
theorem dMo_write_81 : decode cMo_write 81 = .ok (.ifCond .eq 24, 3) := by decide +kernel
theorem dMo_write_84 : decode cMo_write 84 = .ok (.aload_n 0, 1) := by decide +kernel
theorem dMo_write_85 : decode cMo_write 85 = .ok (.getfield 7, 3) := by decide +kernel
theorem dMo_write_88 : decode cMo_write 88 = .ok (.aload_n 0, 1) := by decide +kernel
theorem dMo_write_89 : decode cMo_write 89 = .ok (.getfield 25, 3) := by decide +kernel
theorem dMo_write_92 : decode cMo_write 92 = .ok (.iload 5, 2) := by decide +kernel
theorem dMo_write_94 : decode cMo_write 94 = .ok (.iastore, 1) := by decide +kernel
theorem dMo_write_95 : decode cMo_write 95 = .ok (.aload_n 0, 1) := by decide +kernel
theorem dMo_write_96 : decode cMo_write 96 = .ok (.dup, 1) := by decide +kernel
theorem dMo_write_97 : decode cMo_write 97 = .ok (.getfield 25, 3) := by decide +kernel
theorem dMo_write_100 : decode cMo_write 100 = .ok (.iconst 1, 1) := by decide +kernel
theorem dMo_write_101 : decode cMo_write 101 = .ok (.iadd, 1) := by decide +kernel
theorem dMo_write_102 : decode cMo_write 102 = .ok (.putfield 25, 3) := by decide +kernel
theorem dMo_write_105 : decode cMo_write 105 = .ok (.iinc 4 8, 3) := by decide +kernel
theorem dMo_write_108 : decode cMo_write 108 = .ok (.goto (-47), 3) := by decide +kernel
theorem dMo_write_111 : decode cMo_write 111 = .ok (.aload_n 0, 1) := by decide +kernel
theorem dMo_write_112 : decode cMo_write 112 = .ok (.getfield 25, 3) := by decide +kernel
theorem dMo_write_115 : decode cMo_write 115 = .ok (.ireturn, 1) := by decide +kernel
theorem dMo_repeat_0 : decode cMo_repeat 0 = .ok (.aload_n 0, 1) := by decide +kernel
theorem dMo_repeat_1 : decode cMo_repeat 1 = .ok (.iload_n 1, 1) := by decide +kernel
theorem dMo_repeat_2 : decode cMo_repeat 2 = .ok (.iconst 1, 1) := by decide +kernel
theorem dMo_repeat_3 : decode cMo_repeat 3 = .ok (.if_icmp .lt 14, 3) := by decide +kernel
theorem dMo_repeat_6 : decode cMo_repeat 6 = .ok (.iload_n 1, 1) := by decide +kernel
theorem dMo_repeat_7 : decode cMo_repeat 7 = .ok (.sipush 255, 3) := by decide +kernel
theorem dMo_repeat_10 : decode cMo_repeat 10 = .ok (.if_icmp .gt 7, 3) := by decide +kernel
theorem dMo_repeat_13 : decode cMo_repeat 13 = .ok (.iload_n 2, 1) := by decide +kernel
theorem dMo_repeat_14 : decode cMo_repeat 14 = .ok (.ifCond .ge 7, 3) := by decide +kernel
theorem dMo_repeat_17 : decode cMo_repeat 17 = .ok (.iconst 1, 1) := by decide +kernel
theorem dMo_repeat_18 : decode cMo_repeat 18 = .ok (.goto 4, 3) := by decide +kernel
theorem dMo_repeat_21 : decode cMo_repeat 21 = .ok (.iconst 0, 1) := by decide +kernel
theorem dMo_repeat_22 : decode cMo_repeat 22 = .ok (.putfield 19, 3) := by decide +kernel
theorem dMo_repeat_25 : decode cMo_repeat 25 = .ok (.aload_n 0, 1) := by decide +kernel
theorem dMo_repeat_26 : decode cMo_repeat 26 = .ok (.getfield 19, 3) := by decide +kernel
theorem dMo_repeat_29 : decode cMo_repeat 29 = .ok (.ifCond .le 5, 3) := by decide +kernel
theorem dMo_repeat_32 : decode cMo_repeat 32 = .ok (.iconst 0, 1) := by decide +kernel
theorem dMo_repeat_33 : decode cMo_repeat 33 = .ok (.ireturn, 1) := by decide +kernel
theorem dMo_repeat_34 : decode cMo_repeat 34 = .ok (.iload_n 2, 1) := by decide +kernel
theorem dMo_repeat_35 : decode cMo_repeat 35 = .ok (.sipush 4096, 3) := by decide +kernel
theorem dMo_repeat_38 : decode cMo_repeat 38 = .ok (.aload_n 0, 1) := by decide +kernel
theorem dMo_repeat_39 : decode cMo_repeat 39 = .ok (.getfield 25, 3) := by decide +kernel
theorem dMo_repeat_42 : decode cMo_repeat 42 = .ok (.isub, 1) := by decide +kernel
theorem dMo_repeat_43 : decode cMo_repeat 43 = .ok (.if_icmp .le 5, 3) := by decide +kernel
theorem dMo_repeat_46 : decode cMo_repeat 46 = .ok (.iconst (-1), 1) := by decide +kernel
theorem dMo_repeat_47 : decode cMo_repeat 47 = .ok (.ireturn, 1) := by decide +kernel
theorem dMo_repeat_48 : decode cMo_repeat 48 = .ok (.iconst 0, 1) := by decide +kernel
theorem dMo_repeat_49 : decode cMo_repeat 49 = .ok (.istore_n 3, 1) := by decide +kernel
theorem dMo_repeat_50 : decode cMo_repeat 50 = .ok (.iload_n 3, 1) := by decide +kernel
theorem dMo_repeat_51 : decode cMo_repeat 51 = .ok (.iload_n 2, 1) := by decide +kernel
theorem dMo_repeat_52 : decode cMo_repeat 52 = .ok (.if_icmp .ge 29, 3) := by decide +kernel
theorem dMo_repeat_55 : decode cMo_repeat 55 = .ok (.aload_n 0, 1) := by decide +kernel
theorem dMo_repeat_56 : decode cMo_repeat 56 = .ok (.getfield 7, 3) := by decide +kernel
theorem dMo_repeat_59 : decode cMo_repeat 59 = .ok (.aload_n 0, 1) := by decide +kernel
theorem dMo_repeat_60 : decode cMo_repeat 60 = .ok (.getfield 25, 3) := by decide +kernel
theorem dMo_repeat_63 : decode cMo_repeat 63 = .ok (.iload_n 1, 1) := by decide +kernel
theorem dMo_repeat_64 : decode cMo_repeat 64 = .ok (.iastore, 1) := by decide +kernel
theorem dMo_repeat_65 : decode cMo_repeat 65 = .ok (.aload_n 0, 1) := by decide +kernel
theorem dMo_repeat_66 : decode cMo_repeat 66 = .ok (.dup, 1) := by decide +kernel
theorem dMo_repeat_67 : decode cMo_repeat 67 = .ok (.getfield 25, 3) := by decide +kernel
theorem dMo_repeat_70 : decode cMo_repeat 70 = .ok (.iconst 1, 1) := by decide +kernel
theorem dMo_repeat_71 : decode cMo_repeat 71 = .ok (.iadd, 1) := by decide +kernel
theorem dMo_repeat_72 : decode cMo_repeat 72 = .ok (.putfield 25, 3) := by decide +kernel
theorem dMo_repeat_75 : decode cMo_repeat 75 = .ok (.iinc 3 1, 3) := by decide +kernel
theorem dMo_repeat_78 : decode cMo_repeat 78 = .ok (.goto (-28), 3) := by decide +kernel
theorem dMo_repeat_81 : decode cMo_repeat 81 = .ok (.aload_n 0, 1) := by decide +kernel
theorem dMo_repeat_82 : decode cMo_repeat 82 = .ok (.getfield 25, 3) := by decide +kernel
theorem dMo_repeat_85 : decode cMo_repeat 85 = .ok (.ireturn, 1) := by decide +kernel
theorem dMo_cut_0 : decode cMo_cut 0 = .ok (.aload_n 0, 1) := by decide +kernel
theorem dMo_cut_1 : decode cMo_cut 1 = .ok (.iload_n 1, 1) := by decide +kernel
theorem dMo_cut_2 : decode cMo_cut 2 = .ok (.ifCond .ge 7, 3) := by decide +kernel
theorem dMo_cut_5 : decode cMo_cut 5 = .ok (.iconst 1, 1) := by decide +kernel
theorem dMo_cut_6 : decode cMo_cut 6 = .ok (.goto 4, 3) := by decide +kernel
theorem dMo_cut_9 : decode cMo_cut 9 = .ok (.iconst 0, 1) := by decide +kernel
theorem dMo_cut_10 : decode cMo_cut 10 = .ok (.putfield 19, 3) := by decide +kernel
theorem dMo_cut_13 : decode cMo_cut 13 = .ok (.aload_n 0, 1) := by decide +kernel
theorem dMo_cut_14 : decode cMo_cut 14 = .ok (.getfield 19, 3) := by decide +kernel
theorem dMo_cut_17 : decode cMo_cut 17 = .ok (.ifCond .le 5, 3) := by decide +kernel
theorem dMo_cut_20 : decode cMo_cut 20 = .ok (.iconst 0, 1) := by decide +kernel
theorem dMo_cut_21 : decode cMo_cut 21 = .ok (.ireturn, 1) := by decide +kernel
theorem dMo_cut_22 : decode cMo_cut 22 = .ok (.aload_n 0, 1) := by decide +kernel
theorem dMo_cut_23 : decode cMo_cut 23 = .ok (.iload_n 1, 1) := by decide +kernel
theorem dMo_cut_24 : decode cMo_cut 24 = .ok (.aload_n 0, 1) := by decide +kernel
theorem dMo_cut_25 : decode cMo_cut 25 = .ok (.getfield 25, 3) := by decide +kernel
theorem dMo_cut_28 : decode cMo_cut 28 = .ok (.if_icmp .le 7, 3) := by decide +kernel
theorem dMo_cut_31 : decode cMo_cut 31 = .ok (.iconst 0, 1) := by decide +kernel
theorem dMo_cut_32 : decode cMo_cut 32 = .ok (.goto 9, 3) := by decide +kernel
theorem dMo_cut_35 : decode cMo_cut 35 = .ok (.aload_n 0, 1) := by decide +kernel
theorem dMo_cut_36 : decode cMo_cut 36 = .ok (.getfield 25, 3) := by decide +kernel
theorem dMo_cut_39 : decode cMo_cut 39 = .ok (.iload_n 1, 1) := by decide +kernel
theorem dMo_cut_40 : decode cMo_cut 40 = .ok (.isub, 1) := by decide +kernel
theorem dMo_cut_41 : decode cMo_cut 41 = .ok (.putfield 25, 3) := by decide +kernel
theorem dMo_cut_44 : decode cMo_cut 44 = .ok (.aload_n 0, 1) := by decide +kernel
theorem dMo_cut_45 : decode cMo_cut 45 = .ok (.getfield 25, 3) := by decide +kernel
theorem dMo_cut_48 : decode cMo_cut 48 = .ok (.ireturn, 1) := by decide +kernel
theorem dMo_wipe_0 : decode cMo_wipe 0 = .ok (.aload_n 0, 1) := by decide +kernel
theorem dMo_wipe_1 : decode cMo_wipe 1 = .ok (.iconst 0, 1) := by decide +kernel
theorem dMo_wipe_2 : decode cMo_wipe 2 = .ok (.putfield 19, 3) := by decide +kernel
theorem dMo_wipe_5 : decode cMo_wipe 5 = .ok (.aload_n 0, 1) := by decide +kernel
theorem dMo_wipe_6 : decode cMo_wipe 6 = .ok (.getfield 25, 3) := by decide +kernel
theorem dMo_wipe_9 : decode cMo_wipe 9 = .ok (.istore_n 1, 1) := by decide +kernel
theorem dMo_wipe_10 : decode cMo_wipe 10 = .ok (.aload_n 0, 1) := by decide +kernel
theorem dMo_wipe_11 : decode cMo_wipe 11 = .ok (.iconst 0, 1) := by decide +kernel
theorem dMo_wipe_12 : decode cMo_wipe 12 = .ok (.putfield 25, 3) := by decide +kernel
theorem dMo_wipe_15 : decode cMo_wipe 15 = .ok (.iload_n 1, 1) := by decide +kernel
theorem dMo_wipe_16 : decode cMo_wipe 16 = .ok (.ireturn, 1) := by decide +kernel
theorem dMo_kind_0 : decode cMo_kind 0 = .ok (.aload_n 0, 1) := by decide +kernel
theorem dMo_kind_1 : decode cMo_kind 1 = .ok (.iconst 0, 1) := by decide +kernel
theorem dMo_kind_2 : decode cMo_kind 2 = .ok (.putfield 19, 3) := by decide +kernel
theorem dMo_kind_5 : decode cMo_kind 5 = .ok (.aload_n 0, 1) := by decide +kernel
theorem dMo_kind_6 : decode cMo_kind 6 = .ok (.invokevirtual 92, 3) := by decide +kernel
theorem dMo_kind_9 : decode cMo_kind 9 = .ok (.ifCond .eq 10, 3) := by decide +kernel
theorem dMo_kind_12 : decode cMo_kind 12 = .ok (.aload_n 0, 1) := by decide +kernel
theorem dMo_kind_13 : decode cMo_kind 13 = .ok (.getfield 59, 3) := by decide +kernel
theorem dMo_kind_16 : decode cMo_kind 16 = .ok (.goto 4, 3) := by decide +kernel
theorem dMo_kind_19 : decode cMo_kind 19 = .ok (.iconst (-1), 1) := by decide +kernel
theorem dMo_kind_20 : decode cMo_kind 20 = .ok (.ireturn, 1) := by decide +kernel
theorem dMo_scan_0 : decode cMo_scan 0 = .ok (.aload_n 0, 1) := by decide +kernel
theorem dMo_scan_1 : decode cMo_scan 1 = .ok (.iconst 0, 1) := by decide +kernel
theorem dMo_scan_2 : decode cMo_scan 2 = .ok (.putfield 28, 3) := by decide +kernel
theorem dMo_scan_5 : decode cMo_scan 5 = .ok (.aload_n 0, 1) := by decide +kernel
theorem dMo_scan_6 : decode cMo_scan 6 = .ok (.invokevirtual 74, 3) := by decide +kernel
theorem dMo_scan_9 : decode cMo_scan 9 = .ok (.aload_n 0, 1) := by decide +kernel
theorem dMo_scan_10 : decode cMo_scan 10 = .ok (.aload_n 0, 1) := by decide +kernel
theorem dMo_scan_11 : decode cMo_scan 11 = .ok (.invokevirtual 35, 3) := by decide +kernel
theorem dMo_scan_14 : decode cMo_scan 14 = .ok (.bipush 45, 2) := by decide +kernel
theorem dMo_scan_16 : decode cMo_scan 16 = .ok (.if_icmp .ne 7, 3) := by decide +kernel
theorem dMo_scan_19 : decode cMo_scan 19 = .ok (.iconst 1, 1) := by decide +kernel
theorem dMo_scan_20 : decode cMo_scan 20 = .ok (.goto 4, 3) := by decide +kernel
theorem dMo_scan_23 : decode cMo_scan 23 = .ok (.iconst 0, 1) := by decide +kernel
theorem dMo_scan_24 : decode cMo_scan 24 = .ok (.putfield 77, 3) := by decide +kernel
theorem dMo_scan_27 : decode cMo_scan 27 = .ok (.aload_n 0, 1) := by decide +kernel
theorem dMo_scan_28 : decode cMo_scan 28 = .ok (.getfield 77, 3) := by decide +kernel
theorem dMo_scan_31 : decode cMo_scan 31 = .ok (.ifCond .ne 12, 3) := by decide +kernel
theorem dMo_scan_34 : decode cMo_scan 34 = .ok (.aload_n 0, 1) := by decide +kernel
theorem dMo_scan_35 : decode cMo_scan 35 = .ok (.invokevirtual 35, 3) := by decide +kernel
theorem dMo_scan_38 : decode cMo_scan 38 = .ok (.bipush 43, 2) := by decide +kernel
theorem dMo_scan_40 : decode cMo_scan 40 = .ok (.if_icmp .ne 13, 3) := by decide +kernel
theorem dMo_scan_43 : decode cMo_scan 43 = .ok (.aload_n 0, 1) := by decide +kernel
theorem dMo_scan_44 : decode cMo_scan 44 = .ok (.dup, 1) := by decide +kernel
theorem dMo_scan_45 : decode cMo_scan 45 = .ok (.getfield 28, 3) := by decide +kernel
theorem dMo_scan_48 : decode cMo_scan 48 = .ok (.iconst 1, 1) := by decide +kernel
theorem dMo_scan_49 : decode cMo_scan 49 = .ok (.iadd, 1) := by decide +kernel
theorem dMo_scan_50 : decode cMo_scan 50 = .ok (.putfield 28, 3) := by decide +kernel
theorem dMo_scan_53 : decode cMo_scan 53 = .ok (.aload_n 0, 1) := by decide +kernel
theorem dMo_scan_54 : decode cMo_scan 54 = .ok (.invokevirtual 35, 3) := by decide +kernel
theorem dMo_scan_57 : decode cMo_scan 57 = .ok (.bipush 78, 2) := by decide +kernel
theorem dMo_scan_59 : decode cMo_scan 59 = .ok (.if_icmp .ne 19, 3) := by decide +kernel
theorem dMo_scan_62 : decode cMo_scan 62 = .ok (.aload_n 0, 1) := by decide +kernel
theorem dMo_scan_63 : decode cMo_scan 63 = .ok (.iconst 3, 1) := by decide +kernel
theorem dMo_scan_64 : decode cMo_scan 64 = .ok (.putfield 59, 3) := by decide +kernel
theorem dMo_scan_67 : decode cMo_scan 67 = .ok (.aload_n 0, 1) := by decide +kernel
theorem dMo_scan_68 : decode cMo_scan 68 = .ok (.ldc2_w 81, 3) := by decide +kernel
theorem dMo_scan_71 : decode cMo_scan 71 = .ok (.invokevirtual 83, 3) := by decide +kernel
theorem dMo_scan_74 : decode cMo_scan 74 = .ok (.istore_n 1, 1) := by decide +kernel
theorem dMo_scan_75 : decode cMo_scan 75 = .ok (.goto 33, 3) := by decide +kernel
theorem dMo_scan_78 : decode cMo_scan 78 = .ok (.aload_n 0, 1) := by decide +kernel
theorem dMo_scan_79 : decode cMo_scan 79 = .ok (.invokevirtual 35, 3) := by decide +kernel
theorem dMo_scan_82 : decode cMo_scan 82 = .ok (.bipush 73, 2) := by decide +kernel
theorem dMo_scan_84 : decode cMo_scan 84 = .ok (.if_icmp .ne 19, 3) := by decide +kernel
theorem dMo_scan_87 : decode cMo_scan 87 = .ok (.aload_n 0, 1) := by decide +kernel
theorem dMo_scan_88 : decode cMo_scan 88 = .ok (.iconst 2, 1) := by decide +kernel
theorem dMo_scan_89 : decode cMo_scan 89 = .ok (.putfield 59, 3) := by decide +kernel
theorem dMo_scan_92 : decode cMo_scan 92 = .ok (.aload_n 0, 1) := by decide +kernel
theorem dMo_scan_93 : decode cMo_scan 93 = .ok (.ldc2_w 87, 3) := by decide +kernel
theorem dMo_scan_96 : decode cMo_scan 96 = .ok (.invokevirtual 83, 3) := by decide +kernel
theorem dMo_scan_99 : decode cMo_scan 99 = .ok (.istore_n 1, 1) := by decide +kernel
theorem dMo_scan_100 : decode cMo_scan 100 = .ok (.goto 8, 3) := by decide +kernel
theorem dMo_scan_103 : decode cMo_scan 103 = .ok (.aload_n 0, 1) := by decide +kernel
theorem dMo_scan_104 : decode cMo_scan 104 = .ok (.invokevirtual 89, 3) := by decide +kernel
theorem dMo_scan_107 : decode cMo_scan 107 = .ok (.istore_n 1, 1) := by decide +kernel
theorem dMo_scan_108 : decode cMo_scan 108 = .ok (.iload_n 1, 1) := by decide +kernel
theorem dMo_scan_109 : decode cMo_scan 109 = .ok (.ifCond .eq 7, 3) := by decide +kernel
theorem dMo_scan_112 : decode cMo_scan 112 = .ok (.aload_n 0, 1) := by decide +kernel
theorem dMo_scan_113 : decode cMo_scan 113 = .ok (.invokevirtual 74, 3) := by decide +kernel
theorem dMo_scan_116 : decode cMo_scan 116 = .ok (.iload_n 1, 1) := by decide +kernel
theorem dMo_scan_117 : decode cMo_scan 117 = .ok (.ifCond .eq 18, 3) := by decide +kernel
theorem dMo_scan_120 : decode cMo_scan 120 = .ok (.aload_n 0, 1) := by decide +kernel
theorem dMo_scan_121 : decode cMo_scan 121 = .ok (.getfield 28, 3) := by decide +kernel
theorem dMo_scan_124 : decode cMo_scan 124 = .ok (.aload_n 0, 1) := by decide +kernel
theorem dMo_scan_125 : decode cMo_scan 125 = .ok (.getfield 25, 3) := by decide +kernel
theorem dMo_scan_128 : decode cMo_scan 128 = .ok (.if_icmp .ne 7, 3) := by decide +kernel
theorem dMo_scan_131 : decode cMo_scan 131 = .ok (.iconst 1, 1) := by decide +kernel
theorem dMo_scan_132 : decode cMo_scan 132 = .ok (.goto 4, 3) := by decide +kernel
theorem dMo_scan_135 : decode cMo_scan 135 = .ok (.iconst 0, 1) := by decide +kernel
theorem dMo_scan_136 : decode cMo_scan 136 = .ok (.ireturn, 1) := by decide +kernel
theorem dMo_blanks_0 : decode cMo_blanks 0 = .ok (.aload_n 0, 1) := by decide +kernel
theorem dMo_blanks_1 : decode cMo_blanks 1 = .ok (.getfield 28, 3) := by decide +kernel
theorem dMo_blanks_4 : decode cMo_blanks 4 = .ok (.aload_n 0, 1) := by decide +kernel
theorem dMo_blanks_5 : decode cMo_blanks 5 = .ok (.getfield 25, 3) := by decide +kernel
theorem dMo_blanks_8 : decode cMo_blanks 8 = .ok (.if_icmp .ge 30, 3) := by decide +kernel
theorem dMo_blanks_11 : decode cMo_blanks 11 = .ok (.aload_n 0, 1) := by decide +kernel
theorem dMo_blanks_12 : decode cMo_blanks 12 = .ok (.getfield 7, 3) := by decide +kernel
theorem dMo_blanks_15 : decode cMo_blanks 15 = .ok (.aload_n 0, 1) := by decide +kernel
theorem dMo_blanks_16 : decode cMo_blanks 16 = .ok (.getfield 28, 3) := by decide +kernel
theorem dMo_blanks_19 : decode cMo_blanks 19 = .ok (.iaload, 1) := by decide +kernel
theorem dMo_blanks_20 : decode cMo_blanks 20 = .ok (.bipush 32, 2) := by decide +kernel
theorem dMo_blanks_22 : decode cMo_blanks 22 = .ok (.if_icmp .gt 16, 3) := by decide +kernel
theorem dMo_blanks_25 : decode cMo_blanks 25 = .ok (.aload_n 0, 1) := by decide +kernel
theorem dMo_blanks_26 : decode cMo_blanks 26 = .ok (.dup, 1) := by decide +kernel
theorem dMo_blanks_27 : decode cMo_blanks 27 = .ok (.getfield 28, 3) := by decide +kernel
theorem dMo_blanks_30 : decode cMo_blanks 30 = .ok (.iconst 1, 1) := by decide +kernel
theorem dMo_blanks_31 : decode cMo_blanks 31 = .ok (.iadd, 1) := by decide +kernel
theorem dMo_blanks_32 : decode cMo_blanks 32 = .ok (.putfield 28, 3) := by decide +kernel
theorem dMo_blanks_35 : decode cMo_blanks 35 = .ok (.goto (-35), 3) := by decide +kernel
theorem dMo_blanks_38 : decode cMo_blanks 38 = .ok (.return_, 1) := by decide +kernel
theorem dMo_here_0 : decode cMo_here 0 = .ok (.aload_n 0, 1) := by decide +kernel
theorem dMo_here_1 : decode cMo_here 1 = .ok (.getfield 28, 3) := by decide +kernel
theorem dMo_here_4 : decode cMo_here 4 = .ok (.aload_n 0, 1) := by decide +kernel
theorem dMo_here_5 : decode cMo_here 5 = .ok (.getfield 25, 3) := by decide +kernel
theorem dMo_here_8 : decode cMo_here 8 = .ok (.if_icmp .ge 15, 3) := by decide +kernel
theorem dMo_here_11 : decode cMo_here 11 = .ok (.aload_n 0, 1) := by decide +kernel
theorem dMo_here_12 : decode cMo_here 12 = .ok (.getfield 7, 3) := by decide +kernel
theorem dMo_here_15 : decode cMo_here 15 = .ok (.aload_n 0, 1) := by decide +kernel
theorem dMo_here_16 : decode cMo_here 16 = .ok (.getfield 28, 3) := by decide +kernel
theorem dMo_here_19 : decode cMo_here 19 = .ok (.iaload, 1) := by decide +kernel
theorem dMo_here_20 : decode cMo_here 20 = .ok (.goto 4, 3) := by decide +kernel
theorem dMo_here_23 : decode cMo_here 23 = .ok (.iconst 0, 1) := by decide +kernel
theorem dMo_here_24 : decode cMo_here 24 = .ok (.ireturn, 1) := by decide +kernel
theorem dMo_spells_0 : decode cMo_spells 0 = .ok (.lload_n 1, 1) := by decide +kernel
theorem dMo_spells_1 : decode cMo_spells 1 = .ok (.lstore_n 3, 1) := by decide +kernel
theorem dMo_spells_2 : decode cMo_spells 2 = .ok (.lload_n 3, 1) := by decide +kernel
theorem dMo_spells_3 : decode cMo_spells 3 = .ok (.lconst 0, 1) := by decide +kernel
theorem dMo_spells_4 : decode cMo_spells 4 = .ok (.lcmp, 1) := by decide +kernel
theorem dMo_spells_5 : decode cMo_spells 5 = .ok (.ifCond .eq 37, 3) := by decide +kernel
theorem dMo_spells_8 : decode cMo_spells 8 = .ok (.aload_n 0, 1) := by decide +kernel
theorem dMo_spells_9 : decode cMo_spells 9 = .ok (.invokevirtual 35, 3) := by decide +kernel
theorem dMo_spells_12 : decode cMo_spells 12 = .ok (.i2l, 1) := by decide +kernel
theorem dMo_spells_13 : decode cMo_spells 13 = .ok (.lload_n 3, 1) := by decide +kernel
theorem dMo_spells_14 : decode cMo_spells 14 = .ok (.ldc2_w 23, 3) := by decide +kernel
theorem dMo_spells_17 : decode cMo_spells 17 = .ok (.land, 1) := by decide +kernel
theorem dMo_spells_18 : decode cMo_spells 18 = .ok (.lcmp, 1) := by decide +kernel
theorem dMo_spells_19 : decode cMo_spells 19 = .ok (.ifCond .eq 5, 3) := by decide +kernel
theorem dMo_spells_22 : decode cMo_spells 22 = .ok (.iconst 0, 1) := by decide +kernel
theorem dMo_spells_23 : decode cMo_spells 23 = .ok (.ireturn, 1) := by decide +kernel
theorem dMo_spells_24 : decode cMo_spells 24 = .ok (.aload_n 0, 1) := by decide +kernel
theorem dMo_spells_25 : decode cMo_spells 25 = .ok (.dup, 1) := by decide +kernel
theorem dMo_spells_26 : decode cMo_spells 26 = .ok (.getfield 28, 3) := by decide +kernel
theorem dMo_spells_29 : decode cMo_spells 29 = .ok (.iconst 1, 1) := by decide +kernel
theorem dMo_spells_30 : decode cMo_spells 30 = .ok (.iadd, 1) := by decide +kernel
theorem dMo_spells_31 : decode cMo_spells 31 = .ok (.putfield 28, 3) := by decide +kernel
theorem dMo_spells_34 : decode cMo_spells 34 = .ok (.lload_n 3, 1) := by decide +kernel
theorem dMo_spells_35 : decode cMo_spells 35 = .ok (.bipush 8, 2) := by decide +kernel
theorem dMo_spells_37 : decode cMo_spells 37 = .ok (.lshr, 1) := by decide +kernel
theorem dMo_spells_38 : decode cMo_spells 38 = .ok (.lstore_n 3, 1) := by decide +kernel
theorem dMo_spells_39 : decode cMo_spells 39 = .ok (.goto (-37), 3) := by decide +kernel
theorem dMo_spells_42 : decode cMo_spells 42 = .ok (.iconst 1, 1) := by decide +kernel
theorem dMo_spells_43 : decode cMo_spells 43 = .ok (.ireturn, 1) := by decide +kernel
theorem dMo_number_0 : decode cMo_number 0 = .ok (.aload_n 0, 1) := by decide +kernel
theorem dMo_number_1 : decode cMo_number 1 = .ok (.lconst 0, 1) := by decide +kernel
theorem dMo_number_2 : decode cMo_number 2 = .ok (.putfield 49, 3) := by decide +kernel
theorem dMo_number_5 : decode cMo_number 5 = .ok (.aload_n 0, 1) := by decide +kernel
theorem dMo_number_6 : decode cMo_number 6 = .ok (.invokevirtual 35, 3) := by decide +kernel
theorem dMo_number_9 : decode cMo_number 9 = .ok (.bipush 48, 2) := by decide +kernel
theorem dMo_number_11 : decode cMo_number 11 = .ok (.if_icmp .ne 103, 3) := by decide +kernel
theorem dMo_number_14 : decode cMo_number 14 = .ok (.aload_n 0, 1) := by decide +kernel
theorem dMo_number_15 : decode cMo_number 15 = .ok (.getfield 28, 3) := by decide +kernel
theorem dMo_number_18 : decode cMo_number 18 = .ok (.iconst 1, 1) := by decide +kernel
theorem dMo_number_19 : decode cMo_number 19 = .ok (.iadd, 1) := by decide +kernel
theorem dMo_number_20 : decode cMo_number 20 = .ok (.aload_n 0, 1) := by decide +kernel
theorem dMo_number_21 : decode cMo_number 21 = .ok (.getfield 25, 3) := by decide +kernel
theorem dMo_number_24 : decode cMo_number 24 = .ok (.if_icmp .ge 90, 3) := by decide +kernel
theorem dMo_number_27 : decode cMo_number 27 = .ok (.aload_n 0, 1) := by decide +kernel
theorem dMo_number_28 : decode cMo_number 28 = .ok (.getfield 7, 3) := by decide +kernel
theorem dMo_number_31 : decode cMo_number 31 = .ok (.aload_n 0, 1) := by decide +kernel
theorem dMo_number_32 : decode cMo_number 32 = .ok (.getfield 28, 3) := by decide +kernel
theorem dMo_number_35 : decode cMo_number 35 = .ok (.iconst 1, 1) := by decide +kernel
theorem dMo_number_36 : decode cMo_number 36 = .ok (.iadd, 1) := by decide +kernel
theorem dMo_number_37 : decode cMo_number 37 = .ok (.iaload, 1) := by decide +kernel
theorem dMo_number_38 : decode cMo_number 38 = .ok (.bipush 120, 2) := by decide +kernel
theorem dMo_number_40 : decode cMo_number 40 = .ok (.if_icmp .eq 19, 3) := by decide +kernel
theorem dMo_number_43 : decode cMo_number 43 = .ok (.aload_n 0, 1) := by decide +kernel
theorem dMo_number_44 : decode cMo_number 44 = .ok (.getfield 7, 3) := by decide +kernel
theorem dMo_number_47 : decode cMo_number 47 = .ok (.aload_n 0, 1) := by decide +kernel
theorem dMo_number_48 : decode cMo_number 48 = .ok (.getfield 28, 3) := by decide +kernel
theorem dMo_number_51 : decode cMo_number 51 = .ok (.iconst 1, 1) := by decide +kernel
theorem dMo_number_52 : decode cMo_number 52 = .ok (.iadd, 1) := by decide +kernel
theorem dMo_number_53 : decode cMo_number 53 = .ok (.iaload, 1) := by decide +kernel
theorem dMo_number_54 : decode cMo_number 54 = .ok (.bipush 88, 2) := by decide +kernel
theorem dMo_number_56 : decode cMo_number 56 = .ok (.if_icmp .ne 58, 3) := by decide +kernel
theorem dMo_number_59 : decode cMo_number 59 = .ok (.aload_n 0, 1) := by decide +kernel
theorem dMo_number_60 : decode cMo_number 60 = .ok (.iconst 1, 1) := by decide +kernel
theorem dMo_number_61 : decode cMo_number 61 = .ok (.putfield 59, 3) := by decide +kernel
theorem dMo_number_64 : decode cMo_number 64 = .ok (.aload_n 0, 1) := by decide +kernel
theorem dMo_number_65 : decode cMo_number 65 = .ok (.dup, 1) := by decide +kernel
theorem dMo_number_66 : decode cMo_number 66 = .ok (.getfield 28, 3) := by decide +kernel
theorem dMo_number_69 : decode cMo_number 69 = .ok (.iconst 2, 1) := by decide +kernel
theorem dMo_number_70 : decode cMo_number 70 = .ok (.iadd, 1) := by decide +kernel
theorem dMo_number_71 : decode cMo_number 71 = .ok (.putfield 28, 3) := by decide +kernel
theorem dMo_number_74 : decode cMo_number 74 = .ok (.aload_n 0, 1) := by decide +kernel
theorem dMo_number_75 : decode cMo_number 75 = .ok (.iconst 1, 1) := by decide +kernel
theorem dMo_number_76 : decode cMo_number 76 = .ok (.invokevirtual 62, 3) := by decide +kernel
theorem dMo_number_79 : decode cMo_number 79 = .ok (.ifCond .eq 14, 3) := by decide +kernel
theorem dMo_number_82 : decode cMo_number 82 = .ok (.aload_n 0, 1) := by decide +kernel
theorem dMo_number_83 : decode cMo_number 83 = .ok (.bipush 112, 2) := by decide +kernel
theorem dMo_number_85 : decode cMo_number 85 = .ok (.bipush 80, 2) := by decide +kernel
theorem dMo_number_87 : decode cMo_number 87 = .ok (.invokevirtual 66, 3) := by decide +kernel
theorem dMo_number_90 : decode cMo_number 90 = .ok (.ifCond .ne 5, 3) := by decide +kernel
theorem dMo_number_93 : decode cMo_number 93 = .ok (.iconst 0, 1) := by decide +kernel
theorem dMo_number_94 : decode cMo_number 94 = .ok (.ireturn, 1) := by decide +kernel
theorem dMo_number_95 : decode cMo_number 95 = .ok (.aload_n 0, 1) := by decide +kernel
theorem dMo_number_96 : decode cMo_number 96 = .ok (.dup, 1) := by decide +kernel
theorem dMo_number_97 : decode cMo_number 97 = .ok (.getfield 28, 3) := by decide +kernel
theorem dMo_number_100 : decode cMo_number 100 = .ok (.iconst 1, 1) := by decide +kernel
theorem dMo_number_101 : decode cMo_number 101 = .ok (.iadd, 1) := by decide +kernel
theorem dMo_number_102 : decode cMo_number 102 = .ok (.putfield 28, 3) := by decide +kernel
theorem dMo_number_105 : decode cMo_number 105 = .ok (.aload_n 0, 1) := by decide +kernel
theorem dMo_number_106 : decode cMo_number 106 = .ok (.invokevirtual 70, 3) := by decide +kernel
theorem dMo_number_109 : decode cMo_number 109 = .ok (.ifCond .ne 50, 3) := by decide +kernel
theorem dMo_number_112 : decode cMo_number 112 = .ok (.iconst 0, 1) := by decide +kernel
theorem dMo_number_113 : decode cMo_number 113 = .ok (.ireturn, 1) := by decide +kernel
theorem dMo_number_114 : decode cMo_number 114 = .ok (.aload_n 0, 1) := by decide +kernel
theorem dMo_number_115 : decode cMo_number 115 = .ok (.iconst 0, 1) := by decide +kernel
theorem dMo_number_116 : decode cMo_number 116 = .ok (.putfield 59, 3) := by decide +kernel
theorem dMo_number_119 : decode cMo_number 119 = .ok (.aload_n 0, 1) := by decide +kernel
theorem dMo_number_120 : decode cMo_number 120 = .ok (.iconst 0, 1) := by decide +kernel
theorem dMo_number_121 : decode cMo_number 121 = .ok (.invokevirtual 62, 3) := by decide +kernel
theorem dMo_number_124 : decode cMo_number 124 = .ok (.ifCond .ne 5, 3) := by decide +kernel
theorem dMo_number_127 : decode cMo_number 127 = .ok (.iconst 0, 1) := by decide +kernel
theorem dMo_number_128 : decode cMo_number 128 = .ok (.ireturn, 1) := by decide +kernel
theorem dMo_number_129 : decode cMo_number 129 = .ok (.aload_n 0, 1) := by decide +kernel
theorem dMo_number_130 : decode cMo_number 130 = .ok (.bipush 101, 2) := by decide +kernel
theorem dMo_number_132 : decode cMo_number 132 = .ok (.bipush 69, 2) := by decide +kernel
theorem dMo_number_134 : decode cMo_number 134 = .ok (.invokevirtual 66, 3) := by decide +kernel
theorem dMo_number_137 : decode cMo_number 137 = .ok (.ifCond .eq 22, 3) := by decide +kernel
theorem dMo_number_140 : decode cMo_number 140 = .ok (.aload_n 0, 1) := by decide +kernel
theorem dMo_number_141 : decode cMo_number 141 = .ok (.dup, 1) := by decide +kernel
theorem dMo_number_142 : decode cMo_number 142 = .ok (.getfield 28, 3) := by decide +kernel
theorem dMo_number_145 : decode cMo_number 145 = .ok (.iconst 1, 1) := by decide +kernel
theorem dMo_number_146 : decode cMo_number 146 = .ok (.iadd, 1) := by decide +kernel
theorem dMo_number_147 : decode cMo_number 147 = .ok (.putfield 28, 3) := by decide +kernel
theorem dMo_number_150 : decode cMo_number 150 = .ok (.aload_n 0, 1) := by decide +kernel
theorem dMo_number_151 : decode cMo_number 151 = .ok (.invokevirtual 70, 3) := by decide +kernel
theorem dMo_number_154 : decode cMo_number 154 = .ok (.ifCond .ne 5, 3) := by decide +kernel
theorem dMo_number_157 : decode cMo_number 157 = .ok (.iconst 0, 1) := by decide +kernel
theorem dMo_number_158 : decode cMo_number 158 = .ok (.ireturn, 1) := by decide +kernel
theorem dMo_number_159 : decode cMo_number 159 = .ok (.aload_n 0, 1) := by decide +kernel
theorem dMo_number_160 : decode cMo_number 160 = .ok (.bipush 100, 2) := by decide +kernel
theorem dMo_number_162 : decode cMo_number 162 = .ok (.bipush 68, 2) := by decide +kernel
theorem dMo_number_164 : decode cMo_number 164 = .ok (.invokevirtual 66, 3) := by decide +kernel
theorem dMo_number_167 : decode cMo_number 167 = .ok (.ifCond .ne 14, 3) := by decide +kernel
theorem dMo_number_170 : decode cMo_number 170 = .ok (.aload_n 0, 1) := by decide +kernel
theorem dMo_number_171 : decode cMo_number 171 = .ok (.bipush 102, 2) := by decide +kernel
theorem dMo_number_173 : decode cMo_number 173 = .ok (.bipush 70, 2) := by decide +kernel
theorem dMo_number_175 : decode cMo_number 175 = .ok (.invokevirtual 66, 3) := by decide +kernel
theorem dMo_number_178 : decode cMo_number 178 = .ok (.ifCond .eq 13, 3) := by decide +kernel
theorem dMo_number_181 : decode cMo_number 181 = .ok (.aload_n 0, 1) := by decide +kernel
theorem dMo_number_182 : decode cMo_number 182 = .ok (.dup, 1) := by decide +kernel
theorem dMo_number_183 : decode cMo_number 183 = .ok (.getfield 28, 3) := by decide +kernel
theorem dMo_number_186 : decode cMo_number 186 = .ok (.iconst 1, 1) := by decide +kernel
theorem dMo_number_187 : decode cMo_number 187 = .ok (.iadd, 1) := by decide +kernel
theorem dMo_number_188 : decode cMo_number 188 = .ok (.putfield 28, 3) := by decide +kernel
theorem dMo_number_191 : decode cMo_number 191 = .ok (.iconst 1, 1) := by decide +kernel
theorem dMo_number_192 : decode cMo_number 192 = .ok (.ireturn, 1) := by decide +kernel
theorem dMo_digits_0 : decode cMo_digits 0 = .ok (.aload_n 0, 1) := by decide +kernel
theorem dMo_digits_1 : decode cMo_digits 1 = .ok (.iconst 0, 1) := by decide +kernel
theorem dMo_digits_2 : decode cMo_digits 2 = .ok (.putfield 39, 3) := by decide +kernel
theorem dMo_digits_5 : decode cMo_digits 5 = .ok (.aload_n 0, 1) := by decide +kernel
theorem dMo_digits_6 : decode cMo_digits 6 = .ok (.iconst (-1), 1) := by decide +kernel
theorem dMo_digits_7 : decode cMo_digits 7 = .ok (.putfield 42, 3) := by decide +kernel
theorem dMo_digits_10 : decode cMo_digits 10 = .ok (.iload_n 1, 1) := by decide +kernel
theorem dMo_digits_11 : decode cMo_digits 11 = .ok (.ifCond .eq 13, 3) := by decide +kernel
theorem dMo_digits_14 : decode cMo_digits 14 = .ok (.aload_n 0, 1) := by decide +kernel
theorem dMo_digits_15 : decode cMo_digits 15 = .ok (.invokevirtual 35, 3) := by decide +kernel
theorem dMo_digits_18 : decode cMo_digits 18 = .ok (.invokestatic 45, 3) := by decide +kernel
theorem dMo_digits_21 : decode cMo_digits 21 = .ok (.goto 24, 3) := by decide +kernel
theorem dMo_digits_24 : decode cMo_digits 24 = .ok (.aload_n 0, 1) := by decide +kernel
theorem dMo_digits_25 : decode cMo_digits 25 = .ok (.invokevirtual 35, 3) := by decide +kernel
theorem dMo_digits_28 : decode cMo_digits 28 = .ok (.invokestatic 31, 3) := by decide +kernel
theorem dMo_digits_31 : decode cMo_digits 31 = .ok (.ifCond .eq 13, 3) := by decide +kernel
theorem dMo_digits_34 : decode cMo_digits 34 = .ok (.aload_n 0, 1) := by decide +kernel
theorem dMo_digits_35 : decode cMo_digits 35 = .ok (.invokevirtual 35, 3) := by decide +kernel
theorem dMo_digits_38 : decode cMo_digits 38 = .ok (.bipush 48, 2) := by decide +kernel
theorem dMo_digits_40 : decode cMo_digits 40 = .ok (.isub, 1) := by decide +kernel
theorem dMo_digits_41 : decode cMo_digits 41 = .ok (.goto 4, 3) := by decide +kernel
theorem dMo_digits_44 : decode cMo_digits 44 = .ok (.iconst (-1), 1) := by decide +kernel
theorem dMo_digits_45 : decode cMo_digits 45 = .ok (.istore_n 2, 1) := by decide +kernel
theorem dMo_digits_46 : decode cMo_digits 46 = .ok (.iload_n 2, 1) := by decide +kernel
theorem dMo_digits_47 : decode cMo_digits 47 = .ok (.ifCond .lt 26, 3) := by decide +kernel
theorem dMo_digits_50 : decode cMo_digits 50 = .ok (.aload_n 0, 1) := by decide +kernel
theorem dMo_digits_51 : decode cMo_digits 51 = .ok (.getfield 13, 3) := by decide +kernel
theorem dMo_digits_54 : decode cMo_digits 54 = .ok (.aload_n 0, 1) := by decide +kernel
theorem dMo_digits_55 : decode cMo_digits 55 = .ok (.getfield 39, 3) := by decide +kernel
theorem dMo_digits_58 : decode cMo_digits 58 = .ok (.iload_n 2, 1) := by decide +kernel
theorem dMo_digits_59 : decode cMo_digits 59 = .ok (.iastore, 1) := by decide +kernel
theorem dMo_digits_60 : decode cMo_digits 60 = .ok (.aload_n 0, 1) := by decide +kernel
theorem dMo_digits_61 : decode cMo_digits 61 = .ok (.dup, 1) := by decide +kernel
