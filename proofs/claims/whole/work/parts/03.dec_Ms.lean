theorem dMs_init_0 : decode cMs_init 0 = .ok (.aload_n 0, 1) := by decide +kernel
theorem dMs_init_1 : decode cMs_init 1 = .ok (.invokespecial 3, 3) := by decide +kernel
theorem dMs_init_4 : decode cMs_init 4 = .ok (.aload_n 0, 1) := by decide +kernel
theorem dMs_init_5 : decode cMs_init 5 = .ok (.new 9, 3) := by decide +kernel
theorem dMs_init_8 : decode cMs_init 8 = .ok (.dup, 1) := by decide +kernel
theorem dMs_init_9 : decode cMs_init 9 = .ok (.invokespecial 11, 3) := by decide +kernel
theorem dMs_init_12 : decode cMs_init 12 = .ok (.putfield 12, 3) := by decide +kernel
theorem dMs_init_15 : decode cMs_init 15 = .ok (.return_, 1) := by decide +kernel
theorem dMs_hexadecimal_0 : decode cMs_hexadecimal 0 = .ok (.aload_n 2, 1) := by decide +kernel
theorem dMs_hexadecimal_1 : decode cMs_hexadecimal 1 = .ok (.invokevirtual 18, 3) := by decide +kernel
theorem dMs_hexadecimal_4 : decode cMs_hexadecimal 4 = .ok (.aload_n 1, 1) := by decide +kernel
theorem dMs_hexadecimal_5 : decode cMs_hexadecimal 5 = .ok (.getfield 23, 3) := by decide +kernel
theorem dMs_hexadecimal_8 : decode cMs_hexadecimal 8 = .ok (.istore_n 3, 1) := by decide +kernel
theorem dMs_hexadecimal_9 : decode cMs_hexadecimal 9 = .ok (.iload_n 3, 1) := by decide +kernel
theorem dMs_hexadecimal_10 : decode cMs_hexadecimal 10 = .ok (.aload_n 1, 1) := by decide +kernel
theorem dMs_hexadecimal_11 : decode cMs_hexadecimal 11 = .ok (.getfield 29, 3) := by decide +kernel
theorem dMs_hexadecimal_14 : decode cMs_hexadecimal 14 = .ok (.if_icmp .ge 31, 3) := by decide +kernel
theorem dMs_hexadecimal_17 : decode cMs_hexadecimal 17 = .ok (.aload_n 1, 1) := by decide +kernel
theorem dMs_hexadecimal_18 : decode cMs_hexadecimal 18 = .ok (.iload_n 3, 1) := by decide +kernel
theorem dMs_hexadecimal_19 : decode cMs_hexadecimal 19 = .ok (.bipush 16, 2) := by decide +kernel
theorem dMs_hexadecimal_21 : decode cMs_hexadecimal 21 = .ok (.invokevirtual 32, 3) := by decide +kernel
theorem dMs_hexadecimal_24 : decode cMs_hexadecimal 24 = .ok (.istore 4, 2) := by decide +kernel
theorem dMs_hexadecimal_26 : decode cMs_hexadecimal 26 = .ok (.iload 4, 2) := by decide +kernel
theorem dMs_hexadecimal_28 : decode cMs_hexadecimal 28 = .ok (.iconst (-1), 1) := by decide +kernel
theorem dMs_hexadecimal_29 : decode cMs_hexadecimal 29 = .ok (.if_icmp .eq 10, 3) := by decide +kernel
theorem dMs_hexadecimal_32 : decode cMs_hexadecimal 32 = .ok (.aload_n 2, 1) := by decide +kernel
theorem dMs_hexadecimal_33 : decode cMs_hexadecimal 33 = .ok (.iload 4, 2) := by decide +kernel
theorem dMs_hexadecimal_35 : decode cMs_hexadecimal 35 = .ok (.iconst 4, 1) := by decide +kernel
theorem dMs_hexadecimal_36 : decode cMs_hexadecimal 36 = .ok (.invokevirtual 36, 3) := by decide +kernel
theorem dMs_hexadecimal_39 : decode cMs_hexadecimal 39 = .ok (.iinc 3 1, 3) := by decide +kernel
theorem dMs_hexadecimal_42 : decode cMs_hexadecimal 42 = .ok (.goto (-33), 3) := by decide +kernel
theorem dMs_hexadecimal_45 : decode cMs_hexadecimal 45 = .ok (.aload_n 2, 1) := by decide +kernel
theorem dMs_hexadecimal_46 : decode cMs_hexadecimal 46 = .ok (.aload_n 1, 1) := by decide +kernel
theorem dMs_hexadecimal_47 : decode cMs_hexadecimal 47 = .ok (.getfield 40, 3) := by decide +kernel
theorem dMs_hexadecimal_50 : decode cMs_hexadecimal 50 = .ok (.iconst 4, 1) := by decide +kernel
theorem dMs_hexadecimal_51 : decode cMs_hexadecimal 51 = .ok (.aload_n 1, 1) := by decide +kernel
theorem dMs_hexadecimal_52 : decode cMs_hexadecimal 52 = .ok (.getfield 43, 3) := by decide +kernel
theorem dMs_hexadecimal_55 : decode cMs_hexadecimal 55 = .ok (.imul, 1) := by decide +kernel
theorem dMs_hexadecimal_56 : decode cMs_hexadecimal 56 = .ok (.isub, 1) := by decide +kernel
theorem dMs_hexadecimal_57 : decode cMs_hexadecimal 57 = .ok (.iconst 0, 1) := by decide +kernel
theorem dMs_hexadecimal_58 : decode cMs_hexadecimal 58 = .ok (.invokevirtual 46, 3) := by decide +kernel
theorem dMs_hexadecimal_61 : decode cMs_hexadecimal 61 = .ok (.return_, 1) := by decide +kernel
theorem dMs_decimal_0 : decode cMs_decimal 0 = .ok (.aload_n 1, 1) := by decide +kernel
theorem dMs_decimal_1 : decode cMs_decimal 1 = .ok (.getfield 40, 3) := by decide +kernel
theorem dMs_decimal_4 : decode cMs_decimal 4 = .ok (.aload_n 1, 1) := by decide +kernel
theorem dMs_decimal_5 : decode cMs_decimal 5 = .ok (.getfield 43, 3) := by decide +kernel
theorem dMs_decimal_8 : decode cMs_decimal 8 = .ok (.isub, 1) := by decide +kernel
theorem dMs_decimal_9 : decode cMs_decimal 9 = .ok (.istore_n 3, 1) := by decide +kernel
theorem dMs_decimal_10 : decode cMs_decimal 10 = .ok (.iload_n 3, 1) := by decide +kernel
theorem dMs_decimal_11 : decode cMs_decimal 11 = .ok (.aload_n 1, 1) := by decide +kernel
theorem dMs_decimal_12 : decode cMs_decimal 12 = .ok (.getfield 50, 3) := by decide +kernel
theorem dMs_decimal_15 : decode cMs_decimal 15 = .ok (.iadd, 1) := by decide +kernel
theorem dMs_decimal_16 : decode cMs_decimal 16 = .ok (.iconst 1, 1) := by decide +kernel
theorem dMs_decimal_17 : decode cMs_decimal 17 = .ok (.isub, 1) := by decide +kernel
theorem dMs_decimal_18 : decode cMs_decimal 18 = .ok (.istore 4, 2) := by decide +kernel
theorem dMs_decimal_20 : decode cMs_decimal 20 = .ok (.aload_n 1, 1) := by decide +kernel
theorem dMs_decimal_21 : decode cMs_decimal 21 = .ok (.getfield 50, 3) := by decide +kernel
theorem dMs_decimal_24 : decode cMs_decimal 24 = .ok (.ifCond .ne 12, 3) := by decide +kernel
theorem dMs_decimal_27 : decode cMs_decimal 27 = .ok (.aload_n 2, 1) := by decide +kernel
theorem dMs_decimal_28 : decode cMs_decimal 28 = .ok (.lconst 0, 1) := by decide +kernel
theorem dMs_decimal_29 : decode cMs_decimal 29 = .ok (.iconst 0, 1) := by decide +kernel
theorem dMs_decimal_30 : decode cMs_decimal 30 = .ok (.invokevirtual 53, 3) := by decide +kernel
theorem dMs_decimal_33 : decode cMs_decimal 33 = .ok (.goto 76, 3) := by decide +kernel
theorem dMs_decimal_36 : decode cMs_decimal 36 = .ok (.iload 4, 2) := by decide +kernel
theorem dMs_decimal_38 : decode cMs_decimal 38 = .ok (.sipush 310, 3) := by decide +kernel
theorem dMs_decimal_41 : decode cMs_decimal 41 = .ok (.if_icmp .le 14, 3) := by decide +kernel
theorem dMs_decimal_44 : decode cMs_decimal 44 = .ok (.aload_n 2, 1) := by decide +kernel
theorem dMs_decimal_45 : decode cMs_decimal 45 = .ok (.lconst 1, 1) := by decide +kernel
theorem dMs_decimal_46 : decode cMs_decimal 46 = .ok (.sipush 4000, 3) := by decide +kernel
theorem dMs_decimal_49 : decode cMs_decimal 49 = .ok (.invokevirtual 53, 3) := by decide +kernel
theorem dMs_decimal_52 : decode cMs_decimal 52 = .ok (.goto 57, 3) := by decide +kernel
theorem dMs_decimal_55 : decode cMs_decimal 55 = .ok (.iload 4, 2) := by decide +kernel
theorem dMs_decimal_57 : decode cMs_decimal 57 = .ok (.sipush (-330), 3) := by decide +kernel
theorem dMs_decimal_60 : decode cMs_decimal 60 = .ok (.if_icmp .ge 14, 3) := by decide +kernel
theorem dMs_decimal_63 : decode cMs_decimal 63 = .ok (.aload_n 2, 1) := by decide +kernel
theorem dMs_decimal_64 : decode cMs_decimal 64 = .ok (.lconst 1, 1) := by decide +kernel
theorem dMs_decimal_65 : decode cMs_decimal 65 = .ok (.sipush (-4000), 3) := by decide +kernel
theorem dMs_decimal_68 : decode cMs_decimal 68 = .ok (.invokevirtual 53, 3) := by decide +kernel
theorem dMs_decimal_71 : decode cMs_decimal 71 = .ok (.goto 38, 3) := by decide +kernel
theorem dMs_decimal_74 : decode cMs_decimal 74 = .ok (.aload_n 1, 1) := by decide +kernel
theorem dMs_decimal_75 : decode cMs_decimal 75 = .ok (.getfield 50, 3) := by decide +kernel
theorem dMs_decimal_78 : decode cMs_decimal 78 = .ok (.sipush 900, 3) := by decide +kernel
theorem dMs_decimal_81 : decode cMs_decimal 81 = .ok (.invokestatic 57, 3) := by decide +kernel
theorem dMs_decimal_84 : decode cMs_decimal 84 = .ok (.istore 5, 2) := by decide +kernel
theorem dMs_decimal_86 : decode cMs_decimal 86 = .ok (.aload_n 0, 1) := by decide +kernel
theorem dMs_decimal_87 : decode cMs_decimal 87 = .ok (.aload_n 1, 1) := by decide +kernel
theorem dMs_decimal_88 : decode cMs_decimal 88 = .ok (.iload 5, 2) := by decide +kernel
theorem dMs_decimal_90 : decode cMs_decimal 90 = .ok (.invokevirtual 62, 3) := by decide +kernel
theorem dMs_decimal_93 : decode cMs_decimal 93 = .ok (.istore 6, 2) := by decide +kernel
theorem dMs_decimal_95 : decode cMs_decimal 95 = .ok (.aload_n 0, 1) := by decide +kernel
theorem dMs_decimal_96 : decode cMs_decimal 96 = .ok (.iload 4, 2) := by decide +kernel
theorem dMs_decimal_98 : decode cMs_decimal 98 = .ok (.iload 5, 2) := by decide +kernel
theorem dMs_decimal_100 : decode cMs_decimal 100 = .ok (.isub, 1) := by decide +kernel
theorem dMs_decimal_101 : decode cMs_decimal 101 = .ok (.iconst 1, 1) := by decide +kernel
theorem dMs_decimal_102 : decode cMs_decimal 102 = .ok (.iadd, 1) := by decide +kernel
theorem dMs_decimal_103 : decode cMs_decimal 103 = .ok (.iload 6, 2) := by decide +kernel
theorem dMs_decimal_105 : decode cMs_decimal 105 = .ok (.aload_n 2, 1) := by decide +kernel
theorem dMs_decimal_106 : decode cMs_decimal 106 = .ok (.invokevirtual 66, 3) := by decide +kernel
theorem dMs_decimal_109 : decode cMs_decimal 109 = .ok (.return_, 1) := by decide +kernel
theorem dMs_loadDigits_0 : decode cMs_loadDigits 0 = .ok (.iconst 0, 1) := by decide +kernel
theorem dMs_loadDigits_1 : decode cMs_loadDigits 1 = .ok (.istore_n 3, 1) := by decide +kernel
theorem dMs_loadDigits_2 : decode cMs_loadDigits 2 = .ok (.iconst 0, 1) := by decide +kernel
theorem dMs_loadDigits_3 : decode cMs_loadDigits 3 = .ok (.istore 4, 2) := by decide +kernel
theorem dMs_loadDigits_5 : decode cMs_loadDigits 5 = .ok (.aload_n 0, 1) := by decide +kernel
theorem dMs_loadDigits_6 : decode cMs_loadDigits 6 = .ok (.getfield 12, 3) := by decide +kernel
theorem dMs_loadDigits_9 : decode cMs_loadDigits 9 = .ok (.invokevirtual 70, 3) := by decide +kernel
theorem dMs_loadDigits_12 : decode cMs_loadDigits 12 = .ok (.aload_n 1, 1) := by decide +kernel
theorem dMs_loadDigits_13 : decode cMs_loadDigits 13 = .ok (.getfield 23, 3) := by decide +kernel
theorem dMs_loadDigits_16 : decode cMs_loadDigits 16 = .ok (.istore 5, 2) := by decide +kernel
theorem dMs_loadDigits_18 : decode cMs_loadDigits 18 = .ok (.iload 5, 2) := by decide +kernel
theorem dMs_loadDigits_20 : decode cMs_loadDigits 20 = .ok (.aload_n 1, 1) := by decide +kernel
theorem dMs_loadDigits_21 : decode cMs_loadDigits 21 = .ok (.getfield 29, 3) := by decide +kernel
theorem dMs_loadDigits_24 : decode cMs_loadDigits 24 = .ok (.if_icmp .ge 66, 3) := by decide +kernel
theorem dMs_loadDigits_27 : decode cMs_loadDigits 27 = .ok (.aload_n 1, 1) := by decide +kernel
theorem dMs_loadDigits_28 : decode cMs_loadDigits 28 = .ok (.iload 5, 2) := by decide +kernel
theorem dMs_loadDigits_30 : decode cMs_loadDigits 30 = .ok (.bipush 10, 2) := by decide +kernel
theorem dMs_loadDigits_32 : decode cMs_loadDigits 32 = .ok (.invokevirtual 32, 3) := by decide +kernel
theorem dMs_loadDigits_35 : decode cMs_loadDigits 35 = .ok (.istore 6, 2) := by decide +kernel
theorem dMs_loadDigits_37 : decode cMs_loadDigits 37 = .ok (.iload 6, 2) := by decide +kernel
theorem dMs_loadDigits_39 : decode cMs_loadDigits 39 = .ok (.iconst (-1), 1) := by decide +kernel
theorem dMs_loadDigits_40 : decode cMs_loadDigits 40 = .ok (.if_icmp .eq 44, 3) := by decide +kernel
theorem dMs_loadDigits_43 : decode cMs_loadDigits 43 = .ok (.iload 6, 2) := by decide +kernel
theorem dMs_loadDigits_45 : decode cMs_loadDigits 45 = .ok (.ifCond .ne 11, 3) := by decide +kernel
theorem dMs_loadDigits_48 : decode cMs_loadDigits 48 = .ok (.iload 4, 2) := by decide +kernel
theorem dMs_loadDigits_50 : decode cMs_loadDigits 50 = .ok (.ifCond .ne 6, 3) := by decide +kernel
theorem dMs_loadDigits_53 : decode cMs_loadDigits 53 = .ok (.goto 31, 3) := by decide +kernel
theorem dMs_loadDigits_56 : decode cMs_loadDigits 56 = .ok (.iload 4, 2) := by decide +kernel
theorem dMs_loadDigits_58 : decode cMs_loadDigits 58 = .ok (.iload_n 2, 1) := by decide +kernel
theorem dMs_loadDigits_59 : decode cMs_loadDigits 59 = .ok (.if_icmp .ge 18, 3) := by decide +kernel
theorem dMs_loadDigits_62 : decode cMs_loadDigits 62 = .ok (.aload_n 0, 1) := by decide +kernel
theorem dMs_loadDigits_63 : decode cMs_loadDigits 63 = .ok (.getfield 12, 3) := by decide +kernel
theorem dMs_loadDigits_66 : decode cMs_loadDigits 66 = .ok (.iload 6, 2) := by decide +kernel
theorem dMs_loadDigits_68 : decode cMs_loadDigits 68 = .ok (.invokevirtual 71, 3) := by decide +kernel
theorem dMs_loadDigits_71 : decode cMs_loadDigits 71 = .ok (.iinc 4 1, 3) := by decide +kernel
theorem dMs_loadDigits_74 : decode cMs_loadDigits 74 = .ok (.goto 10, 3) := by decide +kernel
theorem dMs_loadDigits_77 : decode cMs_loadDigits 77 = .ok (.iload 6, 2) := by decide +kernel
theorem dMs_loadDigits_79 : decode cMs_loadDigits 79 = .ok (.ifCond .eq 5, 3) := by decide +kernel
theorem dMs_loadDigits_82 : decode cMs_loadDigits 82 = .ok (.iconst 1, 1) := by decide +kernel
theorem dMs_loadDigits_83 : decode cMs_loadDigits 83 = .ok (.istore_n 3, 1) := by decide +kernel
theorem dMs_loadDigits_84 : decode cMs_loadDigits 84 = .ok (.iinc 5 1, 3) := by decide +kernel
theorem dMs_loadDigits_87 : decode cMs_loadDigits 87 = .ok (.goto (-69), 3) := by decide +kernel
theorem dMs_loadDigits_90 : decode cMs_loadDigits 90 = .ok (.aload_n 0, 1) := by decide +kernel
theorem dMs_loadDigits_91 : decode cMs_loadDigits 91 = .ok (.getfield 12, 3) := by decide +kernel
theorem dMs_loadDigits_94 : decode cMs_loadDigits 94 = .ok (.invokevirtual 75, 3) := by decide +kernel
theorem dMs_loadDigits_97 : decode cMs_loadDigits 97 = .ok (.iload_n 3, 1) := by decide +kernel
theorem dMs_loadDigits_98 : decode cMs_loadDigits 98 = .ok (.ireturn, 1) := by decide +kernel
theorem dMs_takeTimesTen_0 : decode cMs_takeTimesTen 0 = .ok (.iload_n 2, 1) := by decide +kernel
theorem dMs_takeTimesTen_1 : decode cMs_takeTimesTen 1 = .ok (.istore 4, 2) := by decide +kernel
theorem dMs_takeTimesTen_3 : decode cMs_takeTimesTen 3 = .ok (.iconst 0, 1) := by decide +kernel
theorem dMs_takeTimesTen_4 : decode cMs_takeTimesTen 4 = .ok (.istore 5, 2) := by decide +kernel
theorem dMs_takeTimesTen_6 : decode cMs_takeTimesTen 6 = .ok (.iload_n 1, 1) := by decide +kernel
theorem dMs_takeTimesTen_7 : decode cMs_takeTimesTen 7 = .ok (.ifCond .lt 14, 3) := by decide +kernel
theorem dMs_takeTimesTen_10 : decode cMs_takeTimesTen 10 = .ok (.aload_n 0, 1) := by decide +kernel
theorem dMs_takeTimesTen_11 : decode cMs_takeTimesTen 11 = .ok (.getfield 12, 3) := by decide +kernel
theorem dMs_takeTimesTen_14 : decode cMs_takeTimesTen 14 = .ok (.iload_n 1, 1) := by decide +kernel
theorem dMs_takeTimesTen_15 : decode cMs_takeTimesTen 15 = .ok (.invokevirtual 77, 3) := by decide +kernel
theorem dMs_takeTimesTen_18 : decode cMs_takeTimesTen 18 = .ok (.goto 28, 3) := by decide +kernel
theorem dMs_takeTimesTen_21 : decode cMs_takeTimesTen 21 = .ok (.aload_n 0, 1) := by decide +kernel
theorem dMs_takeTimesTen_22 : decode cMs_takeTimesTen 22 = .ok (.getfield 12, 3) := by decide +kernel
theorem dMs_takeTimesTen_25 : decode cMs_takeTimesTen 25 = .ok (.iload_n 1, 1) := by decide +kernel
theorem dMs_takeTimesTen_26 : decode cMs_takeTimesTen 26 = .ok (.ineg, 1) := by decide +kernel
theorem dMs_takeTimesTen_27 : decode cMs_takeTimesTen 27 = .ok (.invokevirtual 80, 3) := by decide +kernel
theorem dMs_takeTimesTen_30 : decode cMs_takeTimesTen 30 = .ok (.istore 5, 2) := by decide +kernel
theorem dMs_takeTimesTen_32 : decode cMs_takeTimesTen 32 = .ok (.iload 4, 2) := by decide +kernel
theorem dMs_takeTimesTen_34 : decode cMs_takeTimesTen 34 = .ok (.aload_n 0, 1) := by decide +kernel
theorem dMs_takeTimesTen_35 : decode cMs_takeTimesTen 35 = .ok (.getfield 12, 3) := by decide +kernel
theorem dMs_takeTimesTen_38 : decode cMs_takeTimesTen 38 = .ok (.iload_n 1, 1) := by decide +kernel
theorem dMs_takeTimesTen_39 : decode cMs_takeTimesTen 39 = .ok (.ineg, 1) := by decide +kernel
theorem dMs_takeTimesTen_40 : decode cMs_takeTimesTen 40 = .ok (.invokevirtual 84, 3) := by decide +kernel
theorem dMs_takeTimesTen_43 : decode cMs_takeTimesTen 43 = .ok (.ior, 1) := by decide +kernel
theorem dMs_takeTimesTen_44 : decode cMs_takeTimesTen 44 = .ok (.istore 4, 2) := by decide +kernel
theorem dMs_takeTimesTen_46 : decode cMs_takeTimesTen 46 = .ok (.aload_n 3, 1) := by decide +kernel
theorem dMs_takeTimesTen_47 : decode cMs_takeTimesTen 47 = .ok (.invokevirtual 18, 3) := by decide +kernel
theorem dMs_takeTimesTen_50 : decode cMs_takeTimesTen 50 = .ok (.aload_n 0, 1) := by decide +kernel
theorem dMs_takeTimesTen_51 : decode cMs_takeTimesTen 51 = .ok (.getfield 12, 3) := by decide +kernel
theorem dMs_takeTimesTen_54 : decode cMs_takeTimesTen 54 = .ok (.getfield 88, 3) := by decide +kernel
theorem dMs_takeTimesTen_57 : decode cMs_takeTimesTen 57 = .ok (.iconst 1, 1) := by decide +kernel
theorem dMs_takeTimesTen_58 : decode cMs_takeTimesTen 58 = .ok (.isub, 1) := by decide +kernel
theorem dMs_takeTimesTen_59 : decode cMs_takeTimesTen 59 = .ok (.istore 6, 2) := by decide +kernel
theorem dMs_takeTimesTen_61 : decode cMs_takeTimesTen 61 = .ok (.iload 6, 2) := by decide +kernel
theorem dMs_takeTimesTen_63 : decode cMs_takeTimesTen 63 = .ok (.ifCond .lt 24, 3) := by decide +kernel
theorem dMs_takeTimesTen_66 : decode cMs_takeTimesTen 66 = .ok (.aload_n 3, 1) := by decide +kernel
theorem dMs_takeTimesTen_67 : decode cMs_takeTimesTen 67 = .ok (.aload_n 0, 1) := by decide +kernel
theorem dMs_takeTimesTen_68 : decode cMs_takeTimesTen 68 = .ok (.getfield 12, 3) := by decide +kernel
theorem dMs_takeTimesTen_71 : decode cMs_takeTimesTen 71 = .ok (.iload 6, 2) := by decide +kernel
theorem dMs_takeTimesTen_73 : decode cMs_takeTimesTen 73 = .ok (.invokevirtual 91, 3) := by decide +kernel
theorem dMs_takeTimesTen_76 : decode cMs_takeTimesTen 76 = .ok (.bipush 32, 2) := by decide +kernel
theorem dMs_takeTimesTen_78 : decode cMs_takeTimesTen 78 = .ok (.invokevirtual 36, 3) := by decide +kernel
theorem dMs_takeTimesTen_81 : decode cMs_takeTimesTen 81 = .ok (.iinc 6 (-1), 3) := by decide +kernel
theorem dMs_takeTimesTen_84 : decode cMs_takeTimesTen 84 = .ok (.goto (-23), 3) := by decide +kernel
theorem dMs_takeTimesTen_87 : decode cMs_takeTimesTen 87 = .ok (.aload_n 3, 1) := by decide +kernel
theorem dMs_takeTimesTen_88 : decode cMs_takeTimesTen 88 = .ok (.iload_n 1, 1) := by decide +kernel
theorem dMs_takeTimesTen_89 : decode cMs_takeTimesTen 89 = .ok (.iload 5, 2) := by decide +kernel
theorem dMs_takeTimesTen_91 : decode cMs_takeTimesTen 91 = .ok (.isub, 1) := by decide +kernel
theorem dMs_takeTimesTen_92 : decode cMs_takeTimesTen 92 = .ok (.iload 4, 2) := by decide +kernel
theorem dMs_takeTimesTen_94 : decode cMs_takeTimesTen 94 = .ok (.invokevirtual 46, 3) := by decide +kernel
theorem dMs_takeTimesTen_97 : decode cMs_takeTimesTen 97 = .ok (.return_, 1) := by decide +kernel
