theorem dEr_init_0 : decode cEr_init 0 = .ok (.aload_n 0, 1) := by decide +kernel
theorem dEr_init_1 : decode cEr_init 1 = .ok (.invokespecial 1, 3) := by decide +kernel
theorem dEr_init_4 : decode cEr_init 4 = .ok (.aload_n 0, 1) := by decide +kernel
theorem dEr_init_5 : decode cEr_init 5 = .ok (.new 7, 3) := by decide +kernel
theorem dEr_init_8 : decode cEr_init 8 = .ok (.dup, 1) := by decide +kernel
theorem dEr_init_9 : decode cEr_init 9 = .ok (.invokespecial 9, 3) := by decide +kernel
theorem dEr_init_12 : decode cEr_init 12 = .ok (.putfield 10, 3) := by decide +kernel
theorem dEr_init_15 : decode cEr_init 15 = .ok (.aload_n 0, 1) := by decide +kernel
theorem dEr_init_16 : decode cEr_init 16 = .ok (.new 16, 3) := by decide +kernel
theorem dEr_init_19 : decode cEr_init 19 = .ok (.dup, 1) := by decide +kernel
theorem dEr_init_20 : decode cEr_init 20 = .ok (.invokespecial 18, 3) := by decide +kernel
theorem dEr_init_23 : decode cEr_init 23 = .ok (.putfield 19, 3) := by decide +kernel
theorem dEr_init_26 : decode cEr_init 26 = .ok (.aload_n 0, 1) := by decide +kernel
theorem dEr_init_27 : decode cEr_init 27 = .ok (.new 23, 3) := by decide +kernel
theorem dEr_init_30 : decode cEr_init 30 = .ok (.dup, 1) := by decide +kernel
theorem dEr_init_31 : decode cEr_init 31 = .ok (.invokespecial 25, 3) := by decide +kernel
theorem dEr_init_34 : decode cEr_init 34 = .ok (.putfield 26, 3) := by decide +kernel
theorem dEr_init_37 : decode cEr_init 37 = .ok (.aload_n 0, 1) := by decide +kernel
theorem dEr_init_38 : decode cEr_init 38 = .ok (.new 23, 3) := by decide +kernel
theorem dEr_init_41 : decode cEr_init 41 = .ok (.dup, 1) := by decide +kernel
theorem dEr_init_42 : decode cEr_init 42 = .ok (.invokespecial 25, 3) := by decide +kernel
theorem dEr_init_45 : decode cEr_init 45 = .ok (.putfield 30, 3) := by decide +kernel
theorem dEr_init_48 : decode cEr_init 48 = .ok (.aload_n 0, 1) := by decide +kernel
theorem dEr_init_49 : decode cEr_init 49 = .ok (.new 33, 3) := by decide +kernel
theorem dEr_init_52 : decode cEr_init 52 = .ok (.dup, 1) := by decide +kernel
theorem dEr_init_53 : decode cEr_init 53 = .ok (.invokespecial 35, 3) := by decide +kernel
theorem dEr_init_56 : decode cEr_init 56 = .ok (.putfield 36, 3) := by decide +kernel
theorem dEr_init_59 : decode cEr_init 59 = .ok (.return_, 1) := by decide +kernel
theorem dEr_write_0 : decode cEr_write 0 = .ok (.iconst 0, 1) := by decide +kernel
theorem dEr_write_1 : decode cEr_write 1 = .ok (.istore_n 3, 1) := by decide +kernel
theorem dEr_write_2 : decode cEr_write 2 = .ok (.iconst 0, 1) := by decide +kernel
theorem dEr_write_3 : decode cEr_write 3 = .ok (.istore 4, 2) := by decide +kernel
theorem dEr_write_5 : decode cEr_write 5 = .ok (.iload 4, 2) := by decide +kernel
theorem dEr_write_7 : decode cEr_write 7 = .ok (.bipush 8, 2) := by decide +kernel
theorem dEr_write_9 : decode cEr_write 9 = .ok (.if_icmp .ge 21, 3) := by decide +kernel
theorem dEr_write_12 : decode cEr_write 12 = .ok (.lload_n 1, 1) := by decide +kernel
theorem dEr_write_13 : decode cEr_write 13 = .ok (.iload 4, 2) := by decide +kernel
theorem dEr_write_15 : decode cEr_write 15 = .ok (.invokestatic 40, 3) := by decide +kernel
theorem dEr_write_18 : decode cEr_write 18 = .ok (.ifCond .eq 6, 3) := by decide +kernel
theorem dEr_write_21 : decode cEr_write 21 = .ok (.iinc 3 1, 3) := by decide +kernel
theorem dEr_write_24 : decode cEr_write 24 = .ok (.iinc 4 1, 3) := by decide +kernel
theorem dEr_write_27 : decode cEr_write 27 = .ok (.goto (-22), 3) := by decide +kernel
theorem dEr_write_30 : decode cEr_write 30 = .ok (.iload_n 3, 1) := by decide +kernel
theorem dEr_write_31 : decode cEr_write 31 = .ok (.aload_n 0, 1) := by decide +kernel
theorem dEr_write_32 : decode cEr_write 32 = .ok (.getfield 10, 3) := by decide +kernel
theorem dEr_write_35 : decode cEr_write 35 = .ok (.invokevirtual 44, 3) := by decide +kernel
theorem dEr_write_38 : decode cEr_write 38 = .ok (.if_icmp .le 5, 3) := by decide +kernel
theorem dEr_write_41 : decode cEr_write 41 = .ok (.iconst (-1), 1) := by decide +kernel
theorem dEr_write_42 : decode cEr_write 42 = .ok (.ireturn, 1) := by decide +kernel
theorem dEr_write_43 : decode cEr_write 43 = .ok (.iconst 0, 1) := by decide +kernel
theorem dEr_write_44 : decode cEr_write 44 = .ok (.istore 4, 2) := by decide +kernel
theorem dEr_write_46 : decode cEr_write 46 = .ok (.iload 4, 2) := by decide +kernel
theorem dEr_write_48 : decode cEr_write 48 = .ok (.bipush 8, 2) := by decide +kernel
theorem dEr_write_50 : decode cEr_write 50 = .ok (.if_icmp .ge 22, 3) := by decide +kernel
theorem dEr_write_53 : decode cEr_write 53 = .ok (.aload_n 0, 1) := by decide +kernel
theorem dEr_write_54 : decode cEr_write 54 = .ok (.getfield 10, 3) := by decide +kernel
theorem dEr_write_57 : decode cEr_write 57 = .ok (.lload_n 1, 1) := by decide +kernel
theorem dEr_write_58 : decode cEr_write 58 = .ok (.iload 4, 2) := by decide +kernel
theorem dEr_write_60 : decode cEr_write 60 = .ok (.invokestatic 40, 3) := by decide +kernel
theorem dEr_write_63 : decode cEr_write 63 = .ok (.invokevirtual 48, 3) := by decide +kernel
theorem dEr_write_66 : decode cEr_write 66 = .ok (.iinc 4 1, 3) := by decide +kernel
theorem dEr_write_69 : decode cEr_write 69 = .ok (.goto (-23), 3) := by decide +kernel
theorem dEr_write_72 : decode cEr_write 72 = .ok (.aload_n 0, 1) := by decide +kernel
theorem dEr_write_73 : decode cEr_write 73 = .ok (.getfield 10, 3) := by decide +kernel
theorem dEr_write_76 : decode cEr_write 76 = .ok (.getfield 52, 3) := by decide +kernel
theorem dEr_write_79 : decode cEr_write 79 = .ok (.ireturn, 1) := by decide +kernel
theorem dEr_byteOf_0 : decode cEr_byteOf 0 = .ok (.lload_n 0, 1) := by decide +kernel
theorem dEr_byteOf_1 : decode cEr_byteOf 1 = .ok (.bipush 8, 2) := by decide +kernel
theorem dEr_byteOf_3 : decode cEr_byteOf 3 = .ok (.iload_n 2, 1) := by decide +kernel
theorem dEr_byteOf_4 : decode cEr_byteOf 4 = .ok (.imul, 1) := by decide +kernel
theorem dEr_byteOf_5 : decode cEr_byteOf 5 = .ok (.lushr, 1) := by decide +kernel
theorem dEr_byteOf_6 : decode cEr_byteOf 6 = .ok (.ldc2_w 134, 3) := by decide +kernel
theorem dEr_byteOf_9 : decode cEr_byteOf 9 = .ok (.land, 1) := by decide +kernel
theorem dEr_byteOf_10 : decode cEr_byteOf 10 = .ok (.l2i, 1) := by decide +kernel
theorem dEr_byteOf_11 : decode cEr_byteOf 11 = .ok (.i2c, 1) := by decide +kernel
theorem dEr_byteOf_12 : decode cEr_byteOf 12 = .ok (.ireturn, 1) := by decide +kernel
theorem dEr_wipe_0 : decode cEr_wipe 0 = .ok (.aload_n 0, 1) := by decide +kernel
theorem dEr_wipe_1 : decode cEr_wipe 1 = .ok (.getfield 10, 3) := by decide +kernel
theorem dEr_wipe_4 : decode cEr_wipe 4 = .ok (.getfield 52, 3) := by decide +kernel
theorem dEr_wipe_7 : decode cEr_wipe 7 = .ok (.istore_n 1, 1) := by decide +kernel
theorem dEr_wipe_8 : decode cEr_wipe 8 = .ok (.aload_n 0, 1) := by decide +kernel
theorem dEr_wipe_9 : decode cEr_wipe 9 = .ok (.getfield 10, 3) := by decide +kernel
theorem dEr_wipe_12 : decode cEr_wipe 12 = .ok (.iload_n 1, 1) := by decide +kernel
theorem dEr_wipe_13 : decode cEr_wipe 13 = .ok (.invokevirtual 65, 3) := by decide +kernel
theorem dEr_wipe_16 : decode cEr_wipe 16 = .ok (.iload_n 1, 1) := by decide +kernel
theorem dEr_wipe_17 : decode cEr_wipe 17 = .ok (.ireturn, 1) := by decide +kernel
theorem dEr_kind_0 : decode cEr_kind 0 = .ok (.aload_n 0, 1) := by decide +kernel
theorem dEr_kind_1 : decode cEr_kind 1 = .ok (.getfield 10, 3) := by decide +kernel
theorem dEr_kind_4 : decode cEr_kind 4 = .ok (.invokevirtual 69, 3) := by decide +kernel
theorem dEr_kind_7 : decode cEr_kind 7 = .ok (.aload_n 0, 1) := by decide +kernel
theorem dEr_kind_8 : decode cEr_kind 8 = .ok (.getfield 10, 3) := by decide +kernel
theorem dEr_kind_11 : decode cEr_kind 11 = .ok (.getfield 72, 3) := by decide +kernel
theorem dEr_kind_14 : decode cEr_kind 14 = .ok (.ireturn, 1) := by decide +kernel
theorem dEr_fault_0 : decode cEr_fault 0 = .ok (.aload_n 0, 1) := by decide +kernel
theorem dEr_fault_1 : decode cEr_fault 1 = .ok (.getfield 10, 3) := by decide +kernel
theorem dEr_fault_4 : decode cEr_fault 4 = .ok (.invokevirtual 69, 3) := by decide +kernel
theorem dEr_fault_7 : decode cEr_fault 7 = .ok (.aload_n 0, 1) := by decide +kernel
theorem dEr_fault_8 : decode cEr_fault 8 = .ok (.getfield 10, 3) := by decide +kernel
theorem dEr_fault_11 : decode cEr_fault 11 = .ok (.getfield 75, 3) := by decide +kernel
theorem dEr_fault_14 : decode cEr_fault 14 = .ok (.ireturn, 1) := by decide +kernel
theorem dEr_repeat_0 : decode cEr_repeat 0 = .ok (.iload_n 1, 1) := by decide +kernel
theorem dEr_repeat_1 : decode cEr_repeat 1 = .ok (.iconst 1, 1) := by decide +kernel
theorem dEr_repeat_2 : decode cEr_repeat 2 = .ok (.if_icmp .lt 14, 3) := by decide +kernel
theorem dEr_repeat_5 : decode cEr_repeat 5 = .ok (.iload_n 1, 1) := by decide +kernel
theorem dEr_repeat_6 : decode cEr_repeat 6 = .ok (.sipush 255, 3) := by decide +kernel
theorem dEr_repeat_9 : decode cEr_repeat 9 = .ok (.if_icmp .gt 7, 3) := by decide +kernel
theorem dEr_repeat_12 : decode cEr_repeat 12 = .ok (.iload_n 2, 1) := by decide +kernel
theorem dEr_repeat_13 : decode cEr_repeat 13 = .ok (.ifCond .ge 13, 3) := by decide +kernel
theorem dEr_repeat_16 : decode cEr_repeat 16 = .ok (.new 56, 3) := by decide +kernel
theorem dEr_repeat_19 : decode cEr_repeat 19 = .ok (.dup, 1) := by decide +kernel
theorem dEr_repeat_20 : decode cEr_repeat 20 = .ok (.ldc 58, 2) := by decide +kernel
theorem dEr_repeat_22 : decode cEr_repeat 22 = .ok (.invokespecial 60, 3) := by decide +kernel
theorem dEr_repeat_25 : decode cEr_repeat 25 = .ok (.athrow, 1) := by decide +kernel
theorem dEr_repeat_26 : decode cEr_repeat 26 = .ok (.iload_n 2, 1) := by decide +kernel
theorem dEr_repeat_27 : decode cEr_repeat 27 = .ok (.aload_n 0, 1) := by decide +kernel
theorem dEr_repeat_28 : decode cEr_repeat 28 = .ok (.getfield 10, 3) := by decide +kernel
theorem dEr_repeat_31 : decode cEr_repeat 31 = .ok (.invokevirtual 44, 3) := by decide +kernel
theorem dEr_repeat_34 : decode cEr_repeat 34 = .ok (.if_icmp .le 5, 3) := by decide +kernel
theorem dEr_repeat_37 : decode cEr_repeat 37 = .ok (.iconst (-1), 1) := by decide +kernel
theorem dEr_repeat_38 : decode cEr_repeat 38 = .ok (.ireturn, 1) := by decide +kernel
theorem dEr_repeat_39 : decode cEr_repeat 39 = .ok (.iconst 0, 1) := by decide +kernel
theorem dEr_repeat_40 : decode cEr_repeat 40 = .ok (.istore_n 3, 1) := by decide +kernel
theorem dEr_repeat_41 : decode cEr_repeat 41 = .ok (.iload_n 3, 1) := by decide +kernel
theorem dEr_repeat_42 : decode cEr_repeat 42 = .ok (.iload_n 2, 1) := by decide +kernel
theorem dEr_repeat_43 : decode cEr_repeat 43 = .ok (.if_icmp .ge 18, 3) := by decide +kernel
theorem dEr_repeat_46 : decode cEr_repeat 46 = .ok (.aload_n 0, 1) := by decide +kernel
theorem dEr_repeat_47 : decode cEr_repeat 47 = .ok (.getfield 10, 3) := by decide +kernel
theorem dEr_repeat_50 : decode cEr_repeat 50 = .ok (.iload_n 1, 1) := by decide +kernel
theorem dEr_repeat_51 : decode cEr_repeat 51 = .ok (.i2c, 1) := by decide +kernel
theorem dEr_repeat_52 : decode cEr_repeat 52 = .ok (.invokevirtual 48, 3) := by decide +kernel
theorem dEr_repeat_55 : decode cEr_repeat 55 = .ok (.iinc 3 1, 3) := by decide +kernel
theorem dEr_repeat_58 : decode cEr_repeat 58 = .ok (.goto (-17), 3) := by decide +kernel
theorem dEr_repeat_61 : decode cEr_repeat 61 = .ok (.aload_n 0, 1) := by decide +kernel
theorem dEr_repeat_62 : decode cEr_repeat 62 = .ok (.getfield 10, 3) := by decide +kernel
theorem dEr_repeat_65 : decode cEr_repeat 65 = .ok (.getfield 52, 3) := by decide +kernel
theorem dEr_repeat_68 : decode cEr_repeat 68 = .ok (.ireturn, 1) := by decide +kernel
theorem dEr_cut_0 : decode cEr_cut 0 = .ok (.iload_n 1, 1) := by decide +kernel
theorem dEr_cut_1 : decode cEr_cut 1 = .ok (.ifCond .ge 13, 3) := by decide +kernel
theorem dEr_cut_4 : decode cEr_cut 4 = .ok (.new 56, 3) := by decide +kernel
theorem dEr_cut_7 : decode cEr_cut 7 = .ok (.dup, 1) := by decide +kernel
theorem dEr_cut_8 : decode cEr_cut 8 = .ok (.ldc 63, 2) := by decide +kernel
theorem dEr_cut_10 : decode cEr_cut 10 = .ok (.invokespecial 60, 3) := by decide +kernel
theorem dEr_cut_13 : decode cEr_cut 13 = .ok (.athrow, 1) := by decide +kernel
theorem dEr_cut_14 : decode cEr_cut 14 = .ok (.aload_n 0, 1) := by decide +kernel
theorem dEr_cut_15 : decode cEr_cut 15 = .ok (.getfield 10, 3) := by decide +kernel
theorem dEr_cut_18 : decode cEr_cut 18 = .ok (.iload_n 1, 1) := by decide +kernel
theorem dEr_cut_19 : decode cEr_cut 19 = .ok (.invokevirtual 65, 3) := by decide +kernel
theorem dEr_cut_22 : decode cEr_cut 22 = .ok (.aload_n 0, 1) := by decide +kernel
theorem dEr_cut_23 : decode cEr_cut 23 = .ok (.getfield 10, 3) := by decide +kernel
theorem dEr_cut_26 : decode cEr_cut 26 = .ok (.getfield 52, 3) := by decide +kernel
theorem dEr_cut_29 : decode cEr_cut 29 = .ok (.ireturn, 1) := by decide +kernel
theorem dEr_bits_0 : decode cEr_bits 0 = .ok (.aload_n 0, 1) := by decide +kernel
theorem dEr_bits_1 : decode cEr_bits 1 = .ok (.getfield 10, 3) := by decide +kernel
theorem dEr_bits_4 : decode cEr_bits 4 = .ok (.invokevirtual 69, 3) := by decide +kernel
theorem dEr_bits_7 : decode cEr_bits 7 = .ok (.aload_n 0, 1) := by decide +kernel
theorem dEr_bits_8 : decode cEr_bits 8 = .ok (.getfield 10, 3) := by decide +kernel
theorem dEr_bits_11 : decode cEr_bits 11 = .ok (.getfield 72, 3) := by decide +kernel
theorem dEr_bits_14 : decode cEr_bits 14 = .ok (.iconst (-1), 1) := by decide +kernel
theorem dEr_bits_15 : decode cEr_bits 15 = .ok (.if_icmp .ne 13, 3) := by decide +kernel
theorem dEr_bits_18 : decode cEr_bits 18 = .ok (.new 78, 3) := by decide +kernel
theorem dEr_bits_21 : decode cEr_bits 21 = .ok (.dup, 1) := by decide +kernel
theorem dEr_bits_22 : decode cEr_bits 22 = .ok (.ldc 80, 2) := by decide +kernel
theorem dEr_bits_24 : decode cEr_bits 24 = .ok (.invokespecial 82, 3) := by decide +kernel
theorem dEr_bits_27 : decode cEr_bits 27 = .ok (.athrow, 1) := by decide +kernel
theorem dEr_bits_28 : decode cEr_bits 28 = .ok (.aload_n 0, 1) := by decide +kernel
theorem dEr_bits_29 : decode cEr_bits 29 = .ok (.getstatic 83, 3) := by decide +kernel
theorem dEr_bits_32 : decode cEr_bits 32 = .ok (.invokevirtual 89, 3) := by decide +kernel
theorem dEr_bits_35 : decode cEr_bits 35 = .ok (.lreturn, 1) := by decide +kernel
theorem dEr_bitsRead_0 : decode cEr_bitsRead 0 = .ok (.aload_n 0, 1) := by decide +kernel
theorem dEr_bitsRead_1 : decode cEr_bitsRead 1 = .ok (.getfield 10, 3) := by decide +kernel
theorem dEr_bitsRead_4 : decode cEr_bitsRead 4 = .ok (.getfield 72, 3) := by decide +kernel
theorem dEr_bitsRead_7 : decode cEr_bitsRead 7 = .ok (.iconst 3, 1) := by decide +kernel
theorem dEr_bitsRead_8 : decode cEr_bitsRead 8 = .ok (.if_icmp .ne 8, 3) := by decide +kernel
theorem dEr_bitsRead_11 : decode cEr_bitsRead 11 = .ok (.aload_n 1, 1) := by decide +kernel
theorem dEr_bitsRead_12 : decode cEr_bitsRead 12 = .ok (.invokevirtual 136, 3) := by decide +kernel
theorem dEr_bitsRead_15 : decode cEr_bitsRead 15 = .ok (.lreturn, 1) := by decide +kernel
theorem dEr_bitsRead_16 : decode cEr_bitsRead 16 = .ok (.aload_n 0, 1) := by decide +kernel
theorem dEr_bitsRead_17 : decode cEr_bitsRead 17 = .ok (.invokevirtual 96, 3) := by decide +kernel
theorem dEr_bitsRead_20 : decode cEr_bitsRead 20 = .ok (.aload_n 0, 1) := by decide +kernel
theorem dEr_bitsRead_21 : decode cEr_bitsRead 21 = .ok (.getfield 36, 3) := by decide +kernel
theorem dEr_bitsRead_24 : decode cEr_bitsRead 24 = .ok (.aload_n 0, 1) := by decide +kernel
theorem dEr_bitsRead_25 : decode cEr_bitsRead 25 = .ok (.getfield 26, 3) := by decide +kernel
theorem dEr_bitsRead_28 : decode cEr_bitsRead 28 = .ok (.aload_n 1, 1) := by decide +kernel
theorem dEr_bitsRead_29 : decode cEr_bitsRead 29 = .ok (.invokevirtual 99, 3) := by decide +kernel
theorem dEr_bitsRead_32 : decode cEr_bitsRead 32 = .ok (.aload_n 0, 1) := by decide +kernel
theorem dEr_bitsRead_33 : decode cEr_bitsRead 33 = .ok (.getfield 36, 3) := by decide +kernel
theorem dEr_bitsRead_36 : decode cEr_bitsRead 36 = .ok (.aload_n 1, 1) := by decide +kernel
theorem dEr_bitsRead_37 : decode cEr_bitsRead 37 = .ok (.invokevirtual 140, 3) := by decide +kernel
theorem dEr_bitsRead_40 : decode cEr_bitsRead 40 = .ok (.lstore_n 2, 1) := by decide +kernel
theorem dEr_bitsRead_41 : decode cEr_bitsRead 41 = .ok (.aload_n 0, 1) := by decide +kernel
theorem dEr_bitsRead_42 : decode cEr_bitsRead 42 = .ok (.getfield 10, 3) := by decide +kernel
theorem dEr_bitsRead_45 : decode cEr_bitsRead 45 = .ok (.getfield 103, 3) := by decide +kernel
theorem dEr_bitsRead_48 : decode cEr_bitsRead 48 = .ok (.ifCond .eq 12, 3) := by decide +kernel
theorem dEr_bitsRead_51 : decode cEr_bitsRead 51 = .ok (.lload_n 2, 1) := by decide +kernel
theorem dEr_bitsRead_52 : decode cEr_bitsRead 52 = .ok (.aload_n 1, 1) := by decide +kernel
theorem dEr_bitsRead_53 : decode cEr_bitsRead 53 = .ok (.invokevirtual 143, 3) := by decide +kernel
theorem dEr_bitsRead_56 : decode cEr_bitsRead 56 = .ok (.lor, 1) := by decide +kernel
theorem dEr_bitsRead_57 : decode cEr_bitsRead 57 = .ok (.goto 4, 3) := by decide +kernel
theorem dEr_bitsRead_60 : decode cEr_bitsRead 60 = .ok (.lload_n 2, 1) := by decide +kernel
theorem dEr_bitsRead_61 : decode cEr_bitsRead 61 = .ok (.lreturn, 1) := by decide +kernel
theorem dEr_measureText_0 : decode cEr_measureText 0 = .ok (.aload_n 0, 1) := by decide +kernel
theorem dEr_measureText_1 : decode cEr_measureText 1 = .ok (.getfield 10, 3) := by decide +kernel
theorem dEr_measureText_4 : decode cEr_measureText 4 = .ok (.getfield 146, 3) := by decide +kernel
theorem dEr_measureText_7 : decode cEr_measureText 7 = .ok (.ifCond .eq 4, 3) := by decide +kernel
theorem dEr_measureText_10 : decode cEr_measureText 10 = .ok (.return_, 1) := by decide +kernel
theorem dEr_measureText_11 : decode cEr_measureText 11 = .ok (.aload_n 0, 1) := by decide +kernel
theorem dEr_measureText_12 : decode cEr_measureText 12 = .ok (.getfield 10, 3) := by decide +kernel
theorem dEr_measureText_15 : decode cEr_measureText 15 = .ok (.iconst 1, 1) := by decide +kernel
theorem dEr_measureText_16 : decode cEr_measureText 16 = .ok (.putfield 146, 3) := by decide +kernel
theorem dEr_measureText_19 : decode cEr_measureText 19 = .ok (.aload_n 0, 1) := by decide +kernel
theorem dEr_measureText_20 : decode cEr_measureText 20 = .ok (.getfield 10, 3) := by decide +kernel
theorem dEr_measureText_23 : decode cEr_measureText 23 = .ok (.getfield 72, 3) := by decide +kernel
theorem dEr_measureText_26 : decode cEr_measureText 26 = .ok (.iconst 1, 1) := by decide +kernel
theorem dEr_measureText_27 : decode cEr_measureText 27 = .ok (.if_icmp .ne 21, 3) := by decide +kernel
theorem dEr_measureText_30 : decode cEr_measureText 30 = .ok (.aload_n 0, 1) := by decide +kernel
theorem dEr_measureText_31 : decode cEr_measureText 31 = .ok (.getfield 19, 3) := by decide +kernel
theorem dEr_measureText_34 : decode cEr_measureText 34 = .ok (.aload_n 0, 1) := by decide +kernel
theorem dEr_measureText_35 : decode cEr_measureText 35 = .ok (.getfield 10, 3) := by decide +kernel
theorem dEr_measureText_38 : decode cEr_measureText 38 = .ok (.aload_n 0, 1) := by decide +kernel
theorem dEr_measureText_39 : decode cEr_measureText 39 = .ok (.getfield 26, 3) := by decide +kernel
theorem dEr_measureText_42 : decode cEr_measureText 42 = .ok (.invokevirtual 149, 3) := by decide +kernel
theorem dEr_measureText_45 : decode cEr_measureText 45 = .ok (.goto 38, 3) := by decide +kernel
theorem dEr_measureText_48 : decode cEr_measureText 48 = .ok (.aload_n 0, 1) := by decide +kernel
theorem dEr_measureText_49 : decode cEr_measureText 49 = .ok (.getfield 10, 3) := by decide +kernel
theorem dEr_measureText_52 : decode cEr_measureText 52 = .ok (.getfield 72, 3) := by decide +kernel
theorem dEr_measureText_55 : decode cEr_measureText 55 = .ok (.ifCond .ne 21, 3) := by decide +kernel
theorem dEr_measureText_58 : decode cEr_measureText 58 = .ok (.aload_n 0, 1) := by decide +kernel
theorem dEr_measureText_59 : decode cEr_measureText 59 = .ok (.getfield 19, 3) := by decide +kernel
theorem dEr_measureText_62 : decode cEr_measureText 62 = .ok (.aload_n 0, 1) := by decide +kernel
theorem dEr_measureText_63 : decode cEr_measureText 63 = .ok (.getfield 10, 3) := by decide +kernel
theorem dEr_measureText_66 : decode cEr_measureText 66 = .ok (.aload_n 0, 1) := by decide +kernel
theorem dEr_measureText_67 : decode cEr_measureText 67 = .ok (.getfield 26, 3) := by decide +kernel
theorem dEr_measureText_70 : decode cEr_measureText 70 = .ok (.invokevirtual 153, 3) := by decide +kernel
theorem dEr_measureText_73 : decode cEr_measureText 73 = .ok (.goto 10, 3) := by decide +kernel
theorem dEr_measureText_76 : decode cEr_measureText 76 = .ok (.aload_n 0, 1) := by decide +kernel
theorem dEr_measureText_77 : decode cEr_measureText 77 = .ok (.getfield 26, 3) := by decide +kernel
theorem dEr_measureText_80 : decode cEr_measureText 80 = .ok (.invokevirtual 156, 3) := by decide +kernel
theorem dEr_measureText_83 : decode cEr_measureText 83 = .ok (.return_, 1) := by decide +kernel
theorem dEr_floatBits_0 : decode cEr_floatBits 0 = .ok (.aload_n 0, 1) := by decide +kernel
theorem dEr_floatBits_1 : decode cEr_floatBits 1 = .ok (.getfield 10, 3) := by decide +kernel
theorem dEr_floatBits_4 : decode cEr_floatBits 4 = .ok (.invokevirtual 69, 3) := by decide +kernel
theorem dEr_floatBits_7 : decode cEr_floatBits 7 = .ok (.aload_n 0, 1) := by decide +kernel
theorem dEr_floatBits_8 : decode cEr_floatBits 8 = .ok (.getfield 10, 3) := by decide +kernel
theorem dEr_floatBits_11 : decode cEr_floatBits 11 = .ok (.getfield 72, 3) := by decide +kernel
theorem dEr_floatBits_14 : decode cEr_floatBits 14 = .ok (.iconst (-1), 1) := by decide +kernel
theorem dEr_floatBits_15 : decode cEr_floatBits 15 = .ok (.if_icmp .ne 13, 3) := by decide +kernel
theorem dEr_floatBits_18 : decode cEr_floatBits 18 = .ok (.new 78, 3) := by decide +kernel
theorem dEr_floatBits_21 : decode cEr_floatBits 21 = .ok (.dup, 1) := by decide +kernel
theorem dEr_floatBits_22 : decode cEr_floatBits 22 = .ok (.ldc 80, 2) := by decide +kernel
theorem dEr_floatBits_24 : decode cEr_floatBits 24 = .ok (.invokespecial 82, 3) := by decide +kernel
theorem dEr_floatBits_27 : decode cEr_floatBits 27 = .ok (.athrow, 1) := by decide +kernel
theorem dEr_floatBits_28 : decode cEr_floatBits 28 = .ok (.aload_n 0, 1) := by decide +kernel
theorem dEr_floatBits_29 : decode cEr_floatBits 29 = .ok (.getstatic 93, 3) := by decide +kernel
theorem dEr_floatBits_32 : decode cEr_floatBits 32 = .ok (.invokevirtual 89, 3) := by decide +kernel
theorem dEr_floatBits_35 : decode cEr_floatBits 35 = .ok (.l2i, 1) := by decide +kernel
theorem dEr_floatBits_36 : decode cEr_floatBits 36 = .ok (.ireturn, 1) := by decide +kernel
theorem dEr_side_0 : decode cEr_side 0 = .ok (.aload_n 0, 1) := by decide +kernel
theorem dEr_side_1 : decode cEr_side 1 = .ok (.getfield 10, 3) := by decide +kernel
theorem dEr_side_4 : decode cEr_side 4 = .ok (.invokevirtual 69, 3) := by decide +kernel
theorem dEr_side_7 : decode cEr_side 7 = .ok (.aload_n 0, 1) := by decide +kernel
theorem dEr_side_8 : decode cEr_side 8 = .ok (.getfield 10, 3) := by decide +kernel
theorem dEr_side_11 : decode cEr_side 11 = .ok (.getfield 72, 3) := by decide +kernel
theorem dEr_side_14 : decode cEr_side 14 = .ok (.iconst (-1), 1) := by decide +kernel
theorem dEr_side_15 : decode cEr_side 15 = .ok (.if_icmp .ne 13, 3) := by decide +kernel
theorem dEr_side_18 : decode cEr_side 18 = .ok (.new 78, 3) := by decide +kernel
theorem dEr_side_21 : decode cEr_side 21 = .ok (.dup, 1) := by decide +kernel
theorem dEr_side_22 : decode cEr_side 22 = .ok (.ldc 80, 2) := by decide +kernel
theorem dEr_side_24 : decode cEr_side 24 = .ok (.invokespecial 82, 3) := by decide +kernel
theorem dEr_side_27 : decode cEr_side 27 = .ok (.athrow, 1) := by decide +kernel
theorem dEr_side_28 : decode cEr_side 28 = .ok (.aload_n 0, 1) := by decide +kernel
theorem dEr_side_29 : decode cEr_side 29 = .ok (.getfield 10, 3) := by decide +kernel
theorem dEr_side_32 : decode cEr_side 32 = .ok (.getfield 72, 3) := by decide +kernel
theorem dEr_side_35 : decode cEr_side 35 = .ok (.iconst 2, 1) := by decide +kernel
theorem dEr_side_36 : decode cEr_side 36 = .ok (.if_icmp .eq 14, 3) := by decide +kernel
theorem dEr_side_39 : decode cEr_side 39 = .ok (.aload_n 0, 1) := by decide +kernel
theorem dEr_side_40 : decode cEr_side 40 = .ok (.getfield 10, 3) := by decide +kernel
theorem dEr_side_43 : decode cEr_side 43 = .ok (.getfield 72, 3) := by decide +kernel
theorem dEr_side_46 : decode cEr_side 46 = .ok (.iconst 3, 1) := by decide +kernel
theorem dEr_side_47 : decode cEr_side 47 = .ok (.if_icmp .ne 5, 3) := by decide +kernel
theorem dEr_side_50 : decode cEr_side 50 = .ok (.iconst 0, 1) := by decide +kernel
theorem dEr_side_51 : decode cEr_side 51 = .ok (.ireturn, 1) := by decide +kernel
theorem dEr_side_52 : decode cEr_side 52 = .ok (.aload_n 0, 1) := by decide +kernel
theorem dEr_side_53 : decode cEr_side 53 = .ok (.invokevirtual 96, 3) := by decide +kernel
theorem dEr_side_56 : decode cEr_side 56 = .ok (.aload_n 0, 1) := by decide +kernel
theorem dEr_side_57 : decode cEr_side 57 = .ok (.getfield 36, 3) := by decide +kernel
theorem dEr_side_60 : decode cEr_side 60 = .ok (.aload_n 0, 1) := by decide +kernel
theorem dEr_side_61 : decode cEr_side 61 = .ok (.getfield 26, 3) := by decide +kernel
theorem dEr_side_64 : decode cEr_side 64 = .ok (.iload_n 1, 1) := by decide +kernel
theorem dEr_side_65 : decode cEr_side 65 = .ok (.ifCond .eq 9, 3) := by decide +kernel
theorem dEr_side_68 : decode cEr_side 68 = .ok (.getstatic 93, 3) := by decide +kernel
theorem dEr_side_71 : decode cEr_side 71 = .ok (.goto 6, 3) := by decide +kernel
theorem dEr_side_74 : decode cEr_side 74 = .ok (.getstatic 83, 3) := by decide +kernel
theorem dEr_side_77 : decode cEr_side 77 = .ok (.invokevirtual 99, 3) := by decide +kernel
theorem dEr_side_80 : decode cEr_side 80 = .ok (.aload_n 0, 1) := by decide +kernel
theorem dEr_side_81 : decode cEr_side 81 = .ok (.getfield 10, 3) := by decide +kernel
theorem dEr_side_84 : decode cEr_side 84 = .ok (.getfield 103, 3) := by decide +kernel
theorem dEr_side_87 : decode cEr_side 87 = .ok (.ifCond .eq 14, 3) := by decide +kernel
theorem dEr_side_90 : decode cEr_side 90 = .ok (.aload_n 0, 1) := by decide +kernel
theorem dEr_side_91 : decode cEr_side 91 = .ok (.getfield 36, 3) := by decide +kernel
theorem dEr_side_94 : decode cEr_side 94 = .ok (.getfield 107, 3) := by decide +kernel
theorem dEr_side_97 : decode cEr_side 97 = .ok (.ineg, 1) := by decide +kernel
theorem dEr_side_98 : decode cEr_side 98 = .ok (.goto 10, 3) := by decide +kernel
theorem dEr_side_101 : decode cEr_side 101 = .ok (.aload_n 0, 1) := by decide +kernel
theorem dEr_side_102 : decode cEr_side 102 = .ok (.getfield 36, 3) := by decide +kernel
theorem dEr_side_105 : decode cEr_side 105 = .ok (.getfield 107, 3) := by decide +kernel
theorem dEr_side_108 : decode cEr_side 108 = .ok (.ireturn, 1) := by decide +kernel
theorem dEr_compare_0 : decode cEr_compare 0 = .ok (.aload_n 0, 1) := by decide +kernel
theorem dEr_compare_1 : decode cEr_compare 1 = .ok (.getfield 10, 3) := by decide +kernel
theorem dEr_compare_4 : decode cEr_compare 4 = .ok (.invokevirtual 69, 3) := by decide +kernel
theorem dEr_compare_7 : decode cEr_compare 7 = .ok (.aload_n 0, 1) := by decide +kernel
theorem dEr_compare_8 : decode cEr_compare 8 = .ok (.getfield 10, 3) := by decide +kernel
theorem dEr_compare_11 : decode cEr_compare 11 = .ok (.getfield 72, 3) := by decide +kernel
theorem dEr_compare_14 : decode cEr_compare 14 = .ok (.iconst (-1), 1) := by decide +kernel
theorem dEr_compare_15 : decode cEr_compare 15 = .ok (.if_icmp .ne 13, 3) := by decide +kernel
theorem dEr_compare_18 : decode cEr_compare 18 = .ok (.new 78, 3) := by decide +kernel
theorem dEr_compare_21 : decode cEr_compare 21 = .ok (.dup, 1) := by decide +kernel
theorem dEr_compare_22 : decode cEr_compare 22 = .ok (.ldc 80, 2) := by decide +kernel
theorem dEr_compare_24 : decode cEr_compare 24 = .ok (.invokespecial 82, 3) := by decide +kernel
theorem dEr_compare_27 : decode cEr_compare 27 = .ok (.athrow, 1) := by decide +kernel
theorem dEr_compare_28 : decode cEr_compare 28 = .ok (.aload_n 0, 1) := by decide +kernel
theorem dEr_compare_29 : decode cEr_compare 29 = .ok (.getfield 10, 3) := by decide +kernel
theorem dEr_compare_32 : decode cEr_compare 32 = .ok (.getfield 72, 3) := by decide +kernel
theorem dEr_compare_35 : decode cEr_compare 35 = .ok (.iconst 3, 1) := by decide +kernel
theorem dEr_compare_36 : decode cEr_compare 36 = .ok (.if_icmp .eq 10, 3) := by decide +kernel
theorem dEr_compare_39 : decode cEr_compare 39 = .ok (.lload_n 1, 1) := by decide +kernel
theorem dEr_compare_40 : decode cEr_compare 40 = .ok (.invokestatic 110, 3) := by decide +kernel
theorem dEr_compare_43 : decode cEr_compare 43 = .ok (.ifCond .eq 13, 3) := by decide +kernel
theorem dEr_compare_46 : decode cEr_compare 46 = .ok (.new 56, 3) := by decide +kernel
theorem dEr_compare_49 : decode cEr_compare 49 = .ok (.dup, 1) := by decide +kernel
theorem dEr_compare_50 : decode cEr_compare 50 = .ok (.ldc 114, 2) := by decide +kernel
theorem dEr_compare_52 : decode cEr_compare 52 = .ok (.invokespecial 60, 3) := by decide +kernel
theorem dEr_compare_55 : decode cEr_compare 55 = .ok (.athrow, 1) := by decide +kernel
theorem dEr_compare_56 : decode cEr_compare 56 = .ok (.aload_n 0, 1) := by decide +kernel
theorem dEr_compare_57 : decode cEr_compare 57 = .ok (.invokevirtual 96, 3) := by decide +kernel
theorem dEr_compare_60 : decode cEr_compare 60 = .ok (.aload_n 0, 1) := by decide +kernel
theorem dEr_compare_61 : decode cEr_compare 61 = .ok (.getfield 30, 3) := by decide +kernel
theorem dEr_compare_64 : decode cEr_compare 64 = .ok (.lload_n 1, 1) := by decide +kernel
theorem dEr_compare_65 : decode cEr_compare 65 = .ok (.invokevirtual 116, 3) := by decide +kernel
theorem dEr_compare_68 : decode cEr_compare 68 = .ok (.aload_n 0, 1) := by decide +kernel
theorem dEr_compare_69 : decode cEr_compare 69 = .ok (.getfield 26, 3) := by decide +kernel
theorem dEr_compare_72 : decode cEr_compare 72 = .ok (.aload_n 0, 1) := by decide +kernel
theorem dEr_compare_73 : decode cEr_compare 73 = .ok (.getfield 10, 3) := by decide +kernel
theorem dEr_compare_76 : decode cEr_compare 76 = .ok (.getfield 103, 3) := by decide +kernel
theorem dEr_compare_79 : decode cEr_compare 79 = .ok (.invokevirtual 120, 3) := by decide +kernel
theorem dEr_compare_82 : decode cEr_compare 82 = .ok (.istore_n 3, 1) := by decide +kernel
theorem dEr_compare_83 : decode cEr_compare 83 = .ok (.aload_n 0, 1) := by decide +kernel
theorem dEr_compare_84 : decode cEr_compare 84 = .ok (.getfield 30, 3) := by decide +kernel
theorem dEr_compare_87 : decode cEr_compare 87 = .ok (.lload_n 1, 1) := by decide +kernel
theorem dEr_compare_88 : decode cEr_compare 88 = .ok (.lconst 0, 1) := by decide +kernel
theorem dEr_compare_89 : decode cEr_compare 89 = .ok (.lcmp, 1) := by decide +kernel
theorem dEr_compare_90 : decode cEr_compare 90 = .ok (.ifCond .ge 7, 3) := by decide +kernel
theorem dEr_compare_93 : decode cEr_compare 93 = .ok (.iconst 1, 1) := by decide +kernel
theorem dEr_compare_94 : decode cEr_compare 94 = .ok (.goto 4, 3) := by decide +kernel
theorem dEr_compare_97 : decode cEr_compare 97 = .ok (.iconst 0, 1) := by decide +kernel
theorem dEr_compare_98 : decode cEr_compare 98 = .ok (.invokevirtual 120, 3) := by decide +kernel
theorem dEr_compare_101 : decode cEr_compare 101 = .ok (.istore 4, 2) := by decide +kernel
theorem dEr_compare_103 : decode cEr_compare 103 = .ok (.iload_n 3, 1) := by decide +kernel
theorem dEr_compare_104 : decode cEr_compare 104 = .ok (.iload 4, 2) := by decide +kernel
theorem dEr_compare_106 : decode cEr_compare 106 = .ok (.if_icmp .eq 10, 3) := by decide +kernel
theorem dEr_compare_109 : decode cEr_compare 109 = .ok (.iload_n 3, 1) := by decide +kernel
theorem dEr_compare_110 : decode cEr_compare 110 = .ok (.iload 4, 2) := by decide +kernel
theorem dEr_compare_112 : decode cEr_compare 112 = .ok (.invokestatic 124, 3) := by decide +kernel
theorem dEr_compare_115 : decode cEr_compare 115 = .ok (.ireturn, 1) := by decide +kernel
theorem dEr_compare_116 : decode cEr_compare 116 = .ok (.iload_n 3, 1) := by decide +kernel
theorem dEr_compare_117 : decode cEr_compare 117 = .ok (.aload_n 0, 1) := by decide +kernel
theorem dEr_compare_118 : decode cEr_compare 118 = .ok (.getfield 26, 3) := by decide +kernel
theorem dEr_compare_121 : decode cEr_compare 121 = .ok (.aload_n 0, 1) := by decide +kernel
theorem dEr_compare_122 : decode cEr_compare 122 = .ok (.getfield 30, 3) := by decide +kernel
theorem dEr_compare_125 : decode cEr_compare 125 = .ok (.invokevirtual 130, 3) := by decide +kernel
theorem dEr_compare_128 : decode cEr_compare 128 = .ok (.imul, 1) := by decide +kernel
theorem dEr_compare_129 : decode cEr_compare 129 = .ok (.ireturn, 1) := by decide +kernel
