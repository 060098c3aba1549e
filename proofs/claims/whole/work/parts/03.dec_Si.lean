theorem dSi_init_0 : decode cSi_init 0 = .ok (.aload_n 0, 1) := by decide +kernel
theorem dSi_init_1 : decode cSi_init 1 = .ok (.invokespecial 1, 3) := by decide +kernel
theorem dSi_init_4 : decode cSi_init 4 = .ok (.return_, 1) := by decide +kernel
theorem dSi_begin_0 : decode cSi_begin 0 = .ok (.aload_n 0, 1) := by decide +kernel
theorem dSi_begin_1 : decode cSi_begin 1 = .ok (.lconst 0, 1) := by decide +kernel
theorem dSi_begin_2 : decode cSi_begin 2 = .ok (.putfield 7, 3) := by decide +kernel
theorem dSi_begin_5 : decode cSi_begin 5 = .ok (.aload_n 0, 1) := by decide +kernel
theorem dSi_begin_6 : decode cSi_begin 6 = .ok (.iconst 0, 1) := by decide +kernel
theorem dSi_begin_7 : decode cSi_begin 7 = .ok (.putfield 13, 3) := by decide +kernel
theorem dSi_begin_10 : decode cSi_begin 10 = .ok (.aload_n 0, 1) := by decide +kernel
theorem dSi_begin_11 : decode cSi_begin 11 = .ok (.iconst 0, 1) := by decide +kernel
theorem dSi_begin_12 : decode cSi_begin 12 = .ok (.putfield 17, 3) := by decide +kernel
theorem dSi_begin_15 : decode cSi_begin 15 = .ok (.return_, 1) := by decide +kernel
theorem dSi_push_0 : decode cSi_push 0 = .ok (.aload_n 0, 1) := by decide +kernel
theorem dSi_push_1 : decode cSi_push 1 = .ok (.getfield 7, 3) := by decide +kernel
theorem dSi_push_4 : decode cSi_push 4 = .ok (.ldc2_w 21, 3) := by decide +kernel
theorem dSi_push_7 : decode cSi_push 7 = .ok (.lcmp, 1) := by decide +kernel
theorem dSi_push_8 : decode cSi_push 8 = .ok (.ifCond .lt 32, 3) := by decide +kernel
theorem dSi_push_11 : decode cSi_push 11 = .ok (.aload_n 0, 1) := by decide +kernel
theorem dSi_push_12 : decode cSi_push 12 = .ok (.dup, 1) := by decide +kernel
theorem dSi_push_13 : decode cSi_push 13 = .ok (.getfield 13, 3) := by decide +kernel
theorem dSi_push_16 : decode cSi_push 16 = .ok (.iload_n 2, 1) := by decide +kernel
theorem dSi_push_17 : decode cSi_push 17 = .ok (.iadd, 1) := by decide +kernel
theorem dSi_push_18 : decode cSi_push 18 = .ok (.putfield 13, 3) := by decide +kernel
theorem dSi_push_21 : decode cSi_push 21 = .ok (.aload_n 0, 1) := by decide +kernel
theorem dSi_push_22 : decode cSi_push 22 = .ok (.dup, 1) := by decide +kernel
theorem dSi_push_23 : decode cSi_push 23 = .ok (.getfield 17, 3) := by decide +kernel
theorem dSi_push_26 : decode cSi_push 26 = .ok (.iload_n 1, 1) := by decide +kernel
theorem dSi_push_27 : decode cSi_push 27 = .ok (.ifCond .eq 7, 3) := by decide +kernel
theorem dSi_push_30 : decode cSi_push 30 = .ok (.iconst 1, 1) := by decide +kernel
theorem dSi_push_31 : decode cSi_push 31 = .ok (.goto 4, 3) := by decide +kernel
theorem dSi_push_34 : decode cSi_push 34 = .ok (.iconst 0, 1) := by decide +kernel
theorem dSi_push_35 : decode cSi_push 35 = .ok (.ior, 1) := by decide +kernel
theorem dSi_push_36 : decode cSi_push 36 = .ok (.putfield 17, 3) := by decide +kernel
theorem dSi_push_39 : decode cSi_push 39 = .ok (.return_, 1) := by decide +kernel
theorem dSi_push_40 : decode cSi_push 40 = .ok (.iload_n 2, 1) := by decide +kernel
theorem dSi_push_41 : decode cSi_push 41 = .ok (.iconst 1, 1) := by decide +kernel
theorem dSi_push_42 : decode cSi_push 42 = .ok (.isub, 1) := by decide +kernel
theorem dSi_push_43 : decode cSi_push 43 = .ok (.istore_n 3, 1) := by decide +kernel
theorem dSi_push_44 : decode cSi_push 44 = .ok (.iload_n 3, 1) := by decide +kernel
theorem dSi_push_45 : decode cSi_push 45 = .ok (.ifCond .lt 18, 3) := by decide +kernel
theorem dSi_push_48 : decode cSi_push 48 = .ok (.aload_n 0, 1) := by decide +kernel
theorem dSi_push_49 : decode cSi_push 49 = .ok (.iload_n 1, 1) := by decide +kernel
theorem dSi_push_50 : decode cSi_push 50 = .ok (.iload_n 3, 1) := by decide +kernel
theorem dSi_push_51 : decode cSi_push 51 = .ok (.iushr, 1) := by decide +kernel
theorem dSi_push_52 : decode cSi_push 52 = .ok (.iconst 1, 1) := by decide +kernel
theorem dSi_push_53 : decode cSi_push 53 = .ok (.iand, 1) := by decide +kernel
theorem dSi_push_54 : decode cSi_push 54 = .ok (.invokevirtual 23, 3) := by decide +kernel
theorem dSi_push_57 : decode cSi_push 57 = .ok (.iinc 3 (-1), 3) := by decide +kernel
theorem dSi_push_60 : decode cSi_push 60 = .ok (.goto (-16), 3) := by decide +kernel
theorem dSi_push_63 : decode cSi_push 63 = .ok (.return_, 1) := by decide +kernel
theorem dSi_pushBit_0 : decode cSi_pushBit 0 = .ok (.aload_n 0, 1) := by decide +kernel
theorem dSi_pushBit_1 : decode cSi_pushBit 1 = .ok (.getfield 7, 3) := by decide +kernel
theorem dSi_pushBit_4 : decode cSi_pushBit 4 = .ok (.ldc2_w 21, 3) := by decide +kernel
theorem dSi_pushBit_7 : decode cSi_pushBit 7 = .ok (.lcmp, 1) := by decide +kernel
theorem dSi_pushBit_8 : decode cSi_pushBit 8 = .ok (.ifCond .lt 34, 3) := by decide +kernel
theorem dSi_pushBit_11 : decode cSi_pushBit 11 = .ok (.aload_n 0, 1) := by decide +kernel
theorem dSi_pushBit_12 : decode cSi_pushBit 12 = .ok (.dup, 1) := by decide +kernel
theorem dSi_pushBit_13 : decode cSi_pushBit 13 = .ok (.getfield 13, 3) := by decide +kernel
theorem dSi_pushBit_16 : decode cSi_pushBit 16 = .ok (.iconst 1, 1) := by decide +kernel
theorem dSi_pushBit_17 : decode cSi_pushBit 17 = .ok (.iadd, 1) := by decide +kernel
theorem dSi_pushBit_18 : decode cSi_pushBit 18 = .ok (.putfield 13, 3) := by decide +kernel
theorem dSi_pushBit_21 : decode cSi_pushBit 21 = .ok (.aload_n 0, 1) := by decide +kernel
theorem dSi_pushBit_22 : decode cSi_pushBit 22 = .ok (.dup, 1) := by decide +kernel
theorem dSi_pushBit_23 : decode cSi_pushBit 23 = .ok (.getfield 17, 3) := by decide +kernel
theorem dSi_pushBit_26 : decode cSi_pushBit 26 = .ok (.iload_n 1, 1) := by decide +kernel
theorem dSi_pushBit_27 : decode cSi_pushBit 27 = .ok (.ifCond .eq 7, 3) := by decide +kernel
theorem dSi_pushBit_30 : decode cSi_pushBit 30 = .ok (.iconst 1, 1) := by decide +kernel
theorem dSi_pushBit_31 : decode cSi_pushBit 31 = .ok (.goto 4, 3) := by decide +kernel
theorem dSi_pushBit_34 : decode cSi_pushBit 34 = .ok (.iconst 0, 1) := by decide +kernel
theorem dSi_pushBit_35 : decode cSi_pushBit 35 = .ok (.ior, 1) := by decide +kernel
theorem dSi_pushBit_36 : decode cSi_pushBit 36 = .ok (.putfield 17, 3) := by decide +kernel
theorem dSi_pushBit_39 : decode cSi_pushBit 39 = .ok (.goto 16, 3) := by decide +kernel
theorem dSi_pushBit_42 : decode cSi_pushBit 42 = .ok (.aload_n 0, 1) := by decide +kernel
theorem dSi_pushBit_43 : decode cSi_pushBit 43 = .ok (.aload_n 0, 1) := by decide +kernel
theorem dSi_pushBit_44 : decode cSi_pushBit 44 = .ok (.getfield 7, 3) := by decide +kernel
theorem dSi_pushBit_47 : decode cSi_pushBit 47 = .ok (.iconst 1, 1) := by decide +kernel
theorem dSi_pushBit_48 : decode cSi_pushBit 48 = .ok (.lshl, 1) := by decide +kernel
theorem dSi_pushBit_49 : decode cSi_pushBit 49 = .ok (.iload_n 1, 1) := by decide +kernel
theorem dSi_pushBit_50 : decode cSi_pushBit 50 = .ok (.i2l, 1) := by decide +kernel
theorem dSi_pushBit_51 : decode cSi_pushBit 51 = .ok (.lor, 1) := by decide +kernel
theorem dSi_pushBit_52 : decode cSi_pushBit 52 = .ok (.putfield 7, 3) := by decide +kernel
theorem dSi_pushBit_55 : decode cSi_pushBit 55 = .ok (.return_, 1) := by decide +kernel
theorem dSi_end_0 : decode cSi_end 0 = .ok (.aload_n 0, 1) := by decide +kernel
theorem dSi_end_1 : decode cSi_end 1 = .ok (.getfield 17, 3) := by decide +kernel
theorem dSi_end_4 : decode cSi_end 4 = .ok (.istore_n 3, 1) := by decide +kernel
theorem dSi_end_5 : decode cSi_end 5 = .ok (.aload_n 0, 1) := by decide +kernel
theorem dSi_end_6 : decode cSi_end 6 = .ok (.aload_n 0, 1) := by decide +kernel
theorem dSi_end_7 : decode cSi_end 7 = .ok (.getfield 7, 3) := by decide +kernel
theorem dSi_end_10 : decode cSi_end 10 = .ok (.iload_n 1, 1) := by decide +kernel
theorem dSi_end_11 : decode cSi_end 11 = .ok (.aload_n 0, 1) := by decide +kernel
theorem dSi_end_12 : decode cSi_end 12 = .ok (.getfield 13, 3) := by decide +kernel
theorem dSi_end_15 : decode cSi_end 15 = .ok (.iadd, 1) := by decide +kernel
theorem dSi_end_16 : decode cSi_end 16 = .ok (.invokevirtual 27, 3) := by decide +kernel
theorem dSi_end_19 : decode cSi_end 19 = .ok (.aload_n 0, 1) := by decide +kernel
theorem dSi_end_20 : decode cSi_end 20 = .ok (.iload_n 3, 1) := by decide +kernel
theorem dSi_end_21 : decode cSi_end 21 = .ok (.ifCond .ne 7, 3) := by decide +kernel
theorem dSi_end_24 : decode cSi_end 24 = .ok (.iload_n 2, 1) := by decide +kernel
theorem dSi_end_25 : decode cSi_end 25 = .ok (.ifCond .eq 7, 3) := by decide +kernel
theorem dSi_end_28 : decode cSi_end 28 = .ok (.iconst 1, 1) := by decide +kernel
theorem dSi_end_29 : decode cSi_end 29 = .ok (.goto 4, 3) := by decide +kernel
theorem dSi_end_32 : decode cSi_end 32 = .ok (.iconst 0, 1) := by decide +kernel
theorem dSi_end_33 : decode cSi_end 33 = .ok (.putfield 17, 3) := by decide +kernel
theorem dSi_end_36 : decode cSi_end 36 = .ok (.return_, 1) := by decide +kernel
theorem dSi_set_0 : decode cSi_set 0 = .ok (.lload_n 1, 1) := by decide +kernel
theorem dSi_set_1 : decode cSi_set 1 = .ok (.lconst 0, 1) := by decide +kernel
theorem dSi_set_2 : decode cSi_set 2 = .ok (.lcmp, 1) := by decide +kernel
theorem dSi_set_3 : decode cSi_set 3 = .ok (.ifCond .ne 7, 3) := by decide +kernel
theorem dSi_set_6 : decode cSi_set 6 = .ok (.iconst 0, 1) := by decide +kernel
theorem dSi_set_7 : decode cSi_set 7 = .ok (.goto 9, 3) := by decide +kernel
theorem dSi_set_10 : decode cSi_set 10 = .ok (.lload_n 1, 1) := by decide +kernel
theorem dSi_set_11 : decode cSi_set 11 = .ok (.invokestatic 31, 3) := by decide +kernel
theorem dSi_set_14 : decode cSi_set 14 = .ok (.iconst 1, 1) := by decide +kernel
theorem dSi_set_15 : decode cSi_set 15 = .ok (.isub, 1) := by decide +kernel
theorem dSi_set_16 : decode cSi_set 16 = .ok (.istore 4, 2) := by decide +kernel
theorem dSi_set_18 : decode cSi_set 18 = .ok (.aload_n 0, 1) := by decide +kernel
theorem dSi_set_19 : decode cSi_set 19 = .ok (.lload_n 1, 1) := by decide +kernel
theorem dSi_set_20 : decode cSi_set 20 = .ok (.iload 4, 2) := by decide +kernel
theorem dSi_set_22 : decode cSi_set 22 = .ok (.lshl, 1) := by decide +kernel
theorem dSi_set_23 : decode cSi_set 23 = .ok (.putfield 7, 3) := by decide +kernel
theorem dSi_set_26 : decode cSi_set 26 = .ok (.aload_n 0, 1) := by decide +kernel
theorem dSi_set_27 : decode cSi_set 27 = .ok (.iload_n 3, 1) := by decide +kernel
theorem dSi_set_28 : decode cSi_set 28 = .ok (.iload 4, 2) := by decide +kernel
theorem dSi_set_30 : decode cSi_set 30 = .ok (.isub, 1) := by decide +kernel
theorem dSi_set_31 : decode cSi_set 31 = .ok (.putfield 13, 3) := by decide +kernel
theorem dSi_set_34 : decode cSi_set 34 = .ok (.aload_n 0, 1) := by decide +kernel
theorem dSi_set_35 : decode cSi_set 35 = .ok (.iconst 0, 1) := by decide +kernel
theorem dSi_set_36 : decode cSi_set 36 = .ok (.putfield 17, 3) := by decide +kernel
theorem dSi_set_39 : decode cSi_set 39 = .ok (.return_, 1) := by decide +kernel
theorem dSi_setInfinite_0 : decode cSi_setInfinite 0 = .ok (.aload_n 0, 1) := by decide +kernel
theorem dSi_setInfinite_1 : decode cSi_setInfinite 1 = .ok (.ldc2_w 21, 3) := by decide +kernel
theorem dSi_setInfinite_4 : decode cSi_setInfinite 4 = .ok (.ldc 37, 2) := by decide +kernel
theorem dSi_setInfinite_6 : decode cSi_setInfinite 6 = .ok (.invokevirtual 27, 3) := by decide +kernel
theorem dSi_setInfinite_9 : decode cSi_setInfinite 9 = .ok (.return_, 1) := by decide +kernel
theorem dSi_setDouble_0 : decode cSi_setDouble 0 = .ok (.getstatic 38, 3) := by decide +kernel
theorem dSi_setDouble_3 : decode cSi_setDouble 3 = .ok (.lload_n 1, 1) := by decide +kernel
theorem dSi_setDouble_4 : decode cSi_setDouble 4 = .ok (.invokevirtual 44, 3) := by decide +kernel
theorem dSi_setDouble_7 : decode cSi_setDouble 7 = .ok (.istore_n 3, 1) := by decide +kernel
theorem dSi_setDouble_8 : decode cSi_setDouble 8 = .ok (.getstatic 38, 3) := by decide +kernel
theorem dSi_setDouble_11 : decode cSi_setDouble 11 = .ok (.lload_n 1, 1) := by decide +kernel
theorem dSi_setDouble_12 : decode cSi_setDouble 12 = .ok (.invokevirtual 47, 3) := by decide +kernel
theorem dSi_setDouble_15 : decode cSi_setDouble 15 = .ok (.lstore 4, 2) := by decide +kernel
theorem dSi_setDouble_17 : decode cSi_setDouble 17 = .ok (.iload_n 3, 1) := by decide +kernel
theorem dSi_setDouble_18 : decode cSi_setDouble 18 = .ok (.getstatic 38, 3) := by decide +kernel
theorem dSi_setDouble_21 : decode cSi_setDouble 21 = .ok (.invokevirtual 51, 3) := by decide +kernel
theorem dSi_setDouble_24 : decode cSi_setDouble 24 = .ok (.if_icmp .ne 10, 3) := by decide +kernel
theorem dSi_setDouble_27 : decode cSi_setDouble 27 = .ok (.aload_n 0, 1) := by decide +kernel
theorem dSi_setDouble_28 : decode cSi_setDouble 28 = .ok (.invokevirtual 55, 3) := by decide +kernel
theorem dSi_setDouble_31 : decode cSi_setDouble 31 = .ok (.goto 42, 3) := by decide +kernel
theorem dSi_setDouble_34 : decode cSi_setDouble 34 = .ok (.iload_n 3, 1) := by decide +kernel
theorem dSi_setDouble_35 : decode cSi_setDouble 35 = .ok (.ifCond .ne 18, 3) := by decide +kernel
theorem dSi_setDouble_38 : decode cSi_setDouble 38 = .ok (.aload_n 0, 1) := by decide +kernel
theorem dSi_setDouble_39 : decode cSi_setDouble 39 = .ok (.lload 4, 2) := by decide +kernel
theorem dSi_setDouble_41 : decode cSi_setDouble 41 = .ok (.getstatic 38, 3) := by decide +kernel
theorem dSi_setDouble_44 : decode cSi_setDouble 44 = .ok (.getfield 58, 3) := by decide +kernel
theorem dSi_setDouble_47 : decode cSi_setDouble 47 = .ok (.invokevirtual 27, 3) := by decide +kernel
theorem dSi_setDouble_50 : decode cSi_setDouble 50 = .ok (.goto 23, 3) := by decide +kernel
theorem dSi_setDouble_53 : decode cSi_setDouble 53 = .ok (.aload_n 0, 1) := by decide +kernel
theorem dSi_setDouble_54 : decode cSi_setDouble 54 = .ok (.lload 4, 2) := by decide +kernel
theorem dSi_setDouble_56 : decode cSi_setDouble 56 = .ok (.getstatic 38, 3) := by decide +kernel
theorem dSi_setDouble_59 : decode cSi_setDouble 59 = .ok (.invokevirtual 61, 3) := by decide +kernel
theorem dSi_setDouble_62 : decode cSi_setDouble 62 = .ok (.lor, 1) := by decide +kernel
theorem dSi_setDouble_63 : decode cSi_setDouble 63 = .ok (.getstatic 38, 3) := by decide +kernel
theorem dSi_setDouble_66 : decode cSi_setDouble 66 = .ok (.iload_n 3, 1) := by decide +kernel
theorem dSi_setDouble_67 : decode cSi_setDouble 67 = .ok (.invokevirtual 65, 3) := by decide +kernel
theorem dSi_setDouble_70 : decode cSi_setDouble 70 = .ok (.invokevirtual 27, 3) := by decide +kernel
theorem dSi_setDouble_73 : decode cSi_setDouble 73 = .ok (.return_, 1) := by decide +kernel
theorem dSi_signWith_0 : decode cSi_signWith 0 = .ok (.aload_n 0, 1) := by decide +kernel
theorem dSi_signWith_1 : decode cSi_signWith 1 = .ok (.getfield 7, 3) := by decide +kernel
theorem dSi_signWith_4 : decode cSi_signWith 4 = .ok (.lconst 0, 1) := by decide +kernel
theorem dSi_signWith_5 : decode cSi_signWith 5 = .ok (.lcmp, 1) := by decide +kernel
theorem dSi_signWith_6 : decode cSi_signWith 6 = .ok (.ifCond .ne 5, 3) := by decide +kernel
theorem dSi_signWith_9 : decode cSi_signWith 9 = .ok (.iconst 0, 1) := by decide +kernel
theorem dSi_signWith_10 : decode cSi_signWith 10 = .ok (.ireturn, 1) := by decide +kernel
theorem dSi_signWith_11 : decode cSi_signWith 11 = .ok (.iload_n 1, 1) := by decide +kernel
theorem dSi_signWith_12 : decode cSi_signWith 12 = .ok (.ifCond .eq 7, 3) := by decide +kernel
theorem dSi_signWith_15 : decode cSi_signWith 15 = .ok (.iconst (-1), 1) := by decide +kernel
theorem dSi_signWith_16 : decode cSi_signWith 16 = .ok (.goto 4, 3) := by decide +kernel
theorem dSi_signWith_19 : decode cSi_signWith 19 = .ok (.iconst 1, 1) := by decide +kernel
theorem dSi_signWith_20 : decode cSi_signWith 20 = .ok (.ireturn, 1) := by decide +kernel
theorem dSi_order_0 : decode cSi_order 0 = .ok (.aload_n 0, 1) := by decide +kernel
theorem dSi_order_1 : decode cSi_order 1 = .ok (.getfield 13, 3) := by decide +kernel
theorem dSi_order_4 : decode cSi_order 4 = .ok (.aload_n 1, 1) := by decide +kernel
theorem dSi_order_5 : decode cSi_order 5 = .ok (.getfield 13, 3) := by decide +kernel
theorem dSi_order_8 : decode cSi_order 8 = .ok (.if_icmp .eq 15, 3) := by decide +kernel
theorem dSi_order_11 : decode cSi_order 11 = .ok (.aload_n 0, 1) := by decide +kernel
theorem dSi_order_12 : decode cSi_order 12 = .ok (.getfield 13, 3) := by decide +kernel
theorem dSi_order_15 : decode cSi_order 15 = .ok (.aload_n 1, 1) := by decide +kernel
theorem dSi_order_16 : decode cSi_order 16 = .ok (.getfield 13, 3) := by decide +kernel
theorem dSi_order_19 : decode cSi_order 19 = .ok (.invokestatic 69, 3) := by decide +kernel
theorem dSi_order_22 : decode cSi_order 22 = .ok (.ireturn, 1) := by decide +kernel
theorem dSi_order_23 : decode cSi_order 23 = .ok (.aload_n 0, 1) := by decide +kernel
theorem dSi_order_24 : decode cSi_order 24 = .ok (.getfield 7, 3) := by decide +kernel
theorem dSi_order_27 : decode cSi_order 27 = .ok (.aload_n 1, 1) := by decide +kernel
theorem dSi_order_28 : decode cSi_order 28 = .ok (.getfield 7, 3) := by decide +kernel
theorem dSi_order_31 : decode cSi_order 31 = .ok (.lcmp, 1) := by decide +kernel
theorem dSi_order_32 : decode cSi_order 32 = .ok (.ifCond .eq 15, 3) := by decide +kernel
theorem dSi_order_35 : decode cSi_order 35 = .ok (.aload_n 0, 1) := by decide +kernel
theorem dSi_order_36 : decode cSi_order 36 = .ok (.getfield 7, 3) := by decide +kernel
theorem dSi_order_39 : decode cSi_order 39 = .ok (.aload_n 1, 1) := by decide +kernel
theorem dSi_order_40 : decode cSi_order 40 = .ok (.getfield 7, 3) := by decide +kernel
theorem dSi_order_43 : decode cSi_order 43 = .ok (.invokestatic 75, 3) := by decide +kernel
theorem dSi_order_46 : decode cSi_order 46 = .ok (.ireturn, 1) := by decide +kernel
theorem dSi_order_47 : decode cSi_order 47 = .ok (.aload_n 0, 1) := by decide +kernel
theorem dSi_order_48 : decode cSi_order 48 = .ok (.getfield 17, 3) := by decide +kernel
theorem dSi_order_51 : decode cSi_order 51 = .ok (.ifCond .eq 7, 3) := by decide +kernel
theorem dSi_order_54 : decode cSi_order 54 = .ok (.iconst 1, 1) := by decide +kernel
theorem dSi_order_55 : decode cSi_order 55 = .ok (.goto 4, 3) := by decide +kernel
theorem dSi_order_58 : decode cSi_order 58 = .ok (.iconst 0, 1) := by decide +kernel
theorem dSi_order_59 : decode cSi_order 59 = .ok (.ireturn, 1) := by decide +kernel
