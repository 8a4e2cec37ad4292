theorem d_MO_none_0 : decode b_MO_none 0 = .ok (.iload_n 1, 1) := by decide +kernel
theorem d_MO_none_1 : decode b_MO_none 1 = .ok (.ifCond .lt 9, 3) := by decide +kernel
theorem d_MO_none_4 : decode b_MO_none 4 = .ok (.iload_n 1, 1) := by decide +kernel
theorem d_MO_none_5 : decode b_MO_none 5 = .ok (.bipush 7, 2) := by decide +kernel
theorem d_MO_none_7 : decode b_MO_none 7 = .ok (.if_icmp .le 7, 3) := by decide +kernel
theorem d_MO_none_10 : decode b_MO_none 10 = .ok (.iconst 1, 1) := by decide +kernel
theorem d_MO_none_11 : decode b_MO_none 11 = .ok (.goto 4, 3) := by decide +kernel
theorem d_MO_none_14 : decode b_MO_none 14 = .ok (.iconst 0, 1) := by decide +kernel
theorem d_MO_none_15 : decode b_MO_none 15 = .ok (.ireturn, 1) := by decide +kernel
theorem d_MO_in_0 : decode b_MO_in 0 = .ok (.aload_n 0, 1) := by decide +kernel
theorem d_MO_in_1 : decode b_MO_in 1 = .ok (.getfield 8, 3) := by decide +kernel
theorem d_MO_in_4 : decode b_MO_in 4 = .ok (.iload_n 1, 1) := by decide +kernel
theorem d_MO_in_5 : decode b_MO_in 5 = .ok (.sipush 17408, 3) := by decide +kernel
theorem d_MO_in_8 : decode b_MO_in 8 = .ok (.imul, 1) := by decide +kernel
theorem d_MO_in_9 : decode b_MO_in 9 = .ok (.iload_n 2, 1) := by decide +kernel
theorem d_MO_in_10 : decode b_MO_in 10 = .ok (.bipush 6, 2) := by decide +kernel
theorem d_MO_in_12 : decode b_MO_in 12 = .ok (.ishr, 1) := by decide +kernel
theorem d_MO_in_13 : decode b_MO_in 13 = .ok (.iadd, 1) := by decide +kernel
theorem d_MO_in_14 : decode b_MO_in 14 = .ok (.laload, 1) := by decide +kernel
theorem d_MO_in_15 : decode b_MO_in 15 = .ok (.iload_n 2, 1) := by decide +kernel
theorem d_MO_in_16 : decode b_MO_in 16 = .ok (.bipush 63, 2) := by decide +kernel
theorem d_MO_in_18 : decode b_MO_in 18 = .ok (.iand, 1) := by decide +kernel
theorem d_MO_in_19 : decode b_MO_in 19 = .ok (.lshr, 1) := by decide +kernel
theorem d_MO_in_20 : decode b_MO_in 20 = .ok (.lconst 1, 1) := by decide +kernel
theorem d_MO_in_21 : decode b_MO_in 21 = .ok (.land, 1) := by decide +kernel
theorem d_MO_in_22 : decode b_MO_in 22 = .ok (.lconst 0, 1) := by decide +kernel
theorem d_MO_in_23 : decode b_MO_in 23 = .ok (.lcmp, 1) := by decide +kernel
theorem d_MO_in_24 : decode b_MO_in 24 = .ok (.ifCond .eq 7, 3) := by decide +kernel
theorem d_MO_in_27 : decode b_MO_in 27 = .ok (.iconst 1, 1) := by decide +kernel
theorem d_MO_in_28 : decode b_MO_in 28 = .ok (.goto 4, 3) := by decide +kernel
theorem d_MO_in_31 : decode b_MO_in 31 = .ok (.iconst 0, 1) := by decide +kernel
theorem d_MO_in_32 : decode b_MO_in 32 = .ok (.ireturn, 1) := by decide +kernel
theorem d_MO_put_0 : decode b_MO_put 0 = .ok (.aload_n 0, 1) := by decide +kernel
theorem d_MO_put_1 : decode b_MO_put 1 = .ok (.getfield 8, 3) := by decide +kernel
theorem d_MO_put_4 : decode b_MO_put 4 = .ok (.iload_n 1, 1) := by decide +kernel
theorem d_MO_put_5 : decode b_MO_put 5 = .ok (.sipush 17408, 3) := by decide +kernel
theorem d_MO_put_8 : decode b_MO_put 8 = .ok (.imul, 1) := by decide +kernel
theorem d_MO_put_9 : decode b_MO_put 9 = .ok (.iload_n 2, 1) := by decide +kernel
theorem d_MO_put_10 : decode b_MO_put 10 = .ok (.bipush 6, 2) := by decide +kernel
theorem d_MO_put_12 : decode b_MO_put 12 = .ok (.ishr, 1) := by decide +kernel
theorem d_MO_put_13 : decode b_MO_put 13 = .ok (.iadd, 1) := by decide +kernel
theorem d_MO_put_14 : decode b_MO_put 14 = .ok (.dup2, 1) := by decide +kernel
theorem d_MO_put_15 : decode b_MO_put 15 = .ok (.laload, 1) := by decide +kernel
theorem d_MO_put_16 : decode b_MO_put 16 = .ok (.lconst 1, 1) := by decide +kernel
theorem d_MO_put_17 : decode b_MO_put 17 = .ok (.iload_n 2, 1) := by decide +kernel
theorem d_MO_put_18 : decode b_MO_put 18 = .ok (.bipush 63, 2) := by decide +kernel
theorem d_MO_put_20 : decode b_MO_put 20 = .ok (.iand, 1) := by decide +kernel
theorem d_MO_put_21 : decode b_MO_put 21 = .ok (.lshl, 1) := by decide +kernel
theorem d_MO_put_22 : decode b_MO_put 22 = .ok (.lor, 1) := by decide +kernel
theorem d_MO_put_23 : decode b_MO_put 23 = .ok (.lastore, 1) := by decide +kernel
theorem d_MO_put_24 : decode b_MO_put 24 = .ok (.return_, 1) := by decide +kernel
theorem d_MO_fill_0 : decode b_MO_fill 0 = .ok (.iload_n 2, 1) := by decide +kernel
theorem d_MO_fill_1 : decode b_MO_fill 1 = .ok (.istore 4, 2) := by decide +kernel
theorem d_MO_fill_3 : decode b_MO_fill 3 = .ok (.iload 4, 2) := by decide +kernel
theorem d_MO_fill_5 : decode b_MO_fill 5 = .ok (.iload_n 3, 1) := by decide +kernel
theorem d_MO_fill_6 : decode b_MO_fill 6 = .ok (.if_icmp .gt 58, 3) := by decide +kernel
theorem d_MO_fill_9 : decode b_MO_fill 9 = .ok (.iload 4, 2) := by decide +kernel
theorem d_MO_fill_11 : decode b_MO_fill 11 = .ok (.bipush 63, 2) := by decide +kernel
theorem d_MO_fill_13 : decode b_MO_fill 13 = .ok (.iand, 1) := by decide +kernel
theorem d_MO_fill_14 : decode b_MO_fill 14 = .ok (.ifCond .ne 37, 3) := by decide +kernel
theorem d_MO_fill_17 : decode b_MO_fill 17 = .ok (.iload_n 3, 1) := by decide +kernel
theorem d_MO_fill_18 : decode b_MO_fill 18 = .ok (.iload 4, 2) := by decide +kernel
theorem d_MO_fill_20 : decode b_MO_fill 20 = .ok (.isub, 1) := by decide +kernel
theorem d_MO_fill_21 : decode b_MO_fill 21 = .ok (.bipush 63, 2) := by decide +kernel
theorem d_MO_fill_23 : decode b_MO_fill 23 = .ok (.if_icmp .lt 28, 3) := by decide +kernel
theorem d_MO_fill_26 : decode b_MO_fill 26 = .ok (.aload_n 0, 1) := by decide +kernel
theorem d_MO_fill_27 : decode b_MO_fill 27 = .ok (.getfield 8, 3) := by decide +kernel
theorem d_MO_fill_30 : decode b_MO_fill 30 = .ok (.iload_n 1, 1) := by decide +kernel
theorem d_MO_fill_31 : decode b_MO_fill 31 = .ok (.sipush 17408, 3) := by decide +kernel
theorem d_MO_fill_34 : decode b_MO_fill 34 = .ok (.imul, 1) := by decide +kernel
theorem d_MO_fill_35 : decode b_MO_fill 35 = .ok (.iload 4, 2) := by decide +kernel
theorem d_MO_fill_37 : decode b_MO_fill 37 = .ok (.bipush 6, 2) := by decide +kernel
theorem d_MO_fill_39 : decode b_MO_fill 39 = .ok (.ishr, 1) := by decide +kernel
theorem d_MO_fill_40 : decode b_MO_fill 40 = .ok (.iadd, 1) := by decide +kernel
theorem d_MO_fill_41 : decode b_MO_fill 41 = .ok (.ldc2_w 99, 3) := by decide +kernel
theorem d_MO_fill_44 : decode b_MO_fill 44 = .ok (.lastore, 1) := by decide +kernel
theorem d_MO_fill_45 : decode b_MO_fill 45 = .ok (.iinc 4 64, 3) := by decide +kernel
theorem d_MO_fill_48 : decode b_MO_fill 48 = .ok (.goto (-45), 3) := by decide +kernel
theorem d_MO_fill_51 : decode b_MO_fill 51 = .ok (.aload_n 0, 1) := by decide +kernel
theorem d_MO_fill_52 : decode b_MO_fill 52 = .ok (.iload_n 1, 1) := by decide +kernel
theorem d_MO_fill_53 : decode b_MO_fill 53 = .ok (.iload 4, 2) := by decide +kernel
theorem d_MO_fill_55 : decode b_MO_fill 55 = .ok (.invokevirtual 101, 3) := by decide +kernel
theorem d_MO_fill_58 : decode b_MO_fill 58 = .ok (.iinc 4 1, 3) := by decide +kernel
theorem d_MO_fill_61 : decode b_MO_fill 61 = .ok (.goto (-58), 3) := by decide +kernel
theorem d_MO_fill_64 : decode b_MO_fill 64 = .ok (.return_, 1) := by decide +kernel
theorem d_MO_ones_0 : decode b_MO_ones 0 = .ok (.lload_n 1, 1) := by decide +kernel
theorem d_MO_ones_1 : decode b_MO_ones 1 = .ok (.lload_n 1, 1) := by decide +kernel
theorem d_MO_ones_2 : decode b_MO_ones 2 = .ok (.iconst 1, 1) := by decide +kernel
theorem d_MO_ones_3 : decode b_MO_ones 3 = .ok (.lushr, 1) := by decide +kernel
theorem d_MO_ones_4 : decode b_MO_ones 4 = .ok (.ldc2_w 105, 3) := by decide +kernel
theorem d_MO_ones_7 : decode b_MO_ones 7 = .ok (.land, 1) := by decide +kernel
theorem d_MO_ones_8 : decode b_MO_ones 8 = .ok (.lsub, 1) := by decide +kernel
theorem d_MO_ones_9 : decode b_MO_ones 9 = .ok (.lstore_n 3, 1) := by decide +kernel
theorem d_MO_ones_10 : decode b_MO_ones 10 = .ok (.lload_n 3, 1) := by decide +kernel
theorem d_MO_ones_11 : decode b_MO_ones 11 = .ok (.ldc2_w 107, 3) := by decide +kernel
theorem d_MO_ones_14 : decode b_MO_ones 14 = .ok (.land, 1) := by decide +kernel
theorem d_MO_ones_15 : decode b_MO_ones 15 = .ok (.lload_n 3, 1) := by decide +kernel
theorem d_MO_ones_16 : decode b_MO_ones 16 = .ok (.iconst 2, 1) := by decide +kernel
theorem d_MO_ones_17 : decode b_MO_ones 17 = .ok (.lushr, 1) := by decide +kernel
theorem d_MO_ones_18 : decode b_MO_ones 18 = .ok (.ldc2_w 107, 3) := by decide +kernel
theorem d_MO_ones_21 : decode b_MO_ones 21 = .ok (.land, 1) := by decide +kernel
theorem d_MO_ones_22 : decode b_MO_ones 22 = .ok (.ladd, 1) := by decide +kernel
theorem d_MO_ones_23 : decode b_MO_ones 23 = .ok (.lstore_n 3, 1) := by decide +kernel
theorem d_MO_ones_24 : decode b_MO_ones 24 = .ok (.lload_n 3, 1) := by decide +kernel
theorem d_MO_ones_25 : decode b_MO_ones 25 = .ok (.lload_n 3, 1) := by decide +kernel
theorem d_MO_ones_26 : decode b_MO_ones 26 = .ok (.iconst 4, 1) := by decide +kernel
theorem d_MO_ones_27 : decode b_MO_ones 27 = .ok (.lushr, 1) := by decide +kernel
theorem d_MO_ones_28 : decode b_MO_ones 28 = .ok (.ladd, 1) := by decide +kernel
theorem d_MO_ones_29 : decode b_MO_ones 29 = .ok (.ldc2_w 109, 3) := by decide +kernel
theorem d_MO_ones_32 : decode b_MO_ones 32 = .ok (.land, 1) := by decide +kernel
theorem d_MO_ones_33 : decode b_MO_ones 33 = .ok (.lstore_n 3, 1) := by decide +kernel
theorem d_MO_ones_34 : decode b_MO_ones 34 = .ok (.lload_n 3, 1) := by decide +kernel
theorem d_MO_ones_35 : decode b_MO_ones 35 = .ok (.ldc2_w 111, 3) := by decide +kernel
theorem d_MO_ones_38 : decode b_MO_ones 38 = .ok (.lmul, 1) := by decide +kernel
theorem d_MO_ones_39 : decode b_MO_ones 39 = .ok (.bipush 56, 2) := by decide +kernel
theorem d_MO_ones_41 : decode b_MO_ones 41 = .ok (.lushr, 1) := by decide +kernel
theorem d_MO_ones_42 : decode b_MO_ones 42 = .ok (.l2i, 1) := by decide +kernel
theorem d_MO_ones_43 : decode b_MO_ones 43 = .ok (.ireturn, 1) := by decide +kernel
theorem d_MO_ranges_0 : decode b_MO_ranges 0 = .ok (.iconst 0, 1) := by decide +kernel
theorem d_MO_ranges_1 : decode b_MO_ranges 1 = .ok (.istore_n 2, 1) := by decide +kernel
theorem d_MO_ranges_2 : decode b_MO_ranges 2 = .ok (.lconst 0, 1) := by decide +kernel
theorem d_MO_ranges_3 : decode b_MO_ranges 3 = .ok (.lstore_n 3, 1) := by decide +kernel
theorem d_MO_ranges_4 : decode b_MO_ranges 4 = .ok (.iconst 0, 1) := by decide +kernel
theorem d_MO_ranges_5 : decode b_MO_ranges 5 = .ok (.istore 5, 2) := by decide +kernel
theorem d_MO_ranges_7 : decode b_MO_ranges 7 = .ok (.iload 5, 2) := by decide +kernel
theorem d_MO_ranges_9 : decode b_MO_ranges 9 = .ok (.aload_n 0, 1) := by decide +kernel
theorem d_MO_ranges_10 : decode b_MO_ranges 10 = .ok (.getfield 52, 3) := by decide +kernel
theorem d_MO_ranges_13 : decode b_MO_ranges 13 = .ok (.if_icmp .ge 50, 3) := by decide +kernel
theorem d_MO_ranges_16 : decode b_MO_ranges 16 = .ok (.aload_n 0, 1) := by decide +kernel
theorem d_MO_ranges_17 : decode b_MO_ranges 17 = .ok (.getfield 8, 3) := by decide +kernel
theorem d_MO_ranges_20 : decode b_MO_ranges 20 = .ok (.iload_n 1, 1) := by decide +kernel
theorem d_MO_ranges_21 : decode b_MO_ranges 21 = .ok (.sipush 17408, 3) := by decide +kernel
theorem d_MO_ranges_24 : decode b_MO_ranges 24 = .ok (.imul, 1) := by decide +kernel
theorem d_MO_ranges_25 : decode b_MO_ranges 25 = .ok (.iload 5, 2) := by decide +kernel
theorem d_MO_ranges_27 : decode b_MO_ranges 27 = .ok (.iadd, 1) := by decide +kernel
theorem d_MO_ranges_28 : decode b_MO_ranges 28 = .ok (.laload, 1) := by decide +kernel
theorem d_MO_ranges_29 : decode b_MO_ranges 29 = .ok (.lstore 6, 2) := by decide +kernel
theorem d_MO_ranges_31 : decode b_MO_ranges 31 = .ok (.iload_n 2, 1) := by decide +kernel
theorem d_MO_ranges_32 : decode b_MO_ranges 32 = .ok (.aload_n 0, 1) := by decide +kernel
theorem d_MO_ranges_33 : decode b_MO_ranges 33 = .ok (.lload 6, 2) := by decide +kernel
theorem d_MO_ranges_35 : decode b_MO_ranges 35 = .ok (.lload 6, 2) := by decide +kernel
theorem d_MO_ranges_37 : decode b_MO_ranges 37 = .ok (.iconst 1, 1) := by decide +kernel
theorem d_MO_ranges_38 : decode b_MO_ranges 38 = .ok (.lshl, 1) := by decide +kernel
theorem d_MO_ranges_39 : decode b_MO_ranges 39 = .ok (.lload_n 3, 1) := by decide +kernel
theorem d_MO_ranges_40 : decode b_MO_ranges 40 = .ok (.lor, 1) := by decide +kernel
theorem d_MO_ranges_41 : decode b_MO_ranges 41 = .ok (.ldc2_w 99, 3) := by decide +kernel
theorem d_MO_ranges_44 : decode b_MO_ranges 44 = .ok (.lxor, 1) := by decide +kernel
theorem d_MO_ranges_45 : decode b_MO_ranges 45 = .ok (.land, 1) := by decide +kernel
theorem d_MO_ranges_46 : decode b_MO_ranges 46 = .ok (.invokevirtual 113, 3) := by decide +kernel
theorem d_MO_ranges_49 : decode b_MO_ranges 49 = .ok (.iadd, 1) := by decide +kernel
theorem d_MO_ranges_50 : decode b_MO_ranges 50 = .ok (.istore_n 2, 1) := by decide +kernel
theorem d_MO_ranges_51 : decode b_MO_ranges 51 = .ok (.lload 6, 2) := by decide +kernel
theorem d_MO_ranges_53 : decode b_MO_ranges 53 = .ok (.bipush 63, 2) := by decide +kernel
theorem d_MO_ranges_55 : decode b_MO_ranges 55 = .ok (.lushr, 1) := by decide +kernel
theorem d_MO_ranges_56 : decode b_MO_ranges 56 = .ok (.lstore_n 3, 1) := by decide +kernel
theorem d_MO_ranges_57 : decode b_MO_ranges 57 = .ok (.iinc 5 1, 3) := by decide +kernel
theorem d_MO_ranges_60 : decode b_MO_ranges 60 = .ok (.goto (-53), 3) := by decide +kernel
theorem d_MO_ranges_63 : decode b_MO_ranges 63 = .ok (.iload_n 2, 1) := by decide +kernel
theorem d_MO_ranges_64 : decode b_MO_ranges 64 = .ok (.ireturn, 1) := by decide +kernel
theorem d_MO_clear_0 : decode b_MO_clear 0 = .ok (.aload_n 0, 1) := by decide +kernel
theorem d_MO_clear_1 : decode b_MO_clear 1 = .ok (.iload_n 1, 1) := by decide +kernel
theorem d_MO_clear_2 : decode b_MO_clear 2 = .ok (.invokevirtual 117, 3) := by decide +kernel
theorem d_MO_clear_5 : decode b_MO_clear 5 = .ok (.ifCond .eq 6, 3) := by decide +kernel
theorem d_MO_clear_8 : decode b_MO_clear 8 = .ok (.bipush (-2), 2) := by decide +kernel
theorem d_MO_clear_10 : decode b_MO_clear 10 = .ok (.ireturn, 1) := by decide +kernel
theorem d_MO_clear_11 : decode b_MO_clear 11 = .ok (.iconst 0, 1) := by decide +kernel
theorem d_MO_clear_12 : decode b_MO_clear 12 = .ok (.istore_n 2, 1) := by decide +kernel
theorem d_MO_clear_13 : decode b_MO_clear 13 = .ok (.iload_n 2, 1) := by decide +kernel
theorem d_MO_clear_14 : decode b_MO_clear 14 = .ok (.aload_n 0, 1) := by decide +kernel
theorem d_MO_clear_15 : decode b_MO_clear 15 = .ok (.getfield 52, 3) := by decide +kernel
theorem d_MO_clear_18 : decode b_MO_clear 18 = .ok (.if_icmp .ge 22, 3) := by decide +kernel
theorem d_MO_clear_21 : decode b_MO_clear 21 = .ok (.aload_n 0, 1) := by decide +kernel
theorem d_MO_clear_22 : decode b_MO_clear 22 = .ok (.getfield 8, 3) := by decide +kernel
theorem d_MO_clear_25 : decode b_MO_clear 25 = .ok (.iload_n 1, 1) := by decide +kernel
theorem d_MO_clear_26 : decode b_MO_clear 26 = .ok (.sipush 17408, 3) := by decide +kernel
theorem d_MO_clear_29 : decode b_MO_clear 29 = .ok (.imul, 1) := by decide +kernel
theorem d_MO_clear_30 : decode b_MO_clear 30 = .ok (.iload_n 2, 1) := by decide +kernel
theorem d_MO_clear_31 : decode b_MO_clear 31 = .ok (.iadd, 1) := by decide +kernel
theorem d_MO_clear_32 : decode b_MO_clear 32 = .ok (.lconst 0, 1) := by decide +kernel
theorem d_MO_clear_33 : decode b_MO_clear 33 = .ok (.lastore, 1) := by decide +kernel
theorem d_MO_clear_34 : decode b_MO_clear 34 = .ok (.iinc 2 1, 3) := by decide +kernel
theorem d_MO_clear_37 : decode b_MO_clear 37 = .ok (.goto (-24), 3) := by decide +kernel
theorem d_MO_clear_40 : decode b_MO_clear 40 = .ok (.iconst 0, 1) := by decide +kernel
theorem d_MO_clear_41 : decode b_MO_clear 41 = .ok (.ireturn, 1) := by decide +kernel
theorem d_MO_range_0 : decode b_MO_range 0 = .ok (.aload_n 0, 1) := by decide +kernel
theorem d_MO_range_1 : decode b_MO_range 1 = .ok (.iload_n 1, 1) := by decide +kernel
theorem d_MO_range_2 : decode b_MO_range 2 = .ok (.invokevirtual 117, 3) := by decide +kernel
theorem d_MO_range_5 : decode b_MO_range 5 = .ok (.ifCond .ne 20, 3) := by decide +kernel
theorem d_MO_range_8 : decode b_MO_range 8 = .ok (.iload_n 2, 1) := by decide +kernel
theorem d_MO_range_9 : decode b_MO_range 9 = .ok (.ifCond .lt 16, 3) := by decide +kernel
theorem d_MO_range_12 : decode b_MO_range 12 = .ok (.iload_n 2, 1) := by decide +kernel
theorem d_MO_range_13 : decode b_MO_range 13 = .ok (.iload_n 3, 1) := by decide +kernel
theorem d_MO_range_14 : decode b_MO_range 14 = .ok (.if_icmp .gt 11, 3) := by decide +kernel
theorem d_MO_range_17 : decode b_MO_range 17 = .ok (.iload_n 3, 1) := by decide +kernel
theorem d_MO_range_18 : decode b_MO_range 18 = .ok (.aload_n 0, 1) := by decide +kernel
theorem d_MO_range_19 : decode b_MO_range 19 = .ok (.getfield 49, 3) := by decide +kernel
theorem d_MO_range_22 : decode b_MO_range 22 = .ok (.if_icmp .le 6, 3) := by decide +kernel
theorem d_MO_range_25 : decode b_MO_range 25 = .ok (.bipush (-2), 2) := by decide +kernel
theorem d_MO_range_27 : decode b_MO_range 27 = .ok (.ireturn, 1) := by decide +kernel
theorem d_MO_range_28 : decode b_MO_range 28 = .ok (.aload_n 0, 1) := by decide +kernel
theorem d_MO_range_29 : decode b_MO_range 29 = .ok (.iload_n 1, 1) := by decide +kernel
theorem d_MO_range_30 : decode b_MO_range 30 = .ok (.iload_n 2, 1) := by decide +kernel
theorem d_MO_range_31 : decode b_MO_range 31 = .ok (.iload_n 3, 1) := by decide +kernel
theorem d_MO_range_32 : decode b_MO_range 32 = .ok (.invokevirtual 121, 3) := by decide +kernel
theorem d_MO_range_35 : decode b_MO_range 35 = .ok (.aload_n 0, 1) := by decide +kernel
theorem d_MO_range_36 : decode b_MO_range 36 = .ok (.iload_n 1, 1) := by decide +kernel
theorem d_MO_range_37 : decode b_MO_range 37 = .ok (.invokevirtual 124, 3) := by decide +kernel
theorem d_MO_range_40 : decode b_MO_range 40 = .ok (.ireturn, 1) := by decide +kernel
theorem d_MO_holds_0 : decode b_MO_holds 0 = .ok (.aload_n 0, 1) := by decide +kernel
theorem d_MO_holds_1 : decode b_MO_holds 1 = .ok (.iload_n 2, 1) := by decide +kernel
theorem d_MO_holds_2 : decode b_MO_holds 2 = .ok (.invokevirtual 75, 3) := by decide +kernel
theorem d_MO_holds_5 : decode b_MO_holds 5 = .ok (.istore_n 3, 1) := by decide +kernel
theorem d_MO_holds_6 : decode b_MO_holds 6 = .ok (.iload_n 1, 1) := by decide +kernel
theorem d_MO_holds_7 : decode b_MO_holds 7 = .ok (.bipush 25, 2) := by decide +kernel
theorem d_MO_holds_9 : decode b_MO_holds 9 = .ok (.if_icmp .ge 14, 3) := by decide +kernel
theorem d_MO_holds_12 : decode b_MO_holds 12 = .ok (.iload_n 3, 1) := by decide +kernel
theorem d_MO_holds_13 : decode b_MO_holds 13 = .ok (.iload_n 1, 1) := by decide +kernel
theorem d_MO_holds_14 : decode b_MO_holds 14 = .ok (.if_icmp .ne 7, 3) := by decide +kernel
theorem d_MO_holds_17 : decode b_MO_holds 17 = .ok (.iconst 1, 1) := by decide +kernel
theorem d_MO_holds_18 : decode b_MO_holds 18 = .ok (.goto 4, 3) := by decide +kernel
theorem d_MO_holds_21 : decode b_MO_holds 21 = .ok (.iconst 0, 1) := by decide +kernel
theorem d_MO_holds_22 : decode b_MO_holds 22 = .ok (.ireturn, 1) := by decide +kernel
theorem d_MO_holds_23 : decode b_MO_holds 23 = .ok (.iload_n 1, 1) := by decide +kernel
theorem d_MO_holds_24 : decode b_MO_holds 24 = .ok (.bipush 32, 2) := by decide +kernel
theorem d_MO_holds_26 : decode b_MO_holds 26 = .ok (.if_icmp .ge 13, 3) := by decide +kernel
theorem d_MO_holds_29 : decode b_MO_holds 29 = .ok (.aload_n 0, 1) := by decide +kernel
theorem d_MO_holds_30 : decode b_MO_holds 30 = .ok (.iload_n 1, 1) := by decide +kernel
theorem d_MO_holds_31 : decode b_MO_holds 31 = .ok (.bipush 25, 2) := by decide +kernel
theorem d_MO_holds_33 : decode b_MO_holds 33 = .ok (.isub, 1) := by decide +kernel
theorem d_MO_holds_34 : decode b_MO_holds 34 = .ok (.iload_n 3, 1) := by decide +kernel
theorem d_MO_holds_35 : decode b_MO_holds 35 = .ok (.invokevirtual 127, 3) := by decide +kernel
theorem d_MO_holds_38 : decode b_MO_holds 38 = .ok (.ireturn, 1) := by decide +kernel
theorem d_MO_holds_39 : decode b_MO_holds 39 = .ok (.iload_n 1, 1) := by decide +kernel
theorem d_MO_holds_40 : decode b_MO_holds 40 = .ok (.bipush 44, 2) := by decide +kernel
theorem d_MO_holds_42 : decode b_MO_holds 42 = .ok (.if_icmp .ge 21, 3) := by decide +kernel
theorem d_MO_holds_45 : decode b_MO_holds 45 = .ok (.aload_n 0, 1) := by decide +kernel
theorem d_MO_holds_46 : decode b_MO_holds 46 = .ok (.iload_n 2, 1) := by decide +kernel
theorem d_MO_holds_47 : decode b_MO_holds 47 = .ok (.invokevirtual 131, 3) := by decide +kernel
theorem d_MO_holds_50 : decode b_MO_holds 50 = .ok (.iload_n 1, 1) := by decide +kernel
theorem d_MO_holds_51 : decode b_MO_holds 51 = .ok (.bipush 32, 2) := by decide +kernel
theorem d_MO_holds_53 : decode b_MO_holds 53 = .ok (.isub, 1) := by decide +kernel
theorem d_MO_holds_54 : decode b_MO_holds 54 = .ok (.if_icmp .ne 7, 3) := by decide +kernel
theorem d_MO_holds_57 : decode b_MO_holds 57 = .ok (.iconst 1, 1) := by decide +kernel
theorem d_MO_holds_58 : decode b_MO_holds 58 = .ok (.goto 4, 3) := by decide +kernel
theorem d_MO_holds_61 : decode b_MO_holds 61 = .ok (.iconst 0, 1) := by decide +kernel
theorem d_MO_holds_62 : decode b_MO_holds 62 = .ok (.ireturn, 1) := by decide +kernel
theorem d_MO_holds_63 : decode b_MO_holds 63 = .ok (.iload_n 1, 1) := by decide +kernel
theorem d_MO_holds_64 : decode b_MO_holds 64 = .ok (.bipush 44, 2) := by decide +kernel
theorem d_MO_holds_66 : decode b_MO_holds 66 = .ok (.if_icmp .ne 5, 3) := by decide +kernel
theorem d_MO_holds_69 : decode b_MO_holds 69 = .ok (.iconst 1, 1) := by decide +kernel
theorem d_MO_holds_70 : decode b_MO_holds 70 = .ok (.ireturn, 1) := by decide +kernel
theorem d_MO_holds_71 : decode b_MO_holds 71 = .ok (.iload_n 1, 1) := by decide +kernel
theorem d_MO_holds_72 : decode b_MO_holds 72 = .ok (.bipush 45, 2) := by decide +kernel
theorem d_MO_holds_74 : decode b_MO_holds 74 = .ok (.if_icmp .ne 20, 3) := by decide +kernel
theorem d_MO_holds_77 : decode b_MO_holds 77 = .ok (.iload_n 3, 1) := by decide +kernel
theorem d_MO_holds_78 : decode b_MO_holds 78 = .ok (.iconst 4, 1) := by decide +kernel
theorem d_MO_holds_79 : decode b_MO_holds 79 = .ok (.if_icmp .eq 9, 3) := by decide +kernel
theorem d_MO_holds_82 : decode b_MO_holds 82 = .ok (.iload_n 3, 1) := by decide +kernel
theorem d_MO_holds_83 : decode b_MO_holds 83 = .ok (.bipush 6, 2) := by decide +kernel
theorem d_MO_holds_85 : decode b_MO_holds 85 = .ok (.if_icmp .ne 7, 3) := by decide +kernel
theorem d_MO_holds_88 : decode b_MO_holds 88 = .ok (.iconst 1, 1) := by decide +kernel
theorem d_MO_holds_89 : decode b_MO_holds 89 = .ok (.goto 4, 3) := by decide +kernel
theorem d_MO_holds_92 : decode b_MO_holds 92 = .ok (.iconst 0, 1) := by decide +kernel
theorem d_MO_holds_93 : decode b_MO_holds 93 = .ok (.ireturn, 1) := by decide +kernel
theorem d_MO_holds_94 : decode b_MO_holds 94 = .ok (.iload_n 1, 1) := by decide +kernel
theorem d_MO_holds_95 : decode b_MO_holds 95 = .ok (.bipush 46, 2) := by decide +kernel
theorem d_MO_holds_97 : decode b_MO_holds 97 = .ok (.if_icmp .ne 27, 3) := by decide +kernel
theorem d_MO_holds_100 : decode b_MO_holds 100 = .ok (.aload_n 0, 1) := by decide +kernel
theorem d_MO_holds_101 : decode b_MO_holds 101 = .ok (.iconst 1, 1) := by decide +kernel
theorem d_MO_holds_102 : decode b_MO_holds 102 = .ok (.iload_n 3, 1) := by decide +kernel
theorem d_MO_holds_103 : decode b_MO_holds 103 = .ok (.invokevirtual 127, 3) := by decide +kernel
theorem d_MO_holds_106 : decode b_MO_holds 106 = .ok (.ifCond .ne 12, 3) := by decide +kernel
theorem d_MO_holds_109 : decode b_MO_holds 109 = .ok (.aload_n 0, 1) := by decide +kernel
theorem d_MO_holds_110 : decode b_MO_holds 110 = .ok (.iconst 3, 1) := by decide +kernel
theorem d_MO_holds_111 : decode b_MO_holds 111 = .ok (.iload_n 3, 1) := by decide +kernel
theorem d_MO_holds_112 : decode b_MO_holds 112 = .ok (.invokevirtual 127, 3) := by decide +kernel
theorem d_MO_holds_115 : decode b_MO_holds 115 = .ok (.ifCond .eq 7, 3) := by decide +kernel
theorem d_MO_holds_118 : decode b_MO_holds 118 = .ok (.iconst 1, 1) := by decide +kernel
theorem d_MO_holds_119 : decode b_MO_holds 119 = .ok (.goto 4, 3) := by decide +kernel
theorem d_MO_holds_122 : decode b_MO_holds 122 = .ok (.iconst 0, 1) := by decide +kernel
theorem d_MO_holds_123 : decode b_MO_holds 123 = .ok (.ireturn, 1) := by decide +kernel
theorem d_MO_holds_124 : decode b_MO_holds 124 = .ok (.iload_n 1, 1) := by decide +kernel
theorem d_MO_holds_125 : decode b_MO_holds 125 = .ok (.bipush 47, 2) := by decide +kernel
theorem d_MO_holds_127 : decode b_MO_holds 127 = .ok (.if_icmp .ne 33, 3) := by decide +kernel
theorem d_MO_holds_130 : decode b_MO_holds 130 = .ok (.aload_n 0, 1) := by decide +kernel
theorem d_MO_holds_131 : decode b_MO_holds 131 = .ok (.iconst 1, 1) := by decide +kernel
theorem d_MO_holds_132 : decode b_MO_holds 132 = .ok (.iload_n 3, 1) := by decide +kernel
theorem d_MO_holds_133 : decode b_MO_holds 133 = .ok (.invokevirtual 127, 3) := by decide +kernel
theorem d_MO_holds_136 : decode b_MO_holds 136 = .ok (.ifCond .ne 18, 3) := by decide +kernel
theorem d_MO_holds_139 : decode b_MO_holds 139 = .ok (.aload_n 0, 1) := by decide +kernel
theorem d_MO_holds_140 : decode b_MO_holds 140 = .ok (.iconst 3, 1) := by decide +kernel
theorem d_MO_holds_141 : decode b_MO_holds 141 = .ok (.iload_n 3, 1) := by decide +kernel
theorem d_MO_holds_142 : decode b_MO_holds 142 = .ok (.invokevirtual 127, 3) := by decide +kernel
theorem d_MO_holds_145 : decode b_MO_holds 145 = .ok (.ifCond .ne 9, 3) := by decide +kernel
theorem d_MO_holds_148 : decode b_MO_holds 148 = .ok (.iload_n 2, 1) := by decide +kernel
theorem d_MO_holds_149 : decode b_MO_holds 149 = .ok (.bipush 95, 2) := by decide +kernel
theorem d_MO_holds_151 : decode b_MO_holds 151 = .ok (.if_icmp .ne 7, 3) := by decide +kernel
theorem d_MO_holds_154 : decode b_MO_holds 154 = .ok (.iconst 1, 1) := by decide +kernel
theorem d_MO_holds_155 : decode b_MO_holds 155 = .ok (.goto 4, 3) := by decide +kernel
theorem d_MO_holds_158 : decode b_MO_holds 158 = .ok (.iconst 0, 1) := by decide +kernel
theorem d_MO_holds_159 : decode b_MO_holds 159 = .ok (.ireturn, 1) := by decide +kernel
theorem d_MO_holds_160 : decode b_MO_holds 160 = .ok (.iload_n 2, 1) := by decide +kernel
theorem d_MO_holds_161 : decode b_MO_holds 161 = .ok (.bipush 9, 2) := by decide +kernel
theorem d_MO_holds_163 : decode b_MO_holds 163 = .ok (.if_icmp .lt 9, 3) := by decide +kernel
theorem d_MO_holds_166 : decode b_MO_holds 166 = .ok (.iload_n 2, 1) := by decide +kernel
theorem d_MO_holds_167 : decode b_MO_holds 167 = .ok (.bipush 13, 2) := by decide +kernel
theorem d_MO_holds_169 : decode b_MO_holds 169 = .ok (.if_icmp .le 20, 3) := by decide +kernel
theorem d_MO_holds_172 : decode b_MO_holds 172 = .ok (.iload_n 2, 1) := by decide +kernel
theorem d_MO_holds_173 : decode b_MO_holds 173 = .ok (.sipush 133, 3) := by decide +kernel
theorem d_MO_holds_176 : decode b_MO_holds 176 = .ok (.if_icmp .eq 13, 3) := by decide +kernel
theorem d_MO_holds_179 : decode b_MO_holds 179 = .ok (.aload_n 0, 1) := by decide +kernel
theorem d_MO_holds_180 : decode b_MO_holds 180 = .ok (.bipush 6, 2) := by decide +kernel
theorem d_MO_holds_182 : decode b_MO_holds 182 = .ok (.iload_n 3, 1) := by decide +kernel
theorem d_MO_holds_183 : decode b_MO_holds 183 = .ok (.invokevirtual 127, 3) := by decide +kernel
theorem d_MO_holds_186 : decode b_MO_holds 186 = .ok (.ifCond .eq 7, 3) := by decide +kernel
theorem d_MO_holds_189 : decode b_MO_holds 189 = .ok (.iconst 1, 1) := by decide +kernel
theorem d_MO_holds_190 : decode b_MO_holds 190 = .ok (.goto 4, 3) := by decide +kernel
theorem d_MO_holds_193 : decode b_MO_holds 193 = .ok (.iconst 0, 1) := by decide +kernel
theorem d_MO_holds_194 : decode b_MO_holds 194 = .ok (.ireturn, 1) := by decide +kernel
theorem d_MO_general_0 : decode b_MO_general 0 = .ok (.iload_n 1, 1) := by decide +kernel
theorem d_MO_general_1 : decode b_MO_general 1 = .ok (.ifCond .ne 14, 3) := by decide +kernel
theorem d_MO_general_4 : decode b_MO_general 4 = .ok (.iload_n 2, 1) := by decide +kernel
theorem d_MO_general_5 : decode b_MO_general 5 = .ok (.iconst 4, 1) := by decide +kernel
theorem d_MO_general_6 : decode b_MO_general 6 = .ok (.if_icmp .ge 7, 3) := by decide +kernel
theorem d_MO_general_9 : decode b_MO_general 9 = .ok (.iconst 1, 1) := by decide +kernel
theorem d_MO_general_10 : decode b_MO_general 10 = .ok (.goto 4, 3) := by decide +kernel
theorem d_MO_general_13 : decode b_MO_general 13 = .ok (.iconst 0, 1) := by decide +kernel
theorem d_MO_general_14 : decode b_MO_general 14 = .ok (.ireturn, 1) := by decide +kernel
theorem d_MO_general_15 : decode b_MO_general 15 = .ok (.iload_n 1, 1) := by decide +kernel
theorem d_MO_general_16 : decode b_MO_general 16 = .ok (.iconst 1, 1) := by decide +kernel
theorem d_MO_general_17 : decode b_MO_general 17 = .ok (.if_icmp .ne 20, 3) := by decide +kernel
theorem d_MO_general_20 : decode b_MO_general 20 = .ok (.iload_n 2, 1) := by decide +kernel
theorem d_MO_general_21 : decode b_MO_general 21 = .ok (.iconst 4, 1) := by decide +kernel
theorem d_MO_general_22 : decode b_MO_general 22 = .ok (.if_icmp .lt 13, 3) := by decide +kernel
theorem d_MO_general_25 : decode b_MO_general 25 = .ok (.iload_n 2, 1) := by decide +kernel
theorem d_MO_general_26 : decode b_MO_general 26 = .ok (.bipush 7, 2) := by decide +kernel
theorem d_MO_general_28 : decode b_MO_general 28 = .ok (.if_icmp .ge 7, 3) := by decide +kernel
theorem d_MO_general_31 : decode b_MO_general 31 = .ok (.iconst 1, 1) := by decide +kernel
theorem d_MO_general_32 : decode b_MO_general 32 = .ok (.goto 4, 3) := by decide +kernel
theorem d_MO_general_35 : decode b_MO_general 35 = .ok (.iconst 0, 1) := by decide +kernel
theorem d_MO_general_36 : decode b_MO_general 36 = .ok (.ireturn, 1) := by decide +kernel
theorem d_MO_general_37 : decode b_MO_general 37 = .ok (.iload_n 1, 1) := by decide +kernel
theorem d_MO_general_38 : decode b_MO_general 38 = .ok (.iconst 2, 1) := by decide +kernel
theorem d_MO_general_39 : decode b_MO_general 39 = .ok (.if_icmp .ne 15, 3) := by decide +kernel
theorem d_MO_general_42 : decode b_MO_general 42 = .ok (.iload_n 2, 1) := by decide +kernel
theorem d_MO_general_43 : decode b_MO_general 43 = .ok (.bipush 7, 2) := by decide +kernel
theorem d_MO_general_45 : decode b_MO_general 45 = .ok (.if_icmp .ne 7, 3) := by decide +kernel
theorem d_MO_general_48 : decode b_MO_general 48 = .ok (.iconst 1, 1) := by decide +kernel
theorem d_MO_general_49 : decode b_MO_general 49 = .ok (.goto 4, 3) := by decide +kernel
theorem d_MO_general_52 : decode b_MO_general 52 = .ok (.iconst 0, 1) := by decide +kernel
theorem d_MO_general_53 : decode b_MO_general 53 = .ok (.ireturn, 1) := by decide +kernel
theorem d_MO_general_54 : decode b_MO_general 54 = .ok (.iload_n 1, 1) := by decide +kernel
theorem d_MO_general_55 : decode b_MO_general 55 = .ok (.iconst 3, 1) := by decide +kernel
theorem d_MO_general_56 : decode b_MO_general 56 = .ok (.if_icmp .ne 21, 3) := by decide +kernel
theorem d_MO_general_59 : decode b_MO_general 59 = .ok (.iload_n 2, 1) := by decide +kernel
theorem d_MO_general_60 : decode b_MO_general 60 = .ok (.bipush 8, 2) := by decide +kernel
theorem d_MO_general_62 : decode b_MO_general 62 = .ok (.if_icmp .lt 13, 3) := by decide +kernel
theorem d_MO_general_65 : decode b_MO_general 65 = .ok (.iload_n 2, 1) := by decide +kernel
theorem d_MO_general_66 : decode b_MO_general 66 = .ok (.bipush 11, 2) := by decide +kernel
theorem d_MO_general_68 : decode b_MO_general 68 = .ok (.if_icmp .ge 7, 3) := by decide +kernel
theorem d_MO_general_71 : decode b_MO_general 71 = .ok (.iconst 1, 1) := by decide +kernel
theorem d_MO_general_72 : decode b_MO_general 72 = .ok (.goto 4, 3) := by decide +kernel
theorem d_MO_general_75 : decode b_MO_general 75 = .ok (.iconst 0, 1) := by decide +kernel
theorem d_MO_general_76 : decode b_MO_general 76 = .ok (.ireturn, 1) := by decide +kernel
theorem d_MO_general_77 : decode b_MO_general 77 = .ok (.iload_n 1, 1) := by decide +kernel
theorem d_MO_general_78 : decode b_MO_general 78 = .ok (.iconst 4, 1) := by decide +kernel
theorem d_MO_general_79 : decode b_MO_general 79 = .ok (.if_icmp .ne 21, 3) := by decide +kernel
theorem d_MO_general_82 : decode b_MO_general 82 = .ok (.iload_n 2, 1) := by decide +kernel
theorem d_MO_general_83 : decode b_MO_general 83 = .ok (.bipush 11, 2) := by decide +kernel
theorem d_MO_general_85 : decode b_MO_general 85 = .ok (.if_icmp .lt 13, 3) := by decide +kernel
theorem d_MO_general_88 : decode b_MO_general 88 = .ok (.iload_n 2, 1) := by decide +kernel
theorem d_MO_general_89 : decode b_MO_general 89 = .ok (.bipush 18, 2) := by decide +kernel
theorem d_MO_general_91 : decode b_MO_general 91 = .ok (.if_icmp .ge 7, 3) := by decide +kernel
theorem d_MO_general_94 : decode b_MO_general 94 = .ok (.iconst 1, 1) := by decide +kernel
theorem d_MO_general_95 : decode b_MO_general 95 = .ok (.goto 4, 3) := by decide +kernel
theorem d_MO_general_98 : decode b_MO_general 98 = .ok (.iconst 0, 1) := by decide +kernel
theorem d_MO_general_99 : decode b_MO_general 99 = .ok (.ireturn, 1) := by decide +kernel
theorem d_MO_general_100 : decode b_MO_general 100 = .ok (.iload_n 1, 1) := by decide +kernel
theorem d_MO_general_101 : decode b_MO_general 101 = .ok (.iconst 5, 1) := by decide +kernel
theorem d_MO_general_102 : decode b_MO_general 102 = .ok (.if_icmp .ne 21, 3) := by decide +kernel
theorem d_MO_general_105 : decode b_MO_general 105 = .ok (.iload_n 2, 1) := by decide +kernel
theorem d_MO_general_106 : decode b_MO_general 106 = .ok (.bipush 18, 2) := by decide +kernel
theorem d_MO_general_108 : decode b_MO_general 108 = .ok (.if_icmp .lt 13, 3) := by decide +kernel
theorem d_MO_general_111 : decode b_MO_general 111 = .ok (.iload_n 2, 1) := by decide +kernel
theorem d_MO_general_112 : decode b_MO_general 112 = .ok (.bipush 22, 2) := by decide +kernel
theorem d_MO_general_114 : decode b_MO_general 114 = .ok (.if_icmp .ge 7, 3) := by decide +kernel
theorem d_MO_general_117 : decode b_MO_general 117 = .ok (.iconst 1, 1) := by decide +kernel
theorem d_MO_general_118 : decode b_MO_general 118 = .ok (.goto 4, 3) := by decide +kernel
theorem d_MO_general_121 : decode b_MO_general 121 = .ok (.iconst 0, 1) := by decide +kernel
theorem d_MO_general_122 : decode b_MO_general 122 = .ok (.ireturn, 1) := by decide +kernel
theorem d_MO_general_123 : decode b_MO_general 123 = .ok (.iload_n 2, 1) := by decide +kernel
theorem d_MO_general_124 : decode b_MO_general 124 = .ok (.bipush 22, 2) := by decide +kernel
theorem d_MO_general_126 : decode b_MO_general 126 = .ok (.if_icmp .lt 7, 3) := by decide +kernel
theorem d_MO_general_129 : decode b_MO_general 129 = .ok (.iconst 1, 1) := by decide +kernel
theorem d_MO_general_130 : decode b_MO_general 130 = .ok (.goto 4, 3) := by decide +kernel
theorem d_MO_general_133 : decode b_MO_general 133 = .ok (.iconst 0, 1) := by decide +kernel
theorem d_MO_general_134 : decode b_MO_general 134 = .ok (.ireturn, 1) := by decide +kernel
theorem d_MO_property_0 : decode b_MO_property 0 = .ok (.aload_n 0, 1) := by decide +kernel
theorem d_MO_property_1 : decode b_MO_property 1 = .ok (.iload_n 1, 1) := by decide +kernel
theorem d_MO_property_2 : decode b_MO_property 2 = .ok (.invokevirtual 117, 3) := by decide +kernel
theorem d_MO_property_5 : decode b_MO_property 5 = .ok (.ifCond .ne 13, 3) := by decide +kernel
theorem d_MO_property_8 : decode b_MO_property 8 = .ok (.iload_n 2, 1) := by decide +kernel
theorem d_MO_property_9 : decode b_MO_property 9 = .ok (.ifCond .lt 9, 3) := by decide +kernel
theorem d_MO_property_12 : decode b_MO_property 12 = .ok (.iload_n 2, 1) := by decide +kernel
theorem d_MO_property_13 : decode b_MO_property 13 = .ok (.bipush 48, 2) := by decide +kernel
theorem d_MO_property_15 : decode b_MO_property 15 = .ok (.if_icmp .le 6, 3) := by decide +kernel
theorem d_MO_property_18 : decode b_MO_property 18 = .ok (.bipush (-2), 2) := by decide +kernel
theorem d_MO_property_20 : decode b_MO_property 20 = .ok (.ireturn, 1) := by decide +kernel
theorem d_MO_property_21 : decode b_MO_property 21 = .ok (.iload 4, 2) := by decide +kernel
theorem d_MO_property_23 : decode b_MO_property 23 = .ok (.ifCond .eq 19, 3) := by decide +kernel
theorem d_MO_property_26 : decode b_MO_property 26 = .ok (.iload_n 2, 1) := by decide +kernel
theorem d_MO_property_27 : decode b_MO_property 27 = .ok (.iconst 4, 1) := by decide +kernel
theorem d_MO_property_28 : decode b_MO_property 28 = .ok (.if_icmp .eq 9, 3) := by decide +kernel
theorem d_MO_property_31 : decode b_MO_property 31 = .ok (.iload_n 2, 1) := by decide +kernel
theorem d_MO_property_32 : decode b_MO_property 32 = .ok (.bipush 6, 2) := by decide +kernel
theorem d_MO_property_34 : decode b_MO_property 34 = .ok (.if_icmp .ne 8, 3) := by decide +kernel
theorem d_MO_property_37 : decode b_MO_property 37 = .ok (.bipush 45, 2) := by decide +kernel
theorem d_MO_property_39 : decode b_MO_property 39 = .ok (.goto 4, 3) := by decide +kernel
theorem d_MO_property_42 : decode b_MO_property 42 = .ok (.iload_n 2, 1) := by decide +kernel
theorem d_MO_property_43 : decode b_MO_property 43 = .ok (.istore 5, 2) := by decide +kernel
theorem d_MO_property_45 : decode b_MO_property 45 = .ok (.aload_n 0, 1) := by decide +kernel
theorem d_MO_property_46 : decode b_MO_property 46 = .ok (.getfield 49, 3) := by decide +kernel
theorem d_MO_property_49 : decode b_MO_property 49 = .ok (.sipush 12544, 3) := by decide +kernel
theorem d_MO_property_52 : decode b_MO_property 52 = .ok (.if_icmp .ge 12, 3) := by decide +kernel
theorem d_MO_property_55 : decode b_MO_property 55 = .ok (.aload_n 0, 1) := by decide +kernel
theorem d_MO_property_56 : decode b_MO_property 56 = .ok (.getfield 49, 3) := by decide +kernel
theorem d_MO_property_59 : decode b_MO_property 59 = .ok (.iconst 1, 1) := by decide +kernel
theorem d_MO_property_60 : decode b_MO_property 60 = .ok (.iadd, 1) := by decide +kernel
theorem d_MO_property_61 : decode b_MO_property 61 = .ok (.goto 6, 3) := by decide +kernel
theorem d_MO_property_64 : decode b_MO_property 64 = .ok (.sipush 12544, 3) := by decide +kernel
theorem d_MO_property_67 : decode b_MO_property 67 = .ok (.istore 6, 2) := by decide +kernel
theorem d_MO_property_69 : decode b_MO_property 69 = .ok (.iconst 0, 1) := by decide +kernel
theorem d_MO_property_70 : decode b_MO_property 70 = .ok (.istore 7, 2) := by decide +kernel
theorem d_MO_property_72 : decode b_MO_property 72 = .ok (.iload 7, 2) := by decide +kernel
theorem d_MO_property_74 : decode b_MO_property 74 = .ok (.iload 6, 2) := by decide +kernel
theorem d_MO_property_76 : decode b_MO_property 76 = .ok (.if_icmp .ge 28, 3) := by decide +kernel
theorem d_MO_property_79 : decode b_MO_property 79 = .ok (.aload_n 0, 1) := by decide +kernel
theorem d_MO_property_80 : decode b_MO_property 80 = .ok (.iload 5, 2) := by decide +kernel
theorem d_MO_property_82 : decode b_MO_property 82 = .ok (.iload 7, 2) := by decide +kernel
theorem d_MO_property_84 : decode b_MO_property 84 = .ok (.invokevirtual 134, 3) := by decide +kernel
theorem d_MO_property_87 : decode b_MO_property 87 = .ok (.iload_n 3, 1) := by decide +kernel
theorem d_MO_property_88 : decode b_MO_property 88 = .ok (.if_icmp .eq 10, 3) := by decide +kernel
theorem d_MO_property_91 : decode b_MO_property 91 = .ok (.aload_n 0, 1) := by decide +kernel
theorem d_MO_property_92 : decode b_MO_property 92 = .ok (.iload_n 1, 1) := by decide +kernel
theorem d_MO_property_93 : decode b_MO_property 93 = .ok (.iload 7, 2) := by decide +kernel
theorem d_MO_property_95 : decode b_MO_property 95 = .ok (.invokevirtual 101, 3) := by decide +kernel
theorem d_MO_property_98 : decode b_MO_property 98 = .ok (.iinc 7 1, 3) := by decide +kernel
theorem d_MO_property_101 : decode b_MO_property 101 = .ok (.goto (-29), 3) := by decide +kernel
theorem d_MO_property_104 : decode b_MO_property 104 = .ok (.aload_n 0, 1) := by decide +kernel
theorem d_MO_property_105 : decode b_MO_property 105 = .ok (.getfield 41, 3) := by decide +kernel
theorem d_MO_property_108 : decode b_MO_property 108 = .ok (.ifCond .ne 9, 3) := by decide +kernel
theorem d_MO_property_111 : decode b_MO_property 111 = .ok (.aload_n 0, 1) := by decide +kernel
theorem d_MO_property_112 : decode b_MO_property 112 = .ok (.iload_n 1, 1) := by decide +kernel
theorem d_MO_property_113 : decode b_MO_property 113 = .ok (.invokevirtual 124, 3) := by decide +kernel
theorem d_MO_property_116 : decode b_MO_property 116 = .ok (.ireturn, 1) := by decide +kernel
theorem d_MO_property_117 : decode b_MO_property 117 = .ok (.iconst 0, 1) := by decide +kernel
theorem d_MO_property_118 : decode b_MO_property 118 = .ok (.istore 7, 2) := by decide +kernel
theorem d_MO_property_120 : decode b_MO_property 120 = .ok (.iload 7, 2) := by decide +kernel
theorem d_MO_property_122 : decode b_MO_property 122 = .ok (.bipush 13, 2) := by decide +kernel
theorem d_MO_property_124 : decode b_MO_property 124 = .ok (.if_icmp .ge 49, 3) := by decide +kernel
theorem d_MO_property_127 : decode b_MO_property 127 = .ok (.aload_n 0, 1) := by decide +kernel
theorem d_MO_property_128 : decode b_MO_property 128 = .ok (.iload 5, 2) := by decide +kernel
theorem d_MO_property_130 : decode b_MO_property 130 = .ok (.aload_n 0, 1) := by decide +kernel
theorem d_MO_property_131 : decode b_MO_property 131 = .ok (.getfield 38, 3) := by decide +kernel
theorem d_MO_property_134 : decode b_MO_property 134 = .ok (.iload 7, 2) := by decide +kernel
theorem d_MO_property_136 : decode b_MO_property 136 = .ok (.iaload, 1) := by decide +kernel
theorem d_MO_property_137 : decode b_MO_property 137 = .ok (.invokevirtual 134, 3) := by decide +kernel
theorem d_MO_property_140 : decode b_MO_property 140 = .ok (.iload_n 3, 1) := by decide +kernel
theorem d_MO_property_141 : decode b_MO_property 141 = .ok (.if_icmp .eq 26, 3) := by decide +kernel
theorem d_MO_property_144 : decode b_MO_property 144 = .ok (.aload_n 0, 1) := by decide +kernel
theorem d_MO_property_145 : decode b_MO_property 145 = .ok (.iload_n 1, 1) := by decide +kernel
theorem d_MO_property_146 : decode b_MO_property 146 = .ok (.aload_n 0, 1) := by decide +kernel
theorem d_MO_property_147 : decode b_MO_property 147 = .ok (.getfield 38, 3) := by decide +kernel
theorem d_MO_property_150 : decode b_MO_property 150 = .ok (.iload 7, 2) := by decide +kernel
theorem d_MO_property_152 : decode b_MO_property 152 = .ok (.iaload, 1) := by decide +kernel
theorem d_MO_property_153 : decode b_MO_property 153 = .ok (.aload_n 0, 1) := by decide +kernel
theorem d_MO_property_154 : decode b_MO_property 154 = .ok (.getfield 38, 3) := by decide +kernel
theorem d_MO_property_157 : decode b_MO_property 157 = .ok (.iload 7, 2) := by decide +kernel
theorem d_MO_property_159 : decode b_MO_property 159 = .ok (.iconst 1, 1) := by decide +kernel
theorem d_MO_property_160 : decode b_MO_property 160 = .ok (.iadd, 1) := by decide +kernel
theorem d_MO_property_161 : decode b_MO_property 161 = .ok (.iaload, 1) := by decide +kernel
theorem d_MO_property_162 : decode b_MO_property 162 = .ok (.iconst 1, 1) := by decide +kernel
theorem d_MO_property_163 : decode b_MO_property 163 = .ok (.isub, 1) := by decide +kernel
theorem d_MO_property_164 : decode b_MO_property 164 = .ok (.invokevirtual 121, 3) := by decide +kernel
theorem d_MO_property_167 : decode b_MO_property 167 = .ok (.iinc 7 1, 3) := by decide +kernel
theorem d_MO_property_170 : decode b_MO_property 170 = .ok (.goto (-50), 3) := by decide +kernel
theorem d_MO_property_173 : decode b_MO_property 173 = .ok (.aload_n 0, 1) := by decide +kernel
theorem d_MO_property_174 : decode b_MO_property 174 = .ok (.iload_n 1, 1) := by decide +kernel
theorem d_MO_property_175 : decode b_MO_property 175 = .ok (.invokevirtual 124, 3) := by decide +kernel
theorem d_MO_property_178 : decode b_MO_property 178 = .ok (.ireturn, 1) := by decide +kernel
theorem d_MO_alpha_0 : decode b_MO_alpha 0 = .ok (.iload_n 1, 1) := by decide +kernel
theorem d_MO_alpha_1 : decode b_MO_alpha 1 = .ok (.bipush 65, 2) := by decide +kernel
theorem d_MO_alpha_3 : decode b_MO_alpha 3 = .ok (.if_icmp .lt 9, 3) := by decide +kernel
theorem d_MO_alpha_6 : decode b_MO_alpha 6 = .ok (.iload_n 1, 1) := by decide +kernel
theorem d_MO_alpha_7 : decode b_MO_alpha 7 = .ok (.bipush 90, 2) := by decide +kernel
theorem d_MO_alpha_9 : decode b_MO_alpha 9 = .ok (.if_icmp .le 15, 3) := by decide +kernel
theorem d_MO_alpha_12 : decode b_MO_alpha 12 = .ok (.iload_n 1, 1) := by decide +kernel
theorem d_MO_alpha_13 : decode b_MO_alpha 13 = .ok (.bipush 97, 2) := by decide +kernel
theorem d_MO_alpha_15 : decode b_MO_alpha 15 = .ok (.if_icmp .lt 13, 3) := by decide +kernel
theorem d_MO_alpha_18 : decode b_MO_alpha 18 = .ok (.iload_n 1, 1) := by decide +kernel
theorem d_MO_alpha_19 : decode b_MO_alpha 19 = .ok (.bipush 122, 2) := by decide +kernel
theorem d_MO_alpha_21 : decode b_MO_alpha 21 = .ok (.if_icmp .gt 7, 3) := by decide +kernel
theorem d_MO_alpha_24 : decode b_MO_alpha 24 = .ok (.iconst 1, 1) := by decide +kernel
theorem d_MO_alpha_25 : decode b_MO_alpha 25 = .ok (.goto 4, 3) := by decide +kernel
theorem d_MO_alpha_28 : decode b_MO_alpha 28 = .ok (.iconst 0, 1) := by decide +kernel
theorem d_MO_alpha_29 : decode b_MO_alpha 29 = .ok (.ireturn, 1) := by decide +kernel
