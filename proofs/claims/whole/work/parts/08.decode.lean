theorem d_MO_invert_0 : decode b_MO_invert 0 = .ok (.aload_n 0, 1) := by decide +kernel
theorem d_MO_invert_1 : decode b_MO_invert 1 = .ok (.iload_n 1, 1) := by decide +kernel
theorem d_MO_invert_2 : decode b_MO_invert 2 = .ok (.invokevirtual 117, 3) := by decide +kernel
theorem d_MO_invert_5 : decode b_MO_invert 5 = .ok (.ifCond .eq 6, 3) := by decide +kernel
theorem d_MO_invert_8 : decode b_MO_invert 8 = .ok (.bipush (-2), 2) := by decide +kernel
theorem d_MO_invert_10 : decode b_MO_invert 10 = .ok (.ireturn, 1) := by decide +kernel
theorem d_MO_invert_11 : decode b_MO_invert 11 = .ok (.iconst 0, 1) := by decide +kernel
theorem d_MO_invert_12 : decode b_MO_invert 12 = .ok (.istore_n 2, 1) := by decide +kernel
theorem d_MO_invert_13 : decode b_MO_invert 13 = .ok (.iload_n 2, 1) := by decide +kernel
theorem d_MO_invert_14 : decode b_MO_invert 14 = .ok (.aload_n 0, 1) := by decide +kernel
theorem d_MO_invert_15 : decode b_MO_invert 15 = .ok (.getfield 52, 3) := by decide +kernel
theorem d_MO_invert_18 : decode b_MO_invert 18 = .ok (.if_icmp .ge 37, 3) := by decide +kernel
theorem d_MO_invert_21 : decode b_MO_invert 21 = .ok (.aload_n 0, 1) := by decide +kernel
theorem d_MO_invert_22 : decode b_MO_invert 22 = .ok (.getfield 8, 3) := by decide +kernel
theorem d_MO_invert_25 : decode b_MO_invert 25 = .ok (.iload_n 1, 1) := by decide +kernel
theorem d_MO_invert_26 : decode b_MO_invert 26 = .ok (.sipush 17408, 3) := by decide +kernel
theorem d_MO_invert_29 : decode b_MO_invert 29 = .ok (.imul, 1) := by decide +kernel
theorem d_MO_invert_30 : decode b_MO_invert 30 = .ok (.iload_n 2, 1) := by decide +kernel
theorem d_MO_invert_31 : decode b_MO_invert 31 = .ok (.iadd, 1) := by decide +kernel
theorem d_MO_invert_32 : decode b_MO_invert 32 = .ok (.aload_n 0, 1) := by decide +kernel
theorem d_MO_invert_33 : decode b_MO_invert 33 = .ok (.getfield 8, 3) := by decide +kernel
theorem d_MO_invert_36 : decode b_MO_invert 36 = .ok (.iload_n 1, 1) := by decide +kernel
theorem d_MO_invert_37 : decode b_MO_invert 37 = .ok (.sipush 17408, 3) := by decide +kernel
theorem d_MO_invert_40 : decode b_MO_invert 40 = .ok (.imul, 1) := by decide +kernel
theorem d_MO_invert_41 : decode b_MO_invert 41 = .ok (.iload_n 2, 1) := by decide +kernel
theorem d_MO_invert_42 : decode b_MO_invert 42 = .ok (.iadd, 1) := by decide +kernel
theorem d_MO_invert_43 : decode b_MO_invert 43 = .ok (.laload, 1) := by decide +kernel
theorem d_MO_invert_44 : decode b_MO_invert 44 = .ok (.ldc2_w 99, 3) := by decide +kernel
theorem d_MO_invert_47 : decode b_MO_invert 47 = .ok (.lxor, 1) := by decide +kernel
theorem d_MO_invert_48 : decode b_MO_invert 48 = .ok (.lastore, 1) := by decide +kernel
theorem d_MO_invert_49 : decode b_MO_invert 49 = .ok (.iinc 2 1, 3) := by decide +kernel
theorem d_MO_invert_52 : decode b_MO_invert 52 = .ok (.goto (-39), 3) := by decide +kernel
theorem d_MO_invert_55 : decode b_MO_invert 55 = .ok (.aload_n 0, 1) := by decide +kernel
theorem d_MO_invert_56 : decode b_MO_invert 56 = .ok (.iload_n 1, 1) := by decide +kernel
theorem d_MO_invert_57 : decode b_MO_invert 57 = .ok (.invokevirtual 124, 3) := by decide +kernel
theorem d_MO_invert_60 : decode b_MO_invert 60 = .ok (.ireturn, 1) := by decide +kernel
theorem d_MO_join_0 : decode b_MO_join 0 = .ok (.aload_n 0, 1) := by decide +kernel
theorem d_MO_join_1 : decode b_MO_join 1 = .ok (.iload_n 1, 1) := by decide +kernel
theorem d_MO_join_2 : decode b_MO_join 2 = .ok (.invokevirtual 117, 3) := by decide +kernel
theorem d_MO_join_5 : decode b_MO_join 5 = .ok (.ifCond .ne 11, 3) := by decide +kernel
theorem d_MO_join_8 : decode b_MO_join 8 = .ok (.aload_n 0, 1) := by decide +kernel
theorem d_MO_join_9 : decode b_MO_join 9 = .ok (.iload_n 2, 1) := by decide +kernel
theorem d_MO_join_10 : decode b_MO_join 10 = .ok (.invokevirtual 117, 3) := by decide +kernel
theorem d_MO_join_13 : decode b_MO_join 13 = .ok (.ifCond .eq 6, 3) := by decide +kernel
theorem d_MO_join_16 : decode b_MO_join 16 = .ok (.bipush (-2), 2) := by decide +kernel
theorem d_MO_join_18 : decode b_MO_join 18 = .ok (.ireturn, 1) := by decide +kernel
theorem d_MO_join_19 : decode b_MO_join 19 = .ok (.iconst 0, 1) := by decide +kernel
theorem d_MO_join_20 : decode b_MO_join 20 = .ok (.istore_n 3, 1) := by decide +kernel
theorem d_MO_join_21 : decode b_MO_join 21 = .ok (.iload_n 3, 1) := by decide +kernel
theorem d_MO_join_22 : decode b_MO_join 22 = .ok (.aload_n 0, 1) := by decide +kernel
theorem d_MO_join_23 : decode b_MO_join 23 = .ok (.getfield 52, 3) := by decide +kernel
theorem d_MO_join_26 : decode b_MO_join 26 = .ok (.if_icmp .ge 36, 3) := by decide +kernel
theorem d_MO_join_29 : decode b_MO_join 29 = .ok (.aload_n 0, 1) := by decide +kernel
theorem d_MO_join_30 : decode b_MO_join 30 = .ok (.getfield 8, 3) := by decide +kernel
theorem d_MO_join_33 : decode b_MO_join 33 = .ok (.iload_n 1, 1) := by decide +kernel
theorem d_MO_join_34 : decode b_MO_join 34 = .ok (.sipush 17408, 3) := by decide +kernel
theorem d_MO_join_37 : decode b_MO_join 37 = .ok (.imul, 1) := by decide +kernel
theorem d_MO_join_38 : decode b_MO_join 38 = .ok (.iload_n 3, 1) := by decide +kernel
theorem d_MO_join_39 : decode b_MO_join 39 = .ok (.iadd, 1) := by decide +kernel
theorem d_MO_join_40 : decode b_MO_join 40 = .ok (.dup2, 1) := by decide +kernel
theorem d_MO_join_41 : decode b_MO_join 41 = .ok (.laload, 1) := by decide +kernel
theorem d_MO_join_42 : decode b_MO_join 42 = .ok (.aload_n 0, 1) := by decide +kernel
theorem d_MO_join_43 : decode b_MO_join 43 = .ok (.getfield 8, 3) := by decide +kernel
theorem d_MO_join_46 : decode b_MO_join 46 = .ok (.iload_n 2, 1) := by decide +kernel
theorem d_MO_join_47 : decode b_MO_join 47 = .ok (.sipush 17408, 3) := by decide +kernel
theorem d_MO_join_50 : decode b_MO_join 50 = .ok (.imul, 1) := by decide +kernel
theorem d_MO_join_51 : decode b_MO_join 51 = .ok (.iload_n 3, 1) := by decide +kernel
theorem d_MO_join_52 : decode b_MO_join 52 = .ok (.iadd, 1) := by decide +kernel
theorem d_MO_join_53 : decode b_MO_join 53 = .ok (.laload, 1) := by decide +kernel
theorem d_MO_join_54 : decode b_MO_join 54 = .ok (.lor, 1) := by decide +kernel
theorem d_MO_join_55 : decode b_MO_join 55 = .ok (.lastore, 1) := by decide +kernel
theorem d_MO_join_56 : decode b_MO_join 56 = .ok (.iinc 3 1, 3) := by decide +kernel
theorem d_MO_join_59 : decode b_MO_join 59 = .ok (.goto (-38), 3) := by decide +kernel
theorem d_MO_join_62 : decode b_MO_join 62 = .ok (.aload_n 0, 1) := by decide +kernel
theorem d_MO_join_63 : decode b_MO_join 63 = .ok (.iload_n 1, 1) := by decide +kernel
theorem d_MO_join_64 : decode b_MO_join 64 = .ok (.invokevirtual 124, 3) := by decide +kernel
theorem d_MO_join_67 : decode b_MO_join 67 = .ok (.ireturn, 1) := by decide +kernel
theorem d_MO_meets_0 : decode b_MO_meets 0 = .ok (.aload_n 0, 1) := by decide +kernel
theorem d_MO_meets_1 : decode b_MO_meets 1 = .ok (.iload_n 1, 1) := by decide +kernel
theorem d_MO_meets_2 : decode b_MO_meets 2 = .ok (.invokevirtual 117, 3) := by decide +kernel
theorem d_MO_meets_5 : decode b_MO_meets 5 = .ok (.ifCond .ne 11, 3) := by decide +kernel
theorem d_MO_meets_8 : decode b_MO_meets 8 = .ok (.aload_n 0, 1) := by decide +kernel
theorem d_MO_meets_9 : decode b_MO_meets 9 = .ok (.iload_n 2, 1) := by decide +kernel
theorem d_MO_meets_10 : decode b_MO_meets 10 = .ok (.invokevirtual 117, 3) := by decide +kernel
theorem d_MO_meets_13 : decode b_MO_meets 13 = .ok (.ifCond .eq 6, 3) := by decide +kernel
theorem d_MO_meets_16 : decode b_MO_meets 16 = .ok (.bipush (-2), 2) := by decide +kernel
theorem d_MO_meets_18 : decode b_MO_meets 18 = .ok (.ireturn, 1) := by decide +kernel
theorem d_MO_meets_19 : decode b_MO_meets 19 = .ok (.lconst 0, 1) := by decide +kernel
theorem d_MO_meets_20 : decode b_MO_meets 20 = .ok (.lstore_n 3, 1) := by decide +kernel
theorem d_MO_meets_21 : decode b_MO_meets 21 = .ok (.iconst 0, 1) := by decide +kernel
theorem d_MO_meets_22 : decode b_MO_meets 22 = .ok (.istore 5, 2) := by decide +kernel
theorem d_MO_meets_24 : decode b_MO_meets 24 = .ok (.iload 5, 2) := by decide +kernel
theorem d_MO_meets_26 : decode b_MO_meets 26 = .ok (.aload_n 0, 1) := by decide +kernel
theorem d_MO_meets_27 : decode b_MO_meets 27 = .ok (.getfield 52, 3) := by decide +kernel
theorem d_MO_meets_30 : decode b_MO_meets 30 = .ok (.if_icmp .ge 39, 3) := by decide +kernel
theorem d_MO_meets_33 : decode b_MO_meets 33 = .ok (.lload_n 3, 1) := by decide +kernel
theorem d_MO_meets_34 : decode b_MO_meets 34 = .ok (.aload_n 0, 1) := by decide +kernel
theorem d_MO_meets_35 : decode b_MO_meets 35 = .ok (.getfield 8, 3) := by decide +kernel
theorem d_MO_meets_38 : decode b_MO_meets 38 = .ok (.iload_n 1, 1) := by decide +kernel
theorem d_MO_meets_39 : decode b_MO_meets 39 = .ok (.sipush 17408, 3) := by decide +kernel
theorem d_MO_meets_42 : decode b_MO_meets 42 = .ok (.imul, 1) := by decide +kernel
theorem d_MO_meets_43 : decode b_MO_meets 43 = .ok (.iload 5, 2) := by decide +kernel
theorem d_MO_meets_45 : decode b_MO_meets 45 = .ok (.iadd, 1) := by decide +kernel
theorem d_MO_meets_46 : decode b_MO_meets 46 = .ok (.laload, 1) := by decide +kernel
theorem d_MO_meets_47 : decode b_MO_meets 47 = .ok (.aload_n 0, 1) := by decide +kernel
theorem d_MO_meets_48 : decode b_MO_meets 48 = .ok (.getfield 8, 3) := by decide +kernel
theorem d_MO_meets_51 : decode b_MO_meets 51 = .ok (.iload_n 2, 1) := by decide +kernel
theorem d_MO_meets_52 : decode b_MO_meets 52 = .ok (.sipush 17408, 3) := by decide +kernel
theorem d_MO_meets_55 : decode b_MO_meets 55 = .ok (.imul, 1) := by decide +kernel
theorem d_MO_meets_56 : decode b_MO_meets 56 = .ok (.iload 5, 2) := by decide +kernel
theorem d_MO_meets_58 : decode b_MO_meets 58 = .ok (.iadd, 1) := by decide +kernel
theorem d_MO_meets_59 : decode b_MO_meets 59 = .ok (.laload, 1) := by decide +kernel
theorem d_MO_meets_60 : decode b_MO_meets 60 = .ok (.land, 1) := by decide +kernel
theorem d_MO_meets_61 : decode b_MO_meets 61 = .ok (.lor, 1) := by decide +kernel
theorem d_MO_meets_62 : decode b_MO_meets 62 = .ok (.lstore_n 3, 1) := by decide +kernel
theorem d_MO_meets_63 : decode b_MO_meets 63 = .ok (.iinc 5 1, 3) := by decide +kernel
theorem d_MO_meets_66 : decode b_MO_meets 66 = .ok (.goto (-42), 3) := by decide +kernel
theorem d_MO_meets_69 : decode b_MO_meets 69 = .ok (.lload_n 3, 1) := by decide +kernel
theorem d_MO_meets_70 : decode b_MO_meets 70 = .ok (.lconst 0, 1) := by decide +kernel
theorem d_MO_meets_71 : decode b_MO_meets 71 = .ok (.lcmp, 1) := by decide +kernel
theorem d_MO_meets_72 : decode b_MO_meets 72 = .ok (.ifCond .eq 7, 3) := by decide +kernel
theorem d_MO_meets_75 : decode b_MO_meets 75 = .ok (.iconst 1, 1) := by decide +kernel
theorem d_MO_meets_76 : decode b_MO_meets 76 = .ok (.goto 4, 3) := by decide +kernel
theorem d_MO_meets_79 : decode b_MO_meets 79 = .ok (.iconst 0, 1) := by decide +kernel
theorem d_MO_meets_80 : decode b_MO_meets 80 = .ok (.ireturn, 1) := by decide +kernel
theorem d_MO_same_0 : decode b_MO_same 0 = .ok (.aload_n 0, 1) := by decide +kernel
theorem d_MO_same_1 : decode b_MO_same 1 = .ok (.iload_n 1, 1) := by decide +kernel
theorem d_MO_same_2 : decode b_MO_same 2 = .ok (.invokevirtual 117, 3) := by decide +kernel
theorem d_MO_same_5 : decode b_MO_same 5 = .ok (.ifCond .ne 11, 3) := by decide +kernel
theorem d_MO_same_8 : decode b_MO_same 8 = .ok (.aload_n 0, 1) := by decide +kernel
theorem d_MO_same_9 : decode b_MO_same 9 = .ok (.iload_n 2, 1) := by decide +kernel
theorem d_MO_same_10 : decode b_MO_same 10 = .ok (.invokevirtual 117, 3) := by decide +kernel
theorem d_MO_same_13 : decode b_MO_same 13 = .ok (.ifCond .eq 6, 3) := by decide +kernel
theorem d_MO_same_16 : decode b_MO_same 16 = .ok (.bipush (-2), 2) := by decide +kernel
theorem d_MO_same_18 : decode b_MO_same 18 = .ok (.ireturn, 1) := by decide +kernel
theorem d_MO_same_19 : decode b_MO_same 19 = .ok (.lconst 0, 1) := by decide +kernel
theorem d_MO_same_20 : decode b_MO_same 20 = .ok (.lstore_n 3, 1) := by decide +kernel
theorem d_MO_same_21 : decode b_MO_same 21 = .ok (.iconst 0, 1) := by decide +kernel
theorem d_MO_same_22 : decode b_MO_same 22 = .ok (.istore 5, 2) := by decide +kernel
theorem d_MO_same_24 : decode b_MO_same 24 = .ok (.iload 5, 2) := by decide +kernel
theorem d_MO_same_26 : decode b_MO_same 26 = .ok (.aload_n 0, 1) := by decide +kernel
theorem d_MO_same_27 : decode b_MO_same 27 = .ok (.getfield 52, 3) := by decide +kernel
theorem d_MO_same_30 : decode b_MO_same 30 = .ok (.if_icmp .ge 39, 3) := by decide +kernel
theorem d_MO_same_33 : decode b_MO_same 33 = .ok (.lload_n 3, 1) := by decide +kernel
theorem d_MO_same_34 : decode b_MO_same 34 = .ok (.aload_n 0, 1) := by decide +kernel
theorem d_MO_same_35 : decode b_MO_same 35 = .ok (.getfield 8, 3) := by decide +kernel
theorem d_MO_same_38 : decode b_MO_same 38 = .ok (.iload_n 1, 1) := by decide +kernel
theorem d_MO_same_39 : decode b_MO_same 39 = .ok (.sipush 17408, 3) := by decide +kernel
theorem d_MO_same_42 : decode b_MO_same 42 = .ok (.imul, 1) := by decide +kernel
theorem d_MO_same_43 : decode b_MO_same 43 = .ok (.iload 5, 2) := by decide +kernel
theorem d_MO_same_45 : decode b_MO_same 45 = .ok (.iadd, 1) := by decide +kernel
theorem d_MO_same_46 : decode b_MO_same 46 = .ok (.laload, 1) := by decide +kernel
theorem d_MO_same_47 : decode b_MO_same 47 = .ok (.aload_n 0, 1) := by decide +kernel
theorem d_MO_same_48 : decode b_MO_same 48 = .ok (.getfield 8, 3) := by decide +kernel
theorem d_MO_same_51 : decode b_MO_same 51 = .ok (.iload_n 2, 1) := by decide +kernel
theorem d_MO_same_52 : decode b_MO_same 52 = .ok (.sipush 17408, 3) := by decide +kernel
theorem d_MO_same_55 : decode b_MO_same 55 = .ok (.imul, 1) := by decide +kernel
theorem d_MO_same_56 : decode b_MO_same 56 = .ok (.iload 5, 2) := by decide +kernel
theorem d_MO_same_58 : decode b_MO_same 58 = .ok (.iadd, 1) := by decide +kernel
theorem d_MO_same_59 : decode b_MO_same 59 = .ok (.laload, 1) := by decide +kernel
theorem d_MO_same_60 : decode b_MO_same 60 = .ok (.lxor, 1) := by decide +kernel
theorem d_MO_same_61 : decode b_MO_same 61 = .ok (.lor, 1) := by decide +kernel
theorem d_MO_same_62 : decode b_MO_same 62 = .ok (.lstore_n 3, 1) := by decide +kernel
theorem d_MO_same_63 : decode b_MO_same 63 = .ok (.iinc 5 1, 3) := by decide +kernel
theorem d_MO_same_66 : decode b_MO_same 66 = .ok (.goto (-42), 3) := by decide +kernel
theorem d_MO_same_69 : decode b_MO_same 69 = .ok (.lload_n 3, 1) := by decide +kernel
theorem d_MO_same_70 : decode b_MO_same 70 = .ok (.lconst 0, 1) := by decide +kernel
theorem d_MO_same_71 : decode b_MO_same 71 = .ok (.lcmp, 1) := by decide +kernel
theorem d_MO_same_72 : decode b_MO_same 72 = .ok (.ifCond .ne 7, 3) := by decide +kernel
theorem d_MO_same_75 : decode b_MO_same 75 = .ok (.iconst 1, 1) := by decide +kernel
theorem d_MO_same_76 : decode b_MO_same 76 = .ok (.goto 4, 3) := by decide +kernel
theorem d_MO_same_79 : decode b_MO_same 79 = .ok (.iconst 0, 1) := by decide +kernel
theorem d_MO_same_80 : decode b_MO_same 80 = .ok (.ireturn, 1) := by decide +kernel
theorem d_MO_has_0 : decode b_MO_has 0 = .ok (.aload_n 0, 1) := by decide +kernel
theorem d_MO_has_1 : decode b_MO_has 1 = .ok (.iload_n 1, 1) := by decide +kernel
theorem d_MO_has_2 : decode b_MO_has 2 = .ok (.invokevirtual 117, 3) := by decide +kernel
theorem d_MO_has_5 : decode b_MO_has 5 = .ok (.ifCond .eq 6, 3) := by decide +kernel
theorem d_MO_has_8 : decode b_MO_has 8 = .ok (.bipush (-2), 2) := by decide +kernel
theorem d_MO_has_10 : decode b_MO_has 10 = .ok (.ireturn, 1) := by decide +kernel
theorem d_MO_has_11 : decode b_MO_has 11 = .ok (.iload_n 2, 1) := by decide +kernel
theorem d_MO_has_12 : decode b_MO_has 12 = .ok (.ifCond .lt 24, 3) := by decide +kernel
theorem d_MO_has_15 : decode b_MO_has 15 = .ok (.iload_n 2, 1) := by decide +kernel
theorem d_MO_has_16 : decode b_MO_has 16 = .ok (.aload_n 0, 1) := by decide +kernel
theorem d_MO_has_17 : decode b_MO_has 17 = .ok (.getfield 49, 3) := by decide +kernel
theorem d_MO_has_20 : decode b_MO_has 20 = .ok (.if_icmp .gt 16, 3) := by decide +kernel
theorem d_MO_has_23 : decode b_MO_has 23 = .ok (.aload_n 0, 1) := by decide +kernel
theorem d_MO_has_24 : decode b_MO_has 24 = .ok (.iload_n 1, 1) := by decide +kernel
theorem d_MO_has_25 : decode b_MO_has 25 = .ok (.iload_n 2, 1) := by decide +kernel
theorem d_MO_has_26 : decode b_MO_has 26 = .ok (.invokevirtual 158, 3) := by decide +kernel
theorem d_MO_has_29 : decode b_MO_has 29 = .ok (.ifCond .eq 7, 3) := by decide +kernel
theorem d_MO_has_32 : decode b_MO_has 32 = .ok (.iconst 1, 1) := by decide +kernel
theorem d_MO_has_33 : decode b_MO_has 33 = .ok (.goto 4, 3) := by decide +kernel
theorem d_MO_has_36 : decode b_MO_has 36 = .ok (.iconst 0, 1) := by decide +kernel
theorem d_MO_has_37 : decode b_MO_has 37 = .ok (.ireturn, 1) := by decide +kernel
theorem d_MO_size_0 : decode b_MO_size 0 = .ok (.aload_n 0, 1) := by decide +kernel
theorem d_MO_size_1 : decode b_MO_size 1 = .ok (.iload_n 1, 1) := by decide +kernel
theorem d_MO_size_2 : decode b_MO_size 2 = .ok (.invokevirtual 117, 3) := by decide +kernel
theorem d_MO_size_5 : decode b_MO_size 5 = .ok (.ifCond .eq 8, 3) := by decide +kernel
theorem d_MO_size_8 : decode b_MO_size 8 = .ok (.bipush (-2), 2) := by decide +kernel
theorem d_MO_size_10 : decode b_MO_size 10 = .ok (.goto 8, 3) := by decide +kernel
theorem d_MO_size_13 : decode b_MO_size 13 = .ok (.aload_n 0, 1) := by decide +kernel
theorem d_MO_size_14 : decode b_MO_size 14 = .ok (.iload_n 1, 1) := by decide +kernel
theorem d_MO_size_15 : decode b_MO_size 15 = .ok (.invokevirtual 155, 3) := by decide +kernel
theorem d_MO_size_18 : decode b_MO_size 18 = .ok (.ireturn, 1) := by decide +kernel
theorem d_MO_least_0 : decode b_MO_least 0 = .ok (.aload_n 0, 1) := by decide +kernel
theorem d_MO_least_1 : decode b_MO_least 1 = .ok (.iload_n 1, 1) := by decide +kernel
theorem d_MO_least_2 : decode b_MO_least 2 = .ok (.invokevirtual 117, 3) := by decide +kernel
theorem d_MO_least_5 : decode b_MO_least 5 = .ok (.ifCond .eq 6, 3) := by decide +kernel
theorem d_MO_least_8 : decode b_MO_least 8 = .ok (.bipush (-2), 2) := by decide +kernel
theorem d_MO_least_10 : decode b_MO_least 10 = .ok (.ireturn, 1) := by decide +kernel
theorem d_MO_least_11 : decode b_MO_least 11 = .ok (.iload_n 2, 1) := by decide +kernel
theorem d_MO_least_12 : decode b_MO_least 12 = .ok (.ifCond .ge 7, 3) := by decide +kernel
theorem d_MO_least_15 : decode b_MO_least 15 = .ok (.iconst 0, 1) := by decide +kernel
theorem d_MO_least_16 : decode b_MO_least 16 = .ok (.goto 4, 3) := by decide +kernel
theorem d_MO_least_19 : decode b_MO_least 19 = .ok (.iload_n 2, 1) := by decide +kernel
theorem d_MO_least_20 : decode b_MO_least 20 = .ok (.istore_n 3, 1) := by decide +kernel
theorem d_MO_least_21 : decode b_MO_least 21 = .ok (.iload_n 3, 1) := by decide +kernel
theorem d_MO_least_22 : decode b_MO_least 22 = .ok (.aload_n 0, 1) := by decide +kernel
theorem d_MO_least_23 : decode b_MO_least 23 = .ok (.getfield 49, 3) := by decide +kernel
theorem d_MO_least_26 : decode b_MO_least 26 = .ok (.if_icmp .gt 53, 3) := by decide +kernel
theorem d_MO_least_29 : decode b_MO_least 29 = .ok (.aload_n 0, 1) := by decide +kernel
theorem d_MO_least_30 : decode b_MO_least 30 = .ok (.getfield 8, 3) := by decide +kernel
theorem d_MO_least_33 : decode b_MO_least 33 = .ok (.iload_n 1, 1) := by decide +kernel
theorem d_MO_least_34 : decode b_MO_least 34 = .ok (.sipush 17408, 3) := by decide +kernel
theorem d_MO_least_37 : decode b_MO_least 37 = .ok (.imul, 1) := by decide +kernel
theorem d_MO_least_38 : decode b_MO_least 38 = .ok (.iload_n 3, 1) := by decide +kernel
theorem d_MO_least_39 : decode b_MO_least 39 = .ok (.bipush 6, 2) := by decide +kernel
theorem d_MO_least_41 : decode b_MO_least 41 = .ok (.ishr, 1) := by decide +kernel
theorem d_MO_least_42 : decode b_MO_least 42 = .ok (.iadd, 1) := by decide +kernel
theorem d_MO_least_43 : decode b_MO_least 43 = .ok (.laload, 1) := by decide +kernel
theorem d_MO_least_44 : decode b_MO_least 44 = .ok (.lconst 0, 1) := by decide +kernel
theorem d_MO_least_45 : decode b_MO_least 45 = .ok (.lcmp, 1) := by decide +kernel
theorem d_MO_least_46 : decode b_MO_least 46 = .ok (.ifCond .ne 16, 3) := by decide +kernel
theorem d_MO_least_49 : decode b_MO_least 49 = .ok (.iload_n 3, 1) := by decide +kernel
theorem d_MO_least_50 : decode b_MO_least 50 = .ok (.bipush 6, 2) := by decide +kernel
theorem d_MO_least_52 : decode b_MO_least 52 = .ok (.ishr, 1) := by decide +kernel
theorem d_MO_least_53 : decode b_MO_least 53 = .ok (.iconst 1, 1) := by decide +kernel
theorem d_MO_least_54 : decode b_MO_least 54 = .ok (.iadd, 1) := by decide +kernel
theorem d_MO_least_55 : decode b_MO_least 55 = .ok (.bipush 6, 2) := by decide +kernel
theorem d_MO_least_57 : decode b_MO_least 57 = .ok (.ishl, 1) := by decide +kernel
theorem d_MO_least_58 : decode b_MO_least 58 = .ok (.istore_n 3, 1) := by decide +kernel
theorem d_MO_least_59 : decode b_MO_least 59 = .ok (.goto (-38), 3) := by decide +kernel
theorem d_MO_least_62 : decode b_MO_least 62 = .ok (.aload_n 0, 1) := by decide +kernel
theorem d_MO_least_63 : decode b_MO_least 63 = .ok (.iload_n 1, 1) := by decide +kernel
theorem d_MO_least_64 : decode b_MO_least 64 = .ok (.iload_n 3, 1) := by decide +kernel
theorem d_MO_least_65 : decode b_MO_least 65 = .ok (.invokevirtual 158, 3) := by decide +kernel
theorem d_MO_least_68 : decode b_MO_least 68 = .ok (.ifCond .eq 5, 3) := by decide +kernel
theorem d_MO_least_71 : decode b_MO_least 71 = .ok (.iload_n 3, 1) := by decide +kernel
theorem d_MO_least_72 : decode b_MO_least 72 = .ok (.ireturn, 1) := by decide +kernel
theorem d_MO_least_73 : decode b_MO_least 73 = .ok (.iinc 3 1, 3) := by decide +kernel
theorem d_MO_least_76 : decode b_MO_least 76 = .ok (.goto (-55), 3) := by decide +kernel
theorem d_MO_least_79 : decode b_MO_least 79 = .ok (.iconst (-1), 1) := by decide +kernel
theorem d_MO_least_80 : decode b_MO_least 80 = .ok (.ireturn, 1) := by decide +kernel
theorem d_MO_bound_0 : decode b_MO_bound 0 = .ok (.aload_n 0, 1) := by decide +kernel
theorem d_MO_bound_1 : decode b_MO_bound 1 = .ok (.iload_n 1, 1) := by decide +kernel
theorem d_MO_bound_2 : decode b_MO_bound 2 = .ok (.invokevirtual 117, 3) := by decide +kernel
theorem d_MO_bound_5 : decode b_MO_bound 5 = .ok (.ifCond .ne 7, 3) := by decide +kernel
theorem d_MO_bound_8 : decode b_MO_bound 8 = .ok (.iload_n 2, 1) := by decide +kernel
theorem d_MO_bound_9 : decode b_MO_bound 9 = .ok (.ifCond .ge 6, 3) := by decide +kernel
theorem d_MO_bound_12 : decode b_MO_bound 12 = .ok (.bipush (-2), 2) := by decide +kernel
theorem d_MO_bound_14 : decode b_MO_bound 14 = .ok (.ireturn, 1) := by decide +kernel
theorem d_MO_bound_15 : decode b_MO_bound 15 = .ok (.iconst 0, 1) := by decide +kernel
theorem d_MO_bound_16 : decode b_MO_bound 16 = .ok (.istore 4, 2) := by decide +kernel
theorem d_MO_bound_18 : decode b_MO_bound 18 = .ok (.aload_n 0, 1) := by decide +kernel
theorem d_MO_bound_19 : decode b_MO_bound 19 = .ok (.iload_n 1, 1) := by decide +kernel
theorem d_MO_bound_20 : decode b_MO_bound 20 = .ok (.iconst 0, 1) := by decide +kernel
theorem d_MO_bound_21 : decode b_MO_bound 21 = .ok (.invokevirtual 161, 3) := by decide +kernel
theorem d_MO_bound_24 : decode b_MO_bound 24 = .ok (.istore 5, 2) := by decide +kernel
theorem d_MO_bound_26 : decode b_MO_bound 26 = .ok (.iload 5, 2) := by decide +kernel
theorem d_MO_bound_28 : decode b_MO_bound 28 = .ok (.ifCond .lt 29, 3) := by decide +kernel
theorem d_MO_bound_31 : decode b_MO_bound 31 = .ok (.iload 4, 2) := by decide +kernel
theorem d_MO_bound_33 : decode b_MO_bound 33 = .ok (.iload_n 2, 1) := by decide +kernel
theorem d_MO_bound_34 : decode b_MO_bound 34 = .ok (.if_icmp .ge 23, 3) := by decide +kernel
theorem d_MO_bound_37 : decode b_MO_bound 37 = .ok (.aload_n 0, 1) := by decide +kernel
theorem d_MO_bound_38 : decode b_MO_bound 38 = .ok (.iload_n 1, 1) := by decide +kernel
theorem d_MO_bound_39 : decode b_MO_bound 39 = .ok (.aload_n 0, 1) := by decide +kernel
theorem d_MO_bound_40 : decode b_MO_bound 40 = .ok (.iload_n 1, 1) := by decide +kernel
theorem d_MO_bound_41 : decode b_MO_bound 41 = .ok (.iload 5, 2) := by decide +kernel
theorem d_MO_bound_43 : decode b_MO_bound 43 = .ok (.invokevirtual 165, 3) := by decide +kernel
theorem d_MO_bound_46 : decode b_MO_bound 46 = .ok (.invokevirtual 161, 3) := by decide +kernel
theorem d_MO_bound_49 : decode b_MO_bound 49 = .ok (.istore 5, 2) := by decide +kernel
theorem d_MO_bound_51 : decode b_MO_bound 51 = .ok (.iinc 4 1, 3) := by decide +kernel
theorem d_MO_bound_54 : decode b_MO_bound 54 = .ok (.goto (-28), 3) := by decide +kernel
theorem d_MO_bound_57 : decode b_MO_bound 57 = .ok (.iload 5, 2) := by decide +kernel
theorem d_MO_bound_59 : decode b_MO_bound 59 = .ok (.ifCond .ge 6, 3) := by decide +kernel
theorem d_MO_bound_62 : decode b_MO_bound 62 = .ok (.bipush (-2), 2) := by decide +kernel
theorem d_MO_bound_64 : decode b_MO_bound 64 = .ok (.ireturn, 1) := by decide +kernel
theorem d_MO_bound_65 : decode b_MO_bound 65 = .ok (.iload_n 3, 1) := by decide +kernel
theorem d_MO_bound_66 : decode b_MO_bound 66 = .ok (.ifCond .eq 15, 3) := by decide +kernel
theorem d_MO_bound_69 : decode b_MO_bound 69 = .ok (.aload_n 0, 1) := by decide +kernel
theorem d_MO_bound_70 : decode b_MO_bound 70 = .ok (.iload_n 1, 1) := by decide +kernel
theorem d_MO_bound_71 : decode b_MO_bound 71 = .ok (.iload 5, 2) := by decide +kernel
theorem d_MO_bound_73 : decode b_MO_bound 73 = .ok (.invokevirtual 165, 3) := by decide +kernel
theorem d_MO_bound_76 : decode b_MO_bound 76 = .ok (.iconst 1, 1) := by decide +kernel
theorem d_MO_bound_77 : decode b_MO_bound 77 = .ok (.isub, 1) := by decide +kernel
theorem d_MO_bound_78 : decode b_MO_bound 78 = .ok (.goto 5, 3) := by decide +kernel
theorem d_MO_bound_81 : decode b_MO_bound 81 = .ok (.iload 5, 2) := by decide +kernel
theorem d_MO_bound_83 : decode b_MO_bound 83 = .ok (.ireturn, 1) := by decide +kernel
theorem d_MO_after_0 : decode b_MO_after 0 = .ok (.iload_n 2, 1) := by decide +kernel
theorem d_MO_after_1 : decode b_MO_after 1 = .ok (.istore_n 3, 1) := by decide +kernel
theorem d_MO_after_2 : decode b_MO_after 2 = .ok (.iload_n 3, 1) := by decide +kernel
theorem d_MO_after_3 : decode b_MO_after 3 = .ok (.aload_n 0, 1) := by decide +kernel
theorem d_MO_after_4 : decode b_MO_after 4 = .ok (.getfield 49, 3) := by decide +kernel
theorem d_MO_after_7 : decode b_MO_after 7 = .ok (.if_icmp .gt 55, 3) := by decide +kernel
theorem d_MO_after_10 : decode b_MO_after 10 = .ok (.aload_n 0, 1) := by decide +kernel
theorem d_MO_after_11 : decode b_MO_after 11 = .ok (.getfield 8, 3) := by decide +kernel
theorem d_MO_after_14 : decode b_MO_after 14 = .ok (.iload_n 1, 1) := by decide +kernel
theorem d_MO_after_15 : decode b_MO_after 15 = .ok (.sipush 17408, 3) := by decide +kernel
theorem d_MO_after_18 : decode b_MO_after 18 = .ok (.imul, 1) := by decide +kernel
theorem d_MO_after_19 : decode b_MO_after 19 = .ok (.iload_n 3, 1) := by decide +kernel
theorem d_MO_after_20 : decode b_MO_after 20 = .ok (.bipush 6, 2) := by decide +kernel
theorem d_MO_after_22 : decode b_MO_after 22 = .ok (.ishr, 1) := by decide +kernel
theorem d_MO_after_23 : decode b_MO_after 23 = .ok (.iadd, 1) := by decide +kernel
theorem d_MO_after_24 : decode b_MO_after 24 = .ok (.laload, 1) := by decide +kernel
theorem d_MO_after_25 : decode b_MO_after 25 = .ok (.ldc2_w 99, 3) := by decide +kernel
theorem d_MO_after_28 : decode b_MO_after 28 = .ok (.lcmp, 1) := by decide +kernel
theorem d_MO_after_29 : decode b_MO_after 29 = .ok (.ifCond .ne 16, 3) := by decide +kernel
theorem d_MO_after_32 : decode b_MO_after 32 = .ok (.iload_n 3, 1) := by decide +kernel
theorem d_MO_after_33 : decode b_MO_after 33 = .ok (.bipush 6, 2) := by decide +kernel
theorem d_MO_after_35 : decode b_MO_after 35 = .ok (.ishr, 1) := by decide +kernel
theorem d_MO_after_36 : decode b_MO_after 36 = .ok (.iconst 1, 1) := by decide +kernel
theorem d_MO_after_37 : decode b_MO_after 37 = .ok (.iadd, 1) := by decide +kernel
theorem d_MO_after_38 : decode b_MO_after 38 = .ok (.bipush 6, 2) := by decide +kernel
theorem d_MO_after_40 : decode b_MO_after 40 = .ok (.ishl, 1) := by decide +kernel
theorem d_MO_after_41 : decode b_MO_after 41 = .ok (.istore_n 3, 1) := by decide +kernel
theorem d_MO_after_42 : decode b_MO_after 42 = .ok (.goto (-40), 3) := by decide +kernel
theorem d_MO_after_45 : decode b_MO_after 45 = .ok (.aload_n 0, 1) := by decide +kernel
theorem d_MO_after_46 : decode b_MO_after 46 = .ok (.iload_n 1, 1) := by decide +kernel
theorem d_MO_after_47 : decode b_MO_after 47 = .ok (.iload_n 3, 1) := by decide +kernel
theorem d_MO_after_48 : decode b_MO_after 48 = .ok (.invokevirtual 158, 3) := by decide +kernel
theorem d_MO_after_51 : decode b_MO_after 51 = .ok (.ifCond .ne 5, 3) := by decide +kernel
theorem d_MO_after_54 : decode b_MO_after 54 = .ok (.iload_n 3, 1) := by decide +kernel
theorem d_MO_after_55 : decode b_MO_after 55 = .ok (.ireturn, 1) := by decide +kernel
theorem d_MO_after_56 : decode b_MO_after 56 = .ok (.iinc 3 1, 3) := by decide +kernel
theorem d_MO_after_59 : decode b_MO_after 59 = .ok (.goto (-57), 3) := by decide +kernel
theorem d_MO_after_62 : decode b_MO_after 62 = .ok (.iload_n 3, 1) := by decide +kernel
theorem d_MO_after_63 : decode b_MO_after 63 = .ok (.ireturn, 1) := by decide +kernel
theorem d_MO_about_0 : decode b_MO_about 0 = .ok (.iload_n 1, 1) := by decide +kernel
theorem d_MO_about_1 : decode b_MO_about 1 = .ok (.ifCond .lt 18, 3) := by decide +kernel
theorem d_MO_about_4 : decode b_MO_about 4 = .ok (.iload_n 1, 1) := by decide +kernel
theorem d_MO_about_5 : decode b_MO_about 5 = .ok (.ldc 48, 2) := by decide +kernel
theorem d_MO_about_7 : decode b_MO_about 7 = .ok (.if_icmp .gt 12, 3) := by decide +kernel
theorem d_MO_about_10 : decode b_MO_about 10 = .ok (.iload_n 2, 1) := by decide +kernel
theorem d_MO_about_11 : decode b_MO_about 11 = .ok (.ifCond .lt 8, 3) := by decide +kernel
theorem d_MO_about_14 : decode b_MO_about 14 = .ok (.iload_n 2, 1) := by decide +kernel
theorem d_MO_about_15 : decode b_MO_about 15 = .ok (.iconst 4, 1) := by decide +kernel
theorem d_MO_about_16 : decode b_MO_about 16 = .ok (.if_icmp .le 6, 3) := by decide +kernel
theorem d_MO_about_19 : decode b_MO_about 19 = .ok (.bipush (-2), 2) := by decide +kernel
theorem d_MO_about_21 : decode b_MO_about 21 = .ok (.ireturn, 1) := by decide +kernel
theorem d_MO_about_22 : decode b_MO_about 22 = .ok (.iload_n 2, 1) := by decide +kernel
theorem d_MO_about_23 : decode b_MO_about 23 = .ok (.ifCond .ne 9, 3) := by decide +kernel
theorem d_MO_about_26 : decode b_MO_about 26 = .ok (.aload_n 0, 1) := by decide +kernel
theorem d_MO_about_27 : decode b_MO_about 27 = .ok (.iload_n 1, 1) := by decide +kernel
theorem d_MO_about_28 : decode b_MO_about 28 = .ok (.invokevirtual 75, 3) := by decide +kernel
theorem d_MO_about_31 : decode b_MO_about 31 = .ok (.ireturn, 1) := by decide +kernel
theorem d_MO_about_32 : decode b_MO_about 32 = .ok (.iload_n 2, 1) := by decide +kernel
theorem d_MO_about_33 : decode b_MO_about 33 = .ok (.iconst 1, 1) := by decide +kernel
theorem d_MO_about_34 : decode b_MO_about 34 = .ok (.if_icmp .ne 9, 3) := by decide +kernel
theorem d_MO_about_37 : decode b_MO_about 37 = .ok (.aload_n 0, 1) := by decide +kernel
theorem d_MO_about_38 : decode b_MO_about 38 = .ok (.iload_n 1, 1) := by decide +kernel
theorem d_MO_about_39 : decode b_MO_about 39 = .ok (.invokevirtual 131, 3) := by decide +kernel
theorem d_MO_about_42 : decode b_MO_about 42 = .ok (.ireturn, 1) := by decide +kernel
theorem d_MO_about_43 : decode b_MO_about 43 = .ok (.iload_n 1, 1) := by decide +kernel
theorem d_MO_about_44 : decode b_MO_about 44 = .ok (.aload_n 0, 1) := by decide +kernel
theorem d_MO_about_45 : decode b_MO_about 45 = .ok (.getfield 49, 3) := by decide +kernel
theorem d_MO_about_48 : decode b_MO_about 48 = .ok (.if_icmp .le 6, 3) := by decide +kernel
theorem d_MO_about_51 : decode b_MO_about 51 = .ok (.bipush (-2), 2) := by decide +kernel
theorem d_MO_about_53 : decode b_MO_about 53 = .ok (.ireturn, 1) := by decide +kernel
theorem d_MO_about_54 : decode b_MO_about 54 = .ok (.iload_n 2, 1) := by decide +kernel
theorem d_MO_about_55 : decode b_MO_about 55 = .ok (.iconst 2, 1) := by decide +kernel
theorem d_MO_about_56 : decode b_MO_about 56 = .ok (.if_icmp .ne 11, 3) := by decide +kernel
theorem d_MO_about_59 : decode b_MO_about 59 = .ok (.aload_n 0, 1) := by decide +kernel
theorem d_MO_about_60 : decode b_MO_about 60 = .ok (.iload_n 1, 1) := by decide +kernel
theorem d_MO_about_61 : decode b_MO_about 61 = .ok (.invokevirtual 168, 3) := by decide +kernel
theorem d_MO_about_64 : decode b_MO_about 64 = .ok (.goto 21, 3) := by decide +kernel
theorem d_MO_about_67 : decode b_MO_about 67 = .ok (.iload_n 2, 1) := by decide +kernel
theorem d_MO_about_68 : decode b_MO_about 68 = .ok (.iconst 3, 1) := by decide +kernel
theorem d_MO_about_69 : decode b_MO_about 69 = .ok (.if_icmp .ne 11, 3) := by decide +kernel
theorem d_MO_about_72 : decode b_MO_about 72 = .ok (.aload_n 0, 1) := by decide +kernel
theorem d_MO_about_73 : decode b_MO_about 73 = .ok (.iload_n 1, 1) := by decide +kernel
theorem d_MO_about_74 : decode b_MO_about 74 = .ok (.invokevirtual 171, 3) := by decide +kernel
theorem d_MO_about_77 : decode b_MO_about 77 = .ok (.goto 8, 3) := by decide +kernel
theorem d_MO_about_80 : decode b_MO_about 80 = .ok (.aload_n 0, 1) := by decide +kernel
theorem d_MO_about_81 : decode b_MO_about 81 = .ok (.iload_n 1, 1) := by decide +kernel
theorem d_MO_about_82 : decode b_MO_about 82 = .ok (.invokevirtual 174, 3) := by decide +kernel
theorem d_MO_about_85 : decode b_MO_about 85 = .ok (.ireturn, 1) := by decide +kernel
theorem d_CR_init_0 : decode b_CR_init 0 = .ok (.aload_n 0, 1) := by decide +kernel
theorem d_CR_init_1 : decode b_CR_init 1 = .ok (.invokespecial 3, 3) := by decide +kernel
theorem d_CR_init_4 : decode b_CR_init 4 = .ok (.aload_n 0, 1) := by decide +kernel
theorem d_CR_init_5 : decode b_CR_init 5 = .ok (.iload_n 2, 1) := by decide +kernel
theorem d_CR_init_6 : decode b_CR_init 6 = .ok (.putfield 9, 3) := by decide +kernel
theorem d_CR_init_9 : decode b_CR_init 9 = .ok (.aload_n 0, 1) := by decide +kernel
theorem d_CR_init_10 : decode b_CR_init 10 = .ok (.sipush 1122, 3) := by decide +kernel
theorem d_CR_init_13 : decode b_CR_init 13 = .ok (.newarray .int, 2) := by decide +kernel
theorem d_CR_init_15 : decode b_CR_init 15 = .ok (.putfield 13, 3) := by decide +kernel
theorem d_CR_init_18 : decode b_CR_init 18 = .ok (.iconst 0, 1) := by decide +kernel
theorem d_CR_init_19 : decode b_CR_init 19 = .ok (.istore_n 3, 1) := by decide +kernel
theorem d_CR_init_20 : decode b_CR_init 20 = .ok (.iload_n 3, 1) := by decide +kernel
theorem d_CR_init_21 : decode b_CR_init 21 = .ok (.sipush 1122, 3) := by decide +kernel
theorem d_CR_init_24 : decode b_CR_init 24 = .ok (.if_icmp .ge 19, 3) := by decide +kernel
theorem d_CR_init_27 : decode b_CR_init 27 = .ok (.aload_n 0, 1) := by decide +kernel
theorem d_CR_init_28 : decode b_CR_init 28 = .ok (.getfield 13, 3) := by decide +kernel
theorem d_CR_init_31 : decode b_CR_init 31 = .ok (.iload_n 3, 1) := by decide +kernel
theorem d_CR_init_32 : decode b_CR_init 32 = .ok (.iload_n 3, 1) := by decide +kernel
theorem d_CR_init_33 : decode b_CR_init 33 = .ok (.invokestatic 17, 3) := by decide +kernel
theorem d_CR_init_36 : decode b_CR_init 36 = .ok (.iastore, 1) := by decide +kernel
theorem d_CR_init_37 : decode b_CR_init 37 = .ok (.iinc 3 1, 3) := by decide +kernel
theorem d_CR_init_40 : decode b_CR_init 40 = .ok (.goto (-20), 3) := by decide +kernel
theorem d_CR_init_43 : decode b_CR_init 43 = .ok (.iload_n 1, 1) := by decide +kernel
theorem d_CR_init_44 : decode b_CR_init 44 = .ok (.ifCond .eq 10, 3) := by decide +kernel
theorem d_CR_init_47 : decode b_CR_init 47 = .ok (.getstatic 21, 3) := by decide +kernel
theorem d_CR_init_50 : decode b_CR_init 50 = .ok (.arraylength, 1) := by decide +kernel
theorem d_CR_init_51 : decode b_CR_init 51 = .ok (.goto 4, 3) := by decide +kernel
theorem d_CR_init_54 : decode b_CR_init 54 = .ok (.iconst 4, 1) := by decide +kernel
theorem d_CR_init_55 : decode b_CR_init 55 = .ok (.istore_n 3, 1) := by decide +kernel
theorem d_CR_init_56 : decode b_CR_init 56 = .ok (.iconst 0, 1) := by decide +kernel
theorem d_CR_init_57 : decode b_CR_init 57 = .ok (.istore 4, 2) := by decide +kernel
theorem d_CR_init_59 : decode b_CR_init 59 = .ok (.iload 4, 2) := by decide +kernel
theorem d_CR_init_61 : decode b_CR_init 61 = .ok (.iconst 3, 1) := by decide +kernel
theorem d_CR_init_62 : decode b_CR_init 62 = .ok (.iadd, 1) := by decide +kernel
theorem d_CR_init_63 : decode b_CR_init 63 = .ok (.iload_n 3, 1) := by decide +kernel
theorem d_CR_init_64 : decode b_CR_init 64 = .ok (.if_icmp .ge 15, 3) := by decide +kernel
theorem d_CR_init_67 : decode b_CR_init 67 = .ok (.aload_n 0, 1) := by decide +kernel
theorem d_CR_init_68 : decode b_CR_init 68 = .ok (.iload 4, 2) := by decide +kernel
theorem d_CR_init_70 : decode b_CR_init 70 = .ok (.invokevirtual 24, 3) := by decide +kernel
theorem d_CR_init_73 : decode b_CR_init 73 = .ok (.iinc 4 4, 3) := by decide +kernel
theorem d_CR_init_76 : decode b_CR_init 76 = .ok (.goto (-17), 3) := by decide +kernel
theorem d_CR_init_79 : decode b_CR_init 79 = .ok (.iconst 0, 1) := by decide +kernel
theorem d_CR_init_80 : decode b_CR_init 80 = .ok (.istore 4, 2) := by decide +kernel
theorem d_CR_init_82 : decode b_CR_init 82 = .ok (.iload 4, 2) := by decide +kernel
theorem d_CR_init_84 : decode b_CR_init 84 = .ok (.iconst 2, 1) := by decide +kernel
theorem d_CR_init_85 : decode b_CR_init 85 = .ok (.iadd, 1) := by decide +kernel
theorem d_CR_init_86 : decode b_CR_init 86 = .ok (.getstatic 28, 3) := by decide +kernel
theorem d_CR_init_89 : decode b_CR_init 89 = .ok (.arraylength, 1) := by decide +kernel
theorem d_CR_init_90 : decode b_CR_init 90 = .ok (.if_icmp .ge 35, 3) := by decide +kernel
theorem d_CR_init_93 : decode b_CR_init 93 = .ok (.aload_n 0, 1) := by decide +kernel
theorem d_CR_init_94 : decode b_CR_init 94 = .ok (.getstatic 28, 3) := by decide +kernel
theorem d_CR_init_97 : decode b_CR_init 97 = .ok (.iload 4, 2) := by decide +kernel
theorem d_CR_init_99 : decode b_CR_init 99 = .ok (.iaload, 1) := by decide +kernel
theorem d_CR_init_100 : decode b_CR_init 100 = .ok (.getstatic 28, 3) := by decide +kernel
theorem d_CR_init_103 : decode b_CR_init 103 = .ok (.iload 4, 2) := by decide +kernel
theorem d_CR_init_105 : decode b_CR_init 105 = .ok (.iconst 1, 1) := by decide +kernel
theorem d_CR_init_106 : decode b_CR_init 106 = .ok (.iadd, 1) := by decide +kernel
theorem d_CR_init_107 : decode b_CR_init 107 = .ok (.iaload, 1) := by decide +kernel
theorem d_CR_init_108 : decode b_CR_init 108 = .ok (.getstatic 28, 3) := by decide +kernel
theorem d_CR_init_111 : decode b_CR_init 111 = .ok (.iload 4, 2) := by decide +kernel
theorem d_CR_init_113 : decode b_CR_init 113 = .ok (.iconst 2, 1) := by decide +kernel
theorem d_CR_init_114 : decode b_CR_init 114 = .ok (.iadd, 1) := by decide +kernel
theorem d_CR_init_115 : decode b_CR_init 115 = .ok (.iaload, 1) := by decide +kernel
theorem d_CR_init_116 : decode b_CR_init 116 = .ok (.invokevirtual 31, 3) := by decide +kernel
theorem d_CR_init_119 : decode b_CR_init 119 = .ok (.iinc 4 3, 3) := by decide +kernel
theorem d_CR_init_122 : decode b_CR_init 122 = .ok (.goto (-40), 3) := by decide +kernel
theorem d_CR_init_125 : decode b_CR_init 125 = .ok (.return_, 1) := by decide +kernel
theorem d_CR_characterAt_0 : decode b_CR_characterAt 0 = .ok (.iload_n 0, 1) := by decide +kernel
theorem d_CR_characterAt_1 : decode b_CR_characterAt 1 = .ok (.sipush 1120, 3) := by decide +kernel
theorem d_CR_characterAt_4 : decode b_CR_characterAt 4 = .ok (.if_icmp .ge 7, 3) := by decide +kernel
theorem d_CR_characterAt_7 : decode b_CR_characterAt 7 = .ok (.iload_n 0, 1) := by decide +kernel
theorem d_CR_characterAt_8 : decode b_CR_characterAt 8 = .ok (.goto 12, 3) := by decide +kernel
theorem d_CR_characterAt_11 : decode b_CR_characterAt 11 = .ok (.sipush 8490, 3) := by decide +kernel
theorem d_CR_characterAt_14 : decode b_CR_characterAt 14 = .ok (.iload_n 0, 1) := by decide +kernel
theorem d_CR_characterAt_15 : decode b_CR_characterAt 15 = .ok (.iadd, 1) := by decide +kernel
theorem d_CR_characterAt_16 : decode b_CR_characterAt 16 = .ok (.sipush 1120, 3) := by decide +kernel
theorem d_CR_characterAt_19 : decode b_CR_characterAt 19 = .ok (.isub, 1) := by decide +kernel
theorem d_CR_characterAt_20 : decode b_CR_characterAt 20 = .ok (.ireturn, 1) := by decide +kernel
theorem d_CR_nextOf_0 : decode b_CR_nextOf 0 = .ok (.iload_n 1, 1) := by decide +kernel
theorem d_CR_nextOf_1 : decode b_CR_nextOf 1 = .ok (.invokestatic 35, 3) := by decide +kernel
theorem d_CR_nextOf_4 : decode b_CR_nextOf 4 = .ok (.istore_n 2, 1) := by decide +kernel
theorem d_CR_nextOf_5 : decode b_CR_nextOf 5 = .ok (.iload_n 2, 1) := by decide +kernel
theorem d_CR_nextOf_6 : decode b_CR_nextOf 6 = .ok (.ifCond .ge 7, 3) := by decide +kernel
theorem d_CR_nextOf_9 : decode b_CR_nextOf 9 = .ok (.iload_n 1, 1) := by decide +kernel
theorem d_CR_nextOf_10 : decode b_CR_nextOf 10 = .ok (.goto 9, 3) := by decide +kernel
theorem d_CR_nextOf_13 : decode b_CR_nextOf 13 = .ok (.aload_n 0, 1) := by decide +kernel
theorem d_CR_nextOf_14 : decode b_CR_nextOf 14 = .ok (.getfield 13, 3) := by decide +kernel
theorem d_CR_nextOf_17 : decode b_CR_nextOf 17 = .ok (.iload_n 2, 1) := by decide +kernel
theorem d_CR_nextOf_18 : decode b_CR_nextOf 18 = .ok (.iaload, 1) := by decide +kernel
theorem d_CR_nextOf_19 : decode b_CR_nextOf 19 = .ok (.ireturn, 1) := by decide +kernel
theorem d_CR_slotOf_0 : decode b_CR_slotOf 0 = .ok (.iload_n 0, 1) := by decide +kernel
theorem d_CR_slotOf_1 : decode b_CR_slotOf 1 = .ok (.ifCond .lt 12, 3) := by decide +kernel
theorem d_CR_slotOf_4 : decode b_CR_slotOf 4 = .ok (.iload_n 0, 1) := by decide +kernel
theorem d_CR_slotOf_5 : decode b_CR_slotOf 5 = .ok (.sipush 1120, 3) := by decide +kernel
theorem d_CR_slotOf_8 : decode b_CR_slotOf 8 = .ok (.if_icmp .ge 5, 3) := by decide +kernel
theorem d_CR_slotOf_11 : decode b_CR_slotOf 11 = .ok (.iload_n 0, 1) := by decide +kernel
theorem d_CR_slotOf_12 : decode b_CR_slotOf 12 = .ok (.ireturn, 1) := by decide +kernel
theorem d_CR_slotOf_13 : decode b_CR_slotOf 13 = .ok (.iload_n 0, 1) := by decide +kernel
theorem d_CR_slotOf_14 : decode b_CR_slotOf 14 = .ok (.sipush 8490, 3) := by decide +kernel
theorem d_CR_slotOf_17 : decode b_CR_slotOf 17 = .ok (.if_icmp .lt 22, 3) := by decide +kernel
theorem d_CR_slotOf_20 : decode b_CR_slotOf 20 = .ok (.iload_n 0, 1) := by decide +kernel
theorem d_CR_slotOf_21 : decode b_CR_slotOf 21 = .ok (.sipush 8491, 3) := by decide +kernel
theorem d_CR_slotOf_24 : decode b_CR_slotOf 24 = .ok (.if_icmp .gt 15, 3) := by decide +kernel
theorem d_CR_slotOf_27 : decode b_CR_slotOf 27 = .ok (.sipush 1120, 3) := by decide +kernel
theorem d_CR_slotOf_30 : decode b_CR_slotOf 30 = .ok (.iload_n 0, 1) := by decide +kernel
theorem d_CR_slotOf_31 : decode b_CR_slotOf 31 = .ok (.iadd, 1) := by decide +kernel
theorem d_CR_slotOf_32 : decode b_CR_slotOf 32 = .ok (.sipush 8490, 3) := by decide +kernel
theorem d_CR_slotOf_35 : decode b_CR_slotOf 35 = .ok (.isub, 1) := by decide +kernel
theorem d_CR_slotOf_36 : decode b_CR_slotOf 36 = .ok (.goto 4, 3) := by decide +kernel
theorem d_CR_slotOf_39 : decode b_CR_slotOf 39 = .ok (.iconst (-1), 1) := by decide +kernel
theorem d_CR_slotOf_40 : decode b_CR_slotOf 40 = .ok (.ireturn, 1) := by decide +kernel
theorem d_CR_linkPairs_0 : decode b_CR_linkPairs 0 = .ok (.getstatic 21, 3) := by decide +kernel
theorem d_CR_linkPairs_3 : decode b_CR_linkPairs 3 = .ok (.iload_n 1, 1) := by decide +kernel
theorem d_CR_linkPairs_4 : decode b_CR_linkPairs 4 = .ok (.iconst 2, 1) := by decide +kernel
theorem d_CR_linkPairs_5 : decode b_CR_linkPairs 5 = .ok (.iadd, 1) := by decide +kernel
theorem d_CR_linkPairs_6 : decode b_CR_linkPairs 6 = .ok (.iaload, 1) := by decide +kernel
theorem d_CR_linkPairs_7 : decode b_CR_linkPairs 7 = .ok (.istore_n 2, 1) := by decide +kernel
theorem d_CR_linkPairs_8 : decode b_CR_linkPairs 8 = .ok (.getstatic 21, 3) := by decide +kernel
theorem d_CR_linkPairs_11 : decode b_CR_linkPairs 11 = .ok (.iload_n 1, 1) := by decide +kernel
theorem d_CR_linkPairs_12 : decode b_CR_linkPairs 12 = .ok (.iconst 3, 1) := by decide +kernel
theorem d_CR_linkPairs_13 : decode b_CR_linkPairs 13 = .ok (.iadd, 1) := by decide +kernel
theorem d_CR_linkPairs_14 : decode b_CR_linkPairs 14 = .ok (.iaload, 1) := by decide +kernel
theorem d_CR_linkPairs_15 : decode b_CR_linkPairs 15 = .ok (.iconst 2, 1) := by decide +kernel
theorem d_CR_linkPairs_16 : decode b_CR_linkPairs 16 = .ok (.if_icmp .ne 7, 3) := by decide +kernel
theorem d_CR_linkPairs_19 : decode b_CR_linkPairs 19 = .ok (.iconst 2, 1) := by decide +kernel
theorem d_CR_linkPairs_20 : decode b_CR_linkPairs 20 = .ok (.goto 4, 3) := by decide +kernel
theorem d_CR_linkPairs_23 : decode b_CR_linkPairs 23 = .ok (.iconst 1, 1) := by decide +kernel
theorem d_CR_linkPairs_24 : decode b_CR_linkPairs 24 = .ok (.istore_n 3, 1) := by decide +kernel
theorem d_CR_linkPairs_25 : decode b_CR_linkPairs 25 = .ok (.getstatic 21, 3) := by decide +kernel
theorem d_CR_linkPairs_28 : decode b_CR_linkPairs 28 = .ok (.iload_n 1, 1) := by decide +kernel
theorem d_CR_linkPairs_29 : decode b_CR_linkPairs 29 = .ok (.iaload, 1) := by decide +kernel
theorem d_CR_linkPairs_30 : decode b_CR_linkPairs 30 = .ok (.istore 4, 2) := by decide +kernel
theorem d_CR_linkPairs_32 : decode b_CR_linkPairs 32 = .ok (.iload 4, 2) := by decide +kernel
theorem d_CR_linkPairs_34 : decode b_CR_linkPairs 34 = .ok (.getstatic 21, 3) := by decide +kernel
theorem d_CR_linkPairs_37 : decode b_CR_linkPairs 37 = .ok (.iload_n 1, 1) := by decide +kernel
theorem d_CR_linkPairs_38 : decode b_CR_linkPairs 38 = .ok (.iconst 1, 1) := by decide +kernel
theorem d_CR_linkPairs_39 : decode b_CR_linkPairs 39 = .ok (.iadd, 1) := by decide +kernel
theorem d_CR_linkPairs_40 : decode b_CR_linkPairs 40 = .ok (.iaload, 1) := by decide +kernel
theorem d_CR_linkPairs_41 : decode b_CR_linkPairs 41 = .ok (.if_icmp .gt 43, 3) := by decide +kernel
theorem d_CR_linkPairs_44 : decode b_CR_linkPairs 44 = .ok (.iload 4, 2) := by decide +kernel
theorem d_CR_linkPairs_46 : decode b_CR_linkPairs 46 = .ok (.iload_n 2, 1) := by decide +kernel
theorem d_CR_linkPairs_47 : decode b_CR_linkPairs 47 = .ok (.iadd, 1) := by decide +kernel
theorem d_CR_linkPairs_48 : decode b_CR_linkPairs 48 = .ok (.aload_n 0, 1) := by decide +kernel
theorem d_CR_linkPairs_49 : decode b_CR_linkPairs 49 = .ok (.getfield 9, 3) := by decide +kernel
theorem d_CR_linkPairs_52 : decode b_CR_linkPairs 52 = .ok (.if_icmp .gt 23, 3) := by decide +kernel
theorem d_CR_linkPairs_55 : decode b_CR_linkPairs 55 = .ok (.aload_n 0, 1) := by decide +kernel
theorem d_CR_linkPairs_56 : decode b_CR_linkPairs 56 = .ok (.iload 4, 2) := by decide +kernel
theorem d_CR_linkPairs_58 : decode b_CR_linkPairs 58 = .ok (.iload 4, 2) := by decide +kernel
theorem d_CR_linkPairs_60 : decode b_CR_linkPairs 60 = .ok (.iload_n 2, 1) := by decide +kernel
theorem d_CR_linkPairs_61 : decode b_CR_linkPairs 61 = .ok (.iadd, 1) := by decide +kernel
theorem d_CR_linkPairs_62 : decode b_CR_linkPairs 62 = .ok (.invokevirtual 38, 3) := by decide +kernel
theorem d_CR_linkPairs_65 : decode b_CR_linkPairs 65 = .ok (.aload_n 0, 1) := by decide +kernel
theorem d_CR_linkPairs_66 : decode b_CR_linkPairs 66 = .ok (.iload 4, 2) := by decide +kernel
theorem d_CR_linkPairs_68 : decode b_CR_linkPairs 68 = .ok (.iload_n 2, 1) := by decide +kernel
theorem d_CR_linkPairs_69 : decode b_CR_linkPairs 69 = .ok (.iadd, 1) := by decide +kernel
theorem d_CR_linkPairs_70 : decode b_CR_linkPairs 70 = .ok (.iload 4, 2) := by decide +kernel
theorem d_CR_linkPairs_72 : decode b_CR_linkPairs 72 = .ok (.invokevirtual 38, 3) := by decide +kernel
theorem d_CR_linkPairs_75 : decode b_CR_linkPairs 75 = .ok (.iload 4, 2) := by decide +kernel
theorem d_CR_linkPairs_77 : decode b_CR_linkPairs 77 = .ok (.iload_n 3, 1) := by decide +kernel
theorem d_CR_linkPairs_78 : decode b_CR_linkPairs 78 = .ok (.iadd, 1) := by decide +kernel
theorem d_CR_linkPairs_79 : decode b_CR_linkPairs 79 = .ok (.istore 4, 2) := by decide +kernel
theorem d_CR_linkPairs_81 : decode b_CR_linkPairs 81 = .ok (.goto (-49), 3) := by decide +kernel
theorem d_CR_linkPairs_84 : decode b_CR_linkPairs 84 = .ok (.return_, 1) := by decide +kernel
