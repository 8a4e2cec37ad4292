theorem d_CR_linkThree_0 : decode b_CR_linkThree 0 = .ok (.iload_n 3, 1) := by decide +kernel
theorem d_CR_linkThree_1 : decode b_CR_linkThree 1 = .ok (.aload_n 0, 1) := by decide +kernel
theorem d_CR_linkThree_2 : decode b_CR_linkThree 2 = .ok (.getfield 9, 3) := by decide +kernel
theorem d_CR_linkThree_5 : decode b_CR_linkThree 5 = .ok (.if_icmp .gt 21, 3) := by decide +kernel
theorem d_CR_linkThree_8 : decode b_CR_linkThree 8 = .ok (.aload_n 0, 1) := by decide +kernel
theorem d_CR_linkThree_9 : decode b_CR_linkThree 9 = .ok (.iload_n 1, 1) := by decide +kernel
theorem d_CR_linkThree_10 : decode b_CR_linkThree 10 = .ok (.iload_n 2, 1) := by decide +kernel
theorem d_CR_linkThree_11 : decode b_CR_linkThree 11 = .ok (.invokevirtual 38, 3) := by decide +kernel
theorem d_CR_linkThree_14 : decode b_CR_linkThree 14 = .ok (.aload_n 0, 1) := by decide +kernel
theorem d_CR_linkThree_15 : decode b_CR_linkThree 15 = .ok (.iload_n 2, 1) := by decide +kernel
theorem d_CR_linkThree_16 : decode b_CR_linkThree 16 = .ok (.iload_n 3, 1) := by decide +kernel
theorem d_CR_linkThree_17 : decode b_CR_linkThree 17 = .ok (.invokevirtual 38, 3) := by decide +kernel
theorem d_CR_linkThree_20 : decode b_CR_linkThree 20 = .ok (.aload_n 0, 1) := by decide +kernel
theorem d_CR_linkThree_21 : decode b_CR_linkThree 21 = .ok (.iload_n 3, 1) := by decide +kernel
theorem d_CR_linkThree_22 : decode b_CR_linkThree 22 = .ok (.iload_n 1, 1) := by decide +kernel
theorem d_CR_linkThree_23 : decode b_CR_linkThree 23 = .ok (.invokevirtual 38, 3) := by decide +kernel
theorem d_CR_linkThree_26 : decode b_CR_linkThree 26 = .ok (.return_, 1) := by decide +kernel
theorem d_CR_point_0 : decode b_CR_point 0 = .ok (.iload_n 1, 1) := by decide +kernel
theorem d_CR_point_1 : decode b_CR_point 1 = .ok (.invokestatic 35, 3) := by decide +kernel
theorem d_CR_point_4 : decode b_CR_point 4 = .ok (.istore_n 3, 1) := by decide +kernel
theorem d_CR_point_5 : decode b_CR_point 5 = .ok (.iload_n 3, 1) := by decide +kernel
theorem d_CR_point_6 : decode b_CR_point 6 = .ok (.ifCond .lt 10, 3) := by decide +kernel
theorem d_CR_point_9 : decode b_CR_point 9 = .ok (.aload_n 0, 1) := by decide +kernel
theorem d_CR_point_10 : decode b_CR_point 10 = .ok (.getfield 13, 3) := by decide +kernel
theorem d_CR_point_13 : decode b_CR_point 13 = .ok (.iload_n 3, 1) := by decide +kernel
theorem d_CR_point_14 : decode b_CR_point 14 = .ok (.iload_n 2, 1) := by decide +kernel
theorem d_CR_point_15 : decode b_CR_point 15 = .ok (.iastore, 1) := by decide +kernel
theorem d_CR_point_16 : decode b_CR_point 16 = .ok (.return_, 1) := by decide +kernel
theorem d_RG_init_0 : decode b_RG_init 0 = .ok (.aload_n 0, 1) := by decide +kernel
theorem d_RG_init_1 : decode b_RG_init 1 = .ok (.invokespecial 1, 3) := by decide +kernel
theorem d_RG_init_4 : decode b_RG_init 4 = .ok (.aload_n 0, 1) := by decide +kernel
theorem d_RG_init_5 : decode b_RG_init 5 = .ok (.sipush 2048, 3) := by decide +kernel
theorem d_RG_init_8 : decode b_RG_init 8 = .ok (.newarray .int, 2) := by decide +kernel
theorem d_RG_init_10 : decode b_RG_init 10 = .ok (.putfield 9, 3) := by decide +kernel
theorem d_RG_init_13 : decode b_RG_init 13 = .ok (.aload_n 0, 1) := by decide +kernel
theorem d_RG_init_14 : decode b_RG_init 14 = .ok (.iconst 0, 1) := by decide +kernel
theorem d_RG_init_15 : decode b_RG_init 15 = .ok (.putfield 13, 3) := by decide +kernel
theorem d_RG_init_18 : decode b_RG_init 18 = .ok (.return_, 1) := by decide +kernel
theorem d_RG_empty_0 : decode b_RG_empty 0 = .ok (.aload_n 0, 1) := by decide +kernel
theorem d_RG_empty_1 : decode b_RG_empty 1 = .ok (.iconst 0, 1) := by decide +kernel
theorem d_RG_empty_2 : decode b_RG_empty 2 = .ok (.putfield 13, 3) := by decide +kernel
theorem d_RG_empty_5 : decode b_RG_empty 5 = .ok (.return_, 1) := by decide +kernel
theorem d_RG_rangeCount_0 : decode b_RG_rangeCount 0 = .ok (.aload_n 0, 1) := by decide +kernel
theorem d_RG_rangeCount_1 : decode b_RG_rangeCount 1 = .ok (.getfield 13, 3) := by decide +kernel
theorem d_RG_rangeCount_4 : decode b_RG_rangeCount 4 = .ok (.iconst 2, 1) := by decide +kernel
theorem d_RG_rangeCount_5 : decode b_RG_rangeCount 5 = .ok (.idiv, 1) := by decide +kernel
theorem d_RG_rangeCount_6 : decode b_RG_rangeCount 6 = .ok (.ireturn, 1) := by decide +kernel
theorem d_RG_lowOf_0 : decode b_RG_lowOf 0 = .ok (.aload_n 0, 1) := by decide +kernel
theorem d_RG_lowOf_1 : decode b_RG_lowOf 1 = .ok (.getfield 9, 3) := by decide +kernel
theorem d_RG_lowOf_4 : decode b_RG_lowOf 4 = .ok (.iconst 2, 1) := by decide +kernel
theorem d_RG_lowOf_5 : decode b_RG_lowOf 5 = .ok (.iload_n 1, 1) := by decide +kernel
theorem d_RG_lowOf_6 : decode b_RG_lowOf 6 = .ok (.imul, 1) := by decide +kernel
theorem d_RG_lowOf_7 : decode b_RG_lowOf 7 = .ok (.iaload, 1) := by decide +kernel
theorem d_RG_lowOf_8 : decode b_RG_lowOf 8 = .ok (.ireturn, 1) := by decide +kernel
theorem d_RG_highOf_0 : decode b_RG_highOf 0 = .ok (.aload_n 0, 1) := by decide +kernel
theorem d_RG_highOf_1 : decode b_RG_highOf 1 = .ok (.getfield 9, 3) := by decide +kernel
theorem d_RG_highOf_4 : decode b_RG_highOf 4 = .ok (.iconst 2, 1) := by decide +kernel
theorem d_RG_highOf_5 : decode b_RG_highOf 5 = .ok (.iload_n 1, 1) := by decide +kernel
theorem d_RG_highOf_6 : decode b_RG_highOf 6 = .ok (.imul, 1) := by decide +kernel
theorem d_RG_highOf_7 : decode b_RG_highOf 7 = .ok (.iconst 1, 1) := by decide +kernel
theorem d_RG_highOf_8 : decode b_RG_highOf 8 = .ok (.iadd, 1) := by decide +kernel
theorem d_RG_highOf_9 : decode b_RG_highOf 9 = .ok (.iaload, 1) := by decide +kernel
theorem d_RG_highOf_10 : decode b_RG_highOf 10 = .ok (.iconst 1, 1) := by decide +kernel
theorem d_RG_highOf_11 : decode b_RG_highOf 11 = .ok (.isub, 1) := by decide +kernel
theorem d_RG_highOf_12 : decode b_RG_highOf 12 = .ok (.ireturn, 1) := by decide +kernel
theorem d_RG_memberCount_0 : decode b_RG_memberCount 0 = .ok (.iconst 0, 1) := by decide +kernel
theorem d_RG_memberCount_1 : decode b_RG_memberCount 1 = .ok (.istore_n 1, 1) := by decide +kernel
theorem d_RG_memberCount_2 : decode b_RG_memberCount 2 = .ok (.iconst 0, 1) := by decide +kernel
theorem d_RG_memberCount_3 : decode b_RG_memberCount 3 = .ok (.istore_n 2, 1) := by decide +kernel
theorem d_RG_memberCount_4 : decode b_RG_memberCount 4 = .ok (.iload_n 2, 1) := by decide +kernel
theorem d_RG_memberCount_5 : decode b_RG_memberCount 5 = .ok (.iconst 1, 1) := by decide +kernel
theorem d_RG_memberCount_6 : decode b_RG_memberCount 6 = .ok (.iadd, 1) := by decide +kernel
theorem d_RG_memberCount_7 : decode b_RG_memberCount 7 = .ok (.aload_n 0, 1) := by decide +kernel
theorem d_RG_memberCount_8 : decode b_RG_memberCount 8 = .ok (.getfield 13, 3) := by decide +kernel
theorem d_RG_memberCount_11 : decode b_RG_memberCount 11 = .ok (.if_icmp .ge 27, 3) := by decide +kernel
theorem d_RG_memberCount_14 : decode b_RG_memberCount 14 = .ok (.iload_n 1, 1) := by decide +kernel
theorem d_RG_memberCount_15 : decode b_RG_memberCount 15 = .ok (.aload_n 0, 1) := by decide +kernel
theorem d_RG_memberCount_16 : decode b_RG_memberCount 16 = .ok (.getfield 9, 3) := by decide +kernel
theorem d_RG_memberCount_19 : decode b_RG_memberCount 19 = .ok (.iload_n 2, 1) := by decide +kernel
theorem d_RG_memberCount_20 : decode b_RG_memberCount 20 = .ok (.iconst 1, 1) := by decide +kernel
theorem d_RG_memberCount_21 : decode b_RG_memberCount 21 = .ok (.iadd, 1) := by decide +kernel
theorem d_RG_memberCount_22 : decode b_RG_memberCount 22 = .ok (.iaload, 1) := by decide +kernel
theorem d_RG_memberCount_23 : decode b_RG_memberCount 23 = .ok (.aload_n 0, 1) := by decide +kernel
theorem d_RG_memberCount_24 : decode b_RG_memberCount 24 = .ok (.getfield 9, 3) := by decide +kernel
theorem d_RG_memberCount_27 : decode b_RG_memberCount 27 = .ok (.iload_n 2, 1) := by decide +kernel
theorem d_RG_memberCount_28 : decode b_RG_memberCount 28 = .ok (.iaload, 1) := by decide +kernel
theorem d_RG_memberCount_29 : decode b_RG_memberCount 29 = .ok (.isub, 1) := by decide +kernel
theorem d_RG_memberCount_30 : decode b_RG_memberCount 30 = .ok (.iadd, 1) := by decide +kernel
theorem d_RG_memberCount_31 : decode b_RG_memberCount 31 = .ok (.istore_n 1, 1) := by decide +kernel
theorem d_RG_memberCount_32 : decode b_RG_memberCount 32 = .ok (.iinc 2 2, 3) := by decide +kernel
theorem d_RG_memberCount_35 : decode b_RG_memberCount 35 = .ok (.goto (-31), 3) := by decide +kernel
theorem d_RG_memberCount_38 : decode b_RG_memberCount 38 = .ok (.iload_n 1, 1) := by decide +kernel
theorem d_RG_memberCount_39 : decode b_RG_memberCount 39 = .ok (.ireturn, 1) := by decide +kernel
theorem d_RG_contains_0 : decode b_RG_contains 0 = .ok (.aload_n 0, 1) := by decide +kernel
theorem d_RG_contains_1 : decode b_RG_contains 1 = .ok (.iload_n 1, 1) := by decide +kernel
theorem d_RG_contains_2 : decode b_RG_contains 2 = .ok (.invokevirtual 17, 3) := by decide +kernel
theorem d_RG_contains_5 : decode b_RG_contains 5 = .ok (.iconst 2, 1) := by decide +kernel
theorem d_RG_contains_6 : decode b_RG_contains 6 = .ok (.irem, 1) := by decide +kernel
theorem d_RG_contains_7 : decode b_RG_contains 7 = .ok (.iconst 1, 1) := by decide +kernel
theorem d_RG_contains_8 : decode b_RG_contains 8 = .ok (.if_icmp .ne 7, 3) := by decide +kernel
theorem d_RG_contains_11 : decode b_RG_contains 11 = .ok (.iconst 1, 1) := by decide +kernel
theorem d_RG_contains_12 : decode b_RG_contains 12 = .ok (.goto 4, 3) := by decide +kernel
theorem d_RG_contains_15 : decode b_RG_contains 15 = .ok (.iconst 0, 1) := by decide +kernel
theorem d_RG_contains_16 : decode b_RG_contains 16 = .ok (.ireturn, 1) := by decide +kernel
theorem d_RG_firstFrom_0 : decode b_RG_firstFrom 0 = .ok (.aload_n 0, 1) := by decide +kernel
theorem d_RG_firstFrom_1 : decode b_RG_firstFrom 1 = .ok (.iload_n 1, 1) := by decide +kernel
theorem d_RG_firstFrom_2 : decode b_RG_firstFrom 2 = .ok (.invokevirtual 17, 3) := by decide +kernel
theorem d_RG_firstFrom_5 : decode b_RG_firstFrom 5 = .ok (.istore_n 2, 1) := by decide +kernel
theorem d_RG_firstFrom_6 : decode b_RG_firstFrom 6 = .ok (.iload_n 2, 1) := by decide +kernel
theorem d_RG_firstFrom_7 : decode b_RG_firstFrom 7 = .ok (.iconst 2, 1) := by decide +kernel
theorem d_RG_firstFrom_8 : decode b_RG_firstFrom 8 = .ok (.irem, 1) := by decide +kernel
theorem d_RG_firstFrom_9 : decode b_RG_firstFrom 9 = .ok (.iconst 1, 1) := by decide +kernel
theorem d_RG_firstFrom_10 : decode b_RG_firstFrom 10 = .ok (.if_icmp .ne 5, 3) := by decide +kernel
theorem d_RG_firstFrom_13 : decode b_RG_firstFrom 13 = .ok (.iload_n 1, 1) := by decide +kernel
theorem d_RG_firstFrom_14 : decode b_RG_firstFrom 14 = .ok (.ireturn, 1) := by decide +kernel
theorem d_RG_firstFrom_15 : decode b_RG_firstFrom 15 = .ok (.iload_n 2, 1) := by decide +kernel
theorem d_RG_firstFrom_16 : decode b_RG_firstFrom 16 = .ok (.aload_n 0, 1) := by decide +kernel
theorem d_RG_firstFrom_17 : decode b_RG_firstFrom 17 = .ok (.getfield 13, 3) := by decide +kernel
theorem d_RG_firstFrom_20 : decode b_RG_firstFrom 20 = .ok (.if_icmp .ge 12, 3) := by decide +kernel
theorem d_RG_firstFrom_23 : decode b_RG_firstFrom 23 = .ok (.aload_n 0, 1) := by decide +kernel
theorem d_RG_firstFrom_24 : decode b_RG_firstFrom 24 = .ok (.getfield 9, 3) := by decide +kernel
theorem d_RG_firstFrom_27 : decode b_RG_firstFrom 27 = .ok (.iload_n 2, 1) := by decide +kernel
theorem d_RG_firstFrom_28 : decode b_RG_firstFrom 28 = .ok (.iaload, 1) := by decide +kernel
theorem d_RG_firstFrom_29 : decode b_RG_firstFrom 29 = .ok (.goto 4, 3) := by decide +kernel
theorem d_RG_firstFrom_32 : decode b_RG_firstFrom 32 = .ok (.iconst (-1), 1) := by decide +kernel
theorem d_RG_firstFrom_33 : decode b_RG_firstFrom 33 = .ok (.ireturn, 1) := by decide +kernel
theorem d_RG_matches_0 : decode b_RG_matches 0 = .ok (.aload_n 0, 1) := by decide +kernel
theorem d_RG_matches_1 : decode b_RG_matches 1 = .ok (.getfield 13, 3) := by decide +kernel
theorem d_RG_matches_4 : decode b_RG_matches 4 = .ok (.aload_n 1, 1) := by decide +kernel
theorem d_RG_matches_5 : decode b_RG_matches 5 = .ok (.getfield 13, 3) := by decide +kernel
theorem d_RG_matches_8 : decode b_RG_matches 8 = .ok (.if_icmp .eq 5, 3) := by decide +kernel
theorem d_RG_matches_11 : decode b_RG_matches 11 = .ok (.iconst 0, 1) := by decide +kernel
theorem d_RG_matches_12 : decode b_RG_matches 12 = .ok (.ireturn, 1) := by decide +kernel
theorem d_RG_matches_13 : decode b_RG_matches 13 = .ok (.iconst 0, 1) := by decide +kernel
theorem d_RG_matches_14 : decode b_RG_matches 14 = .ok (.istore_n 2, 1) := by decide +kernel
theorem d_RG_matches_15 : decode b_RG_matches 15 = .ok (.iload_n 2, 1) := by decide +kernel
theorem d_RG_matches_16 : decode b_RG_matches 16 = .ok (.aload_n 0, 1) := by decide +kernel
theorem d_RG_matches_17 : decode b_RG_matches 17 = .ok (.getfield 13, 3) := by decide +kernel
theorem d_RG_matches_20 : decode b_RG_matches 20 = .ok (.if_icmp .ge 26, 3) := by decide +kernel
theorem d_RG_matches_23 : decode b_RG_matches 23 = .ok (.aload_n 0, 1) := by decide +kernel
theorem d_RG_matches_24 : decode b_RG_matches 24 = .ok (.getfield 9, 3) := by decide +kernel
theorem d_RG_matches_27 : decode b_RG_matches 27 = .ok (.iload_n 2, 1) := by decide +kernel
theorem d_RG_matches_28 : decode b_RG_matches 28 = .ok (.iaload, 1) := by decide +kernel
theorem d_RG_matches_29 : decode b_RG_matches 29 = .ok (.aload_n 1, 1) := by decide +kernel
theorem d_RG_matches_30 : decode b_RG_matches 30 = .ok (.getfield 9, 3) := by decide +kernel
theorem d_RG_matches_33 : decode b_RG_matches 33 = .ok (.iload_n 2, 1) := by decide +kernel
theorem d_RG_matches_34 : decode b_RG_matches 34 = .ok (.iaload, 1) := by decide +kernel
theorem d_RG_matches_35 : decode b_RG_matches 35 = .ok (.if_icmp .eq 5, 3) := by decide +kernel
theorem d_RG_matches_38 : decode b_RG_matches 38 = .ok (.iconst 0, 1) := by decide +kernel
theorem d_RG_matches_39 : decode b_RG_matches 39 = .ok (.ireturn, 1) := by decide +kernel
theorem d_RG_matches_40 : decode b_RG_matches 40 = .ok (.iinc 2 1, 3) := by decide +kernel
theorem d_RG_matches_43 : decode b_RG_matches 43 = .ok (.goto (-28), 3) := by decide +kernel
theorem d_RG_matches_46 : decode b_RG_matches 46 = .ok (.iconst 1, 1) := by decide +kernel
theorem d_RG_matches_47 : decode b_RG_matches 47 = .ok (.ireturn, 1) := by decide +kernel
theorem d_RG_overlaps_0 : decode b_RG_overlaps 0 = .ok (.iconst 0, 1) := by decide +kernel
theorem d_RG_overlaps_1 : decode b_RG_overlaps 1 = .ok (.istore_n 2, 1) := by decide +kernel
theorem d_RG_overlaps_2 : decode b_RG_overlaps 2 = .ok (.iload_n 2, 1) := by decide +kernel
theorem d_RG_overlaps_3 : decode b_RG_overlaps 3 = .ok (.aload_n 0, 1) := by decide +kernel
theorem d_RG_overlaps_4 : decode b_RG_overlaps 4 = .ok (.invokevirtual 21, 3) := by decide +kernel
theorem d_RG_overlaps_7 : decode b_RG_overlaps 7 = .ok (.if_icmp .ge 34, 3) := by decide +kernel
theorem d_RG_overlaps_10 : decode b_RG_overlaps 10 = .ok (.aload_n 1, 1) := by decide +kernel
theorem d_RG_overlaps_11 : decode b_RG_overlaps 11 = .ok (.aload_n 0, 1) := by decide +kernel
theorem d_RG_overlaps_12 : decode b_RG_overlaps 12 = .ok (.iload_n 2, 1) := by decide +kernel
theorem d_RG_overlaps_13 : decode b_RG_overlaps 13 = .ok (.invokevirtual 25, 3) := by decide +kernel
theorem d_RG_overlaps_16 : decode b_RG_overlaps 16 = .ok (.invokevirtual 28, 3) := by decide +kernel
theorem d_RG_overlaps_19 : decode b_RG_overlaps 19 = .ok (.istore_n 3, 1) := by decide +kernel
theorem d_RG_overlaps_20 : decode b_RG_overlaps 20 = .ok (.iload_n 3, 1) := by decide +kernel
theorem d_RG_overlaps_21 : decode b_RG_overlaps 21 = .ok (.ifCond .lt 14, 3) := by decide +kernel
theorem d_RG_overlaps_24 : decode b_RG_overlaps 24 = .ok (.iload_n 3, 1) := by decide +kernel
theorem d_RG_overlaps_25 : decode b_RG_overlaps 25 = .ok (.aload_n 0, 1) := by decide +kernel
theorem d_RG_overlaps_26 : decode b_RG_overlaps 26 = .ok (.iload_n 2, 1) := by decide +kernel
theorem d_RG_overlaps_27 : decode b_RG_overlaps 27 = .ok (.invokevirtual 31, 3) := by decide +kernel
theorem d_RG_overlaps_30 : decode b_RG_overlaps 30 = .ok (.if_icmp .gt 5, 3) := by decide +kernel
theorem d_RG_overlaps_33 : decode b_RG_overlaps 33 = .ok (.iconst 1, 1) := by decide +kernel
theorem d_RG_overlaps_34 : decode b_RG_overlaps 34 = .ok (.ireturn, 1) := by decide +kernel
theorem d_RG_overlaps_35 : decode b_RG_overlaps 35 = .ok (.iinc 2 1, 3) := by decide +kernel
theorem d_RG_overlaps_38 : decode b_RG_overlaps 38 = .ok (.goto (-36), 3) := by decide +kernel
theorem d_RG_overlaps_41 : decode b_RG_overlaps 41 = .ok (.iconst 0, 1) := by decide +kernel
theorem d_RG_overlaps_42 : decode b_RG_overlaps 42 = .ok (.ireturn, 1) := by decide +kernel
theorem d_RG_insert_0 : decode b_RG_insert 0 = .ok (.aload_n 0, 1) := by decide +kernel
theorem d_RG_insert_1 : decode b_RG_insert 1 = .ok (.iload_n 1, 1) := by decide +kernel
theorem d_RG_insert_2 : decode b_RG_insert 2 = .ok (.iconst 1, 1) := by decide +kernel
theorem d_RG_insert_3 : decode b_RG_insert 3 = .ok (.isub, 1) := by decide +kernel
theorem d_RG_insert_4 : decode b_RG_insert 4 = .ok (.invokevirtual 17, 3) := by decide +kernel
theorem d_RG_insert_7 : decode b_RG_insert 7 = .ok (.istore_n 3, 1) := by decide +kernel
theorem d_RG_insert_8 : decode b_RG_insert 8 = .ok (.aload_n 0, 1) := by decide +kernel
theorem d_RG_insert_9 : decode b_RG_insert 9 = .ok (.iload_n 2, 1) := by decide +kernel
theorem d_RG_insert_10 : decode b_RG_insert 10 = .ok (.iconst 1, 1) := by decide +kernel
theorem d_RG_insert_11 : decode b_RG_insert 11 = .ok (.iadd, 1) := by decide +kernel
theorem d_RG_insert_12 : decode b_RG_insert 12 = .ok (.invokevirtual 17, 3) := by decide +kernel
theorem d_RG_insert_15 : decode b_RG_insert 15 = .ok (.istore 4, 2) := by decide +kernel
theorem d_RG_insert_17 : decode b_RG_insert 17 = .ok (.iload_n 3, 1) := by decide +kernel
theorem d_RG_insert_18 : decode b_RG_insert 18 = .ok (.iconst 2, 1) := by decide +kernel
theorem d_RG_insert_19 : decode b_RG_insert 19 = .ok (.irem, 1) := by decide +kernel
theorem d_RG_insert_20 : decode b_RG_insert 20 = .ok (.ifCond .ne 7, 3) := by decide +kernel
theorem d_RG_insert_23 : decode b_RG_insert 23 = .ok (.iconst 1, 1) := by decide +kernel
theorem d_RG_insert_24 : decode b_RG_insert 24 = .ok (.goto 4, 3) := by decide +kernel
theorem d_RG_insert_27 : decode b_RG_insert 27 = .ok (.iconst 0, 1) := by decide +kernel
theorem d_RG_insert_28 : decode b_RG_insert 28 = .ok (.istore 5, 2) := by decide +kernel
theorem d_RG_insert_30 : decode b_RG_insert 30 = .ok (.iload 4, 2) := by decide +kernel
theorem d_RG_insert_32 : decode b_RG_insert 32 = .ok (.iconst 2, 1) := by decide +kernel
theorem d_RG_insert_33 : decode b_RG_insert 33 = .ok (.irem, 1) := by decide +kernel
theorem d_RG_insert_34 : decode b_RG_insert 34 = .ok (.ifCond .ne 7, 3) := by decide +kernel
theorem d_RG_insert_37 : decode b_RG_insert 37 = .ok (.iconst 1, 1) := by decide +kernel
theorem d_RG_insert_38 : decode b_RG_insert 38 = .ok (.goto 4, 3) := by decide +kernel
theorem d_RG_insert_41 : decode b_RG_insert 41 = .ok (.iconst 0, 1) := by decide +kernel
theorem d_RG_insert_42 : decode b_RG_insert 42 = .ok (.istore 6, 2) := by decide +kernel
theorem d_RG_insert_44 : decode b_RG_insert 44 = .ok (.iload_n 3, 1) := by decide +kernel
theorem d_RG_insert_45 : decode b_RG_insert 45 = .ok (.iload 5, 2) := by decide +kernel
theorem d_RG_insert_47 : decode b_RG_insert 47 = .ok (.ifCond .eq 7, 3) := by decide +kernel
theorem d_RG_insert_50 : decode b_RG_insert 50 = .ok (.iconst 1, 1) := by decide +kernel
theorem d_RG_insert_51 : decode b_RG_insert 51 = .ok (.goto 4, 3) := by decide +kernel
theorem d_RG_insert_54 : decode b_RG_insert 54 = .ok (.iconst 0, 1) := by decide +kernel
theorem d_RG_insert_55 : decode b_RG_insert 55 = .ok (.iadd, 1) := by decide +kernel
theorem d_RG_insert_56 : decode b_RG_insert 56 = .ok (.iload 6, 2) := by decide +kernel
theorem d_RG_insert_58 : decode b_RG_insert 58 = .ok (.ifCond .eq 7, 3) := by decide +kernel
theorem d_RG_insert_61 : decode b_RG_insert 61 = .ok (.iconst 1, 1) := by decide +kernel
theorem d_RG_insert_62 : decode b_RG_insert 62 = .ok (.goto 4, 3) := by decide +kernel
theorem d_RG_insert_65 : decode b_RG_insert 65 = .ok (.iconst 0, 1) := by decide +kernel
theorem d_RG_insert_66 : decode b_RG_insert 66 = .ok (.iadd, 1) := by decide +kernel
theorem d_RG_insert_67 : decode b_RG_insert 67 = .ok (.istore 7, 2) := by decide +kernel
theorem d_RG_insert_69 : decode b_RG_insert 69 = .ok (.iload 7, 2) := by decide +kernel
theorem d_RG_insert_71 : decode b_RG_insert 71 = .ok (.aload_n 0, 1) := by decide +kernel
theorem d_RG_insert_72 : decode b_RG_insert 72 = .ok (.getfield 13, 3) := by decide +kernel
theorem d_RG_insert_75 : decode b_RG_insert 75 = .ok (.iadd, 1) := by decide +kernel
theorem d_RG_insert_76 : decode b_RG_insert 76 = .ok (.iload 4, 2) := by decide +kernel
theorem d_RG_insert_78 : decode b_RG_insert 78 = .ok (.isub, 1) := by decide +kernel
theorem d_RG_insert_79 : decode b_RG_insert 79 = .ok (.istore 8, 2) := by decide +kernel
theorem d_RG_insert_81 : decode b_RG_insert 81 = .ok (.iload 8, 2) := by decide +kernel
theorem d_RG_insert_83 : decode b_RG_insert 83 = .ok (.aload_n 0, 1) := by decide +kernel
theorem d_RG_insert_84 : decode b_RG_insert 84 = .ok (.getfield 9, 3) := by decide +kernel
theorem d_RG_insert_87 : decode b_RG_insert 87 = .ok (.arraylength, 1) := by decide +kernel
theorem d_RG_insert_88 : decode b_RG_insert 88 = .ok (.if_icmp .le 4, 3) := by decide +kernel
theorem d_RG_insert_91 : decode b_RG_insert 91 = .ok (.return_, 1) := by decide +kernel
theorem d_RG_insert_92 : decode b_RG_insert 92 = .ok (.aload_n 0, 1) := by decide +kernel
theorem d_RG_insert_93 : decode b_RG_insert 93 = .ok (.getfield 9, 3) := by decide +kernel
theorem d_RG_insert_96 : decode b_RG_insert 96 = .ok (.iload 4, 2) := by decide +kernel
theorem d_RG_insert_98 : decode b_RG_insert 98 = .ok (.aload_n 0, 1) := by decide +kernel
theorem d_RG_insert_99 : decode b_RG_insert 99 = .ok (.getfield 9, 3) := by decide +kernel
theorem d_RG_insert_102 : decode b_RG_insert 102 = .ok (.iload 7, 2) := by decide +kernel
theorem d_RG_insert_104 : decode b_RG_insert 104 = .ok (.aload_n 0, 1) := by decide +kernel
theorem d_RG_insert_105 : decode b_RG_insert 105 = .ok (.getfield 13, 3) := by decide +kernel
theorem d_RG_insert_108 : decode b_RG_insert 108 = .ok (.iload 4, 2) := by decide +kernel
theorem d_RG_insert_110 : decode b_RG_insert 110 = .ok (.isub, 1) := by decide +kernel
theorem d_RG_insert_111 : decode b_RG_insert 111 = .ok (.invokestatic 34, 3) := by decide +kernel
theorem d_RG_insert_114 : decode b_RG_insert 114 = .ok (.iload 5, 2) := by decide +kernel
theorem d_RG_insert_116 : decode b_RG_insert 116 = .ok (.ifCond .eq 10, 3) := by decide +kernel
theorem d_RG_insert_119 : decode b_RG_insert 119 = .ok (.aload_n 0, 1) := by decide +kernel
theorem d_RG_insert_120 : decode b_RG_insert 120 = .ok (.getfield 9, 3) := by decide +kernel
theorem d_RG_insert_123 : decode b_RG_insert 123 = .ok (.iload_n 3, 1) := by decide +kernel
theorem d_RG_insert_124 : decode b_RG_insert 124 = .ok (.iload_n 1, 1) := by decide +kernel
theorem d_RG_insert_125 : decode b_RG_insert 125 = .ok (.iastore, 1) := by decide +kernel
theorem d_RG_insert_126 : decode b_RG_insert 126 = .ok (.iload 6, 2) := by decide +kernel
theorem d_RG_insert_128 : decode b_RG_insert 128 = .ok (.ifCond .eq 15, 3) := by decide +kernel
theorem d_RG_insert_131 : decode b_RG_insert 131 = .ok (.aload_n 0, 1) := by decide +kernel
theorem d_RG_insert_132 : decode b_RG_insert 132 = .ok (.getfield 9, 3) := by decide +kernel
theorem d_RG_insert_135 : decode b_RG_insert 135 = .ok (.iload 7, 2) := by decide +kernel
theorem d_RG_insert_137 : decode b_RG_insert 137 = .ok (.iconst 1, 1) := by decide +kernel
theorem d_RG_insert_138 : decode b_RG_insert 138 = .ok (.isub, 1) := by decide +kernel
theorem d_RG_insert_139 : decode b_RG_insert 139 = .ok (.iload_n 2, 1) := by decide +kernel
theorem d_RG_insert_140 : decode b_RG_insert 140 = .ok (.iconst 1, 1) := by decide +kernel
theorem d_RG_insert_141 : decode b_RG_insert 141 = .ok (.iadd, 1) := by decide +kernel
theorem d_RG_insert_142 : decode b_RG_insert 142 = .ok (.iastore, 1) := by decide +kernel
theorem d_RG_insert_143 : decode b_RG_insert 143 = .ok (.aload_n 0, 1) := by decide +kernel
theorem d_RG_insert_144 : decode b_RG_insert 144 = .ok (.iload 8, 2) := by decide +kernel
theorem d_RG_insert_146 : decode b_RG_insert 146 = .ok (.putfield 13, 3) := by decide +kernel
theorem d_RG_insert_149 : decode b_RG_insert 149 = .ok (.return_, 1) := by decide +kernel
theorem d_RG_insertAll_0 : decode b_RG_insertAll 0 = .ok (.aload_n 1, 1) := by decide +kernel
theorem d_RG_insertAll_1 : decode b_RG_insertAll 1 = .ok (.aload_n 0, 1) := by decide +kernel
theorem d_RG_insertAll_2 : decode b_RG_insertAll 2 = .ok (.if_acmp .ne 4, 3) := by decide +kernel
theorem d_RG_insertAll_5 : decode b_RG_insertAll 5 = .ok (.return_, 1) := by decide +kernel
theorem d_RG_insertAll_6 : decode b_RG_insertAll 6 = .ok (.iconst 0, 1) := by decide +kernel
theorem d_RG_insertAll_7 : decode b_RG_insertAll 7 = .ok (.istore_n 2, 1) := by decide +kernel
theorem d_RG_insertAll_8 : decode b_RG_insertAll 8 = .ok (.iload_n 2, 1) := by decide +kernel
theorem d_RG_insertAll_9 : decode b_RG_insertAll 9 = .ok (.aload_n 1, 1) := by decide +kernel
theorem d_RG_insertAll_10 : decode b_RG_insertAll 10 = .ok (.invokevirtual 21, 3) := by decide +kernel
theorem d_RG_insertAll_13 : decode b_RG_insertAll 13 = .ok (.if_icmp .ge 23, 3) := by decide +kernel
theorem d_RG_insertAll_16 : decode b_RG_insertAll 16 = .ok (.aload_n 0, 1) := by decide +kernel
theorem d_RG_insertAll_17 : decode b_RG_insertAll 17 = .ok (.aload_n 1, 1) := by decide +kernel
theorem d_RG_insertAll_18 : decode b_RG_insertAll 18 = .ok (.iload_n 2, 1) := by decide +kernel
theorem d_RG_insertAll_19 : decode b_RG_insertAll 19 = .ok (.invokevirtual 25, 3) := by decide +kernel
theorem d_RG_insertAll_22 : decode b_RG_insertAll 22 = .ok (.aload_n 1, 1) := by decide +kernel
theorem d_RG_insertAll_23 : decode b_RG_insertAll 23 = .ok (.iload_n 2, 1) := by decide +kernel
theorem d_RG_insertAll_24 : decode b_RG_insertAll 24 = .ok (.invokevirtual 31, 3) := by decide +kernel
theorem d_RG_insertAll_27 : decode b_RG_insertAll 27 = .ok (.invokevirtual 40, 3) := by decide +kernel
theorem d_RG_insertAll_30 : decode b_RG_insertAll 30 = .ok (.iinc 2 1, 3) := by decide +kernel
theorem d_RG_insertAll_33 : decode b_RG_insertAll 33 = .ok (.goto (-25), 3) := by decide +kernel
theorem d_RG_insertAll_36 : decode b_RG_insertAll 36 = .ok (.return_, 1) := by decide +kernel
theorem d_RG_complement_0 : decode b_RG_complement 0 = .ok (.aload_n 0, 1) := by decide +kernel
theorem d_RG_complement_1 : decode b_RG_complement 1 = .ok (.getfield 13, 3) := by decide +kernel
theorem d_RG_complement_4 : decode b_RG_complement 4 = .ok (.iconst 2, 1) := by decide +kernel
theorem d_RG_complement_5 : decode b_RG_complement 5 = .ok (.iadd, 1) := by decide +kernel
theorem d_RG_complement_6 : decode b_RG_complement 6 = .ok (.aload_n 0, 1) := by decide +kernel
theorem d_RG_complement_7 : decode b_RG_complement 7 = .ok (.getfield 9, 3) := by decide +kernel
theorem d_RG_complement_10 : decode b_RG_complement 10 = .ok (.arraylength, 1) := by decide +kernel
theorem d_RG_complement_11 : decode b_RG_complement 11 = .ok (.if_icmp .le 4, 3) := by decide +kernel
theorem d_RG_complement_14 : decode b_RG_complement 14 = .ok (.return_, 1) := by decide +kernel
theorem d_RG_complement_15 : decode b_RG_complement 15 = .ok (.aload_n 0, 1) := by decide +kernel
theorem d_RG_complement_16 : decode b_RG_complement 16 = .ok (.getfield 13, 3) := by decide +kernel
theorem d_RG_complement_19 : decode b_RG_complement 19 = .ok (.ifCond .le 44, 3) := by decide +kernel
theorem d_RG_complement_22 : decode b_RG_complement 22 = .ok (.aload_n 0, 1) := by decide +kernel
theorem d_RG_complement_23 : decode b_RG_complement 23 = .ok (.getfield 9, 3) := by decide +kernel
theorem d_RG_complement_26 : decode b_RG_complement 26 = .ok (.iconst 0, 1) := by decide +kernel
theorem d_RG_complement_27 : decode b_RG_complement 27 = .ok (.iaload, 1) := by decide +kernel
theorem d_RG_complement_28 : decode b_RG_complement 28 = .ok (.ifCond .ne 35, 3) := by decide +kernel
theorem d_RG_complement_31 : decode b_RG_complement 31 = .ok (.aload_n 0, 1) := by decide +kernel
theorem d_RG_complement_32 : decode b_RG_complement 32 = .ok (.getfield 9, 3) := by decide +kernel
theorem d_RG_complement_35 : decode b_RG_complement 35 = .ok (.iconst 1, 1) := by decide +kernel
theorem d_RG_complement_36 : decode b_RG_complement 36 = .ok (.aload_n 0, 1) := by decide +kernel
theorem d_RG_complement_37 : decode b_RG_complement 37 = .ok (.getfield 9, 3) := by decide +kernel
theorem d_RG_complement_40 : decode b_RG_complement 40 = .ok (.iconst 0, 1) := by decide +kernel
theorem d_RG_complement_41 : decode b_RG_complement 41 = .ok (.aload_n 0, 1) := by decide +kernel
theorem d_RG_complement_42 : decode b_RG_complement 42 = .ok (.getfield 13, 3) := by decide +kernel
theorem d_RG_complement_45 : decode b_RG_complement 45 = .ok (.iconst 1, 1) := by decide +kernel
theorem d_RG_complement_46 : decode b_RG_complement 46 = .ok (.isub, 1) := by decide +kernel
theorem d_RG_complement_47 : decode b_RG_complement 47 = .ok (.invokestatic 34, 3) := by decide +kernel
theorem d_RG_complement_50 : decode b_RG_complement 50 = .ok (.aload_n 0, 1) := by decide +kernel
theorem d_RG_complement_51 : decode b_RG_complement 51 = .ok (.dup, 1) := by decide +kernel
theorem d_RG_complement_52 : decode b_RG_complement 52 = .ok (.getfield 13, 3) := by decide +kernel
theorem d_RG_complement_55 : decode b_RG_complement 55 = .ok (.iconst 1, 1) := by decide +kernel
theorem d_RG_complement_56 : decode b_RG_complement 56 = .ok (.isub, 1) := by decide +kernel
theorem d_RG_complement_57 : decode b_RG_complement 57 = .ok (.putfield 13, 3) := by decide +kernel
theorem d_RG_complement_60 : decode b_RG_complement 60 = .ok (.goto 37, 3) := by decide +kernel
theorem d_RG_complement_63 : decode b_RG_complement 63 = .ok (.aload_n 0, 1) := by decide +kernel
theorem d_RG_complement_64 : decode b_RG_complement 64 = .ok (.getfield 9, 3) := by decide +kernel
theorem d_RG_complement_67 : decode b_RG_complement 67 = .ok (.iconst 0, 1) := by decide +kernel
theorem d_RG_complement_68 : decode b_RG_complement 68 = .ok (.aload_n 0, 1) := by decide +kernel
theorem d_RG_complement_69 : decode b_RG_complement 69 = .ok (.getfield 9, 3) := by decide +kernel
theorem d_RG_complement_72 : decode b_RG_complement 72 = .ok (.iconst 1, 1) := by decide +kernel
theorem d_RG_complement_73 : decode b_RG_complement 73 = .ok (.aload_n 0, 1) := by decide +kernel
theorem d_RG_complement_74 : decode b_RG_complement 74 = .ok (.getfield 13, 3) := by decide +kernel
theorem d_RG_complement_77 : decode b_RG_complement 77 = .ok (.invokestatic 34, 3) := by decide +kernel
theorem d_RG_complement_80 : decode b_RG_complement 80 = .ok (.aload_n 0, 1) := by decide +kernel
theorem d_RG_complement_81 : decode b_RG_complement 81 = .ok (.getfield 9, 3) := by decide +kernel
theorem d_RG_complement_84 : decode b_RG_complement 84 = .ok (.iconst 0, 1) := by decide +kernel
theorem d_RG_complement_85 : decode b_RG_complement 85 = .ok (.iconst 0, 1) := by decide +kernel
theorem d_RG_complement_86 : decode b_RG_complement 86 = .ok (.iastore, 1) := by decide +kernel
theorem d_RG_complement_87 : decode b_RG_complement 87 = .ok (.aload_n 0, 1) := by decide +kernel
theorem d_RG_complement_88 : decode b_RG_complement 88 = .ok (.dup, 1) := by decide +kernel
theorem d_RG_complement_89 : decode b_RG_complement 89 = .ok (.getfield 13, 3) := by decide +kernel
theorem d_RG_complement_92 : decode b_RG_complement 92 = .ok (.iconst 1, 1) := by decide +kernel
theorem d_RG_complement_93 : decode b_RG_complement 93 = .ok (.iadd, 1) := by decide +kernel
theorem d_RG_complement_94 : decode b_RG_complement 94 = .ok (.putfield 13, 3) := by decide +kernel
theorem d_RG_complement_97 : decode b_RG_complement 97 = .ok (.aload_n 0, 1) := by decide +kernel
theorem d_RG_complement_98 : decode b_RG_complement 98 = .ok (.getfield 13, 3) := by decide +kernel
theorem d_RG_complement_101 : decode b_RG_complement 101 = .ok (.ifCond .le 33, 3) := by decide +kernel
theorem d_RG_complement_104 : decode b_RG_complement 104 = .ok (.aload_n 0, 1) := by decide +kernel
theorem d_RG_complement_105 : decode b_RG_complement 105 = .ok (.getfield 9, 3) := by decide +kernel
theorem d_RG_complement_108 : decode b_RG_complement 108 = .ok (.aload_n 0, 1) := by decide +kernel
theorem d_RG_complement_109 : decode b_RG_complement 109 = .ok (.getfield 13, 3) := by decide +kernel
theorem d_RG_complement_112 : decode b_RG_complement 112 = .ok (.iconst 1, 1) := by decide +kernel
theorem d_RG_complement_113 : decode b_RG_complement 113 = .ok (.isub, 1) := by decide +kernel
theorem d_RG_complement_114 : decode b_RG_complement 114 = .ok (.iaload, 1) := by decide +kernel
theorem d_RG_complement_115 : decode b_RG_complement 115 = .ok (.iload_n 1, 1) := by decide +kernel
theorem d_RG_complement_116 : decode b_RG_complement 116 = .ok (.iconst 1, 1) := by decide +kernel
theorem d_RG_complement_117 : decode b_RG_complement 117 = .ok (.iadd, 1) := by decide +kernel
theorem d_RG_complement_118 : decode b_RG_complement 118 = .ok (.if_icmp .ne 16, 3) := by decide +kernel
theorem d_RG_complement_121 : decode b_RG_complement 121 = .ok (.aload_n 0, 1) := by decide +kernel
theorem d_RG_complement_122 : decode b_RG_complement 122 = .ok (.dup, 1) := by decide +kernel
theorem d_RG_complement_123 : decode b_RG_complement 123 = .ok (.getfield 13, 3) := by decide +kernel
theorem d_RG_complement_126 : decode b_RG_complement 126 = .ok (.iconst 1, 1) := by decide +kernel
theorem d_RG_complement_127 : decode b_RG_complement 127 = .ok (.isub, 1) := by decide +kernel
theorem d_RG_complement_128 : decode b_RG_complement 128 = .ok (.putfield 13, 3) := by decide +kernel
theorem d_RG_complement_131 : decode b_RG_complement 131 = .ok (.goto 25, 3) := by decide +kernel
theorem d_RG_complement_134 : decode b_RG_complement 134 = .ok (.aload_n 0, 1) := by decide +kernel
theorem d_RG_complement_135 : decode b_RG_complement 135 = .ok (.getfield 9, 3) := by decide +kernel
theorem d_RG_complement_138 : decode b_RG_complement 138 = .ok (.aload_n 0, 1) := by decide +kernel
theorem d_RG_complement_139 : decode b_RG_complement 139 = .ok (.getfield 13, 3) := by decide +kernel
theorem d_RG_complement_142 : decode b_RG_complement 142 = .ok (.iload_n 1, 1) := by decide +kernel
theorem d_RG_complement_143 : decode b_RG_complement 143 = .ok (.iconst 1, 1) := by decide +kernel
theorem d_RG_complement_144 : decode b_RG_complement 144 = .ok (.iadd, 1) := by decide +kernel
theorem d_RG_complement_145 : decode b_RG_complement 145 = .ok (.iastore, 1) := by decide +kernel
theorem d_RG_complement_146 : decode b_RG_complement 146 = .ok (.aload_n 0, 1) := by decide +kernel
theorem d_RG_complement_147 : decode b_RG_complement 147 = .ok (.dup, 1) := by decide +kernel
theorem d_RG_complement_148 : decode b_RG_complement 148 = .ok (.getfield 13, 3) := by decide +kernel
theorem d_RG_complement_151 : decode b_RG_complement 151 = .ok (.iconst 1, 1) := by decide +kernel
theorem d_RG_complement_152 : decode b_RG_complement 152 = .ok (.iadd, 1) := by decide +kernel
theorem d_RG_complement_153 : decode b_RG_complement 153 = .ok (.putfield 13, 3) := by decide +kernel
theorem d_RG_complement_156 : decode b_RG_complement 156 = .ok (.return_, 1) := by decide +kernel
theorem d_RG_edgesUpTo_0 : decode b_RG_edgesUpTo 0 = .ok (.iconst 0, 1) := by decide +kernel
theorem d_RG_edgesUpTo_1 : decode b_RG_edgesUpTo 1 = .ok (.istore_n 2, 1) := by decide +kernel
theorem d_RG_edgesUpTo_2 : decode b_RG_edgesUpTo 2 = .ok (.sipush 2048, 3) := by decide +kernel
theorem d_RG_edgesUpTo_5 : decode b_RG_edgesUpTo 5 = .ok (.istore_n 3, 1) := by decide +kernel
theorem d_RG_edgesUpTo_6 : decode b_RG_edgesUpTo 6 = .ok (.iload_n 3, 1) := by decide +kernel
theorem d_RG_edgesUpTo_7 : decode b_RG_edgesUpTo 7 = .ok (.ifCond .le 40, 3) := by decide +kernel
theorem d_RG_edgesUpTo_10 : decode b_RG_edgesUpTo 10 = .ok (.iload_n 2, 1) := by decide +kernel
theorem d_RG_edgesUpTo_11 : decode b_RG_edgesUpTo 11 = .ok (.iload_n 3, 1) := by decide +kernel
theorem d_RG_edgesUpTo_12 : decode b_RG_edgesUpTo 12 = .ok (.iadd, 1) := by decide +kernel
theorem d_RG_edgesUpTo_13 : decode b_RG_edgesUpTo 13 = .ok (.istore 4, 2) := by decide +kernel
theorem d_RG_edgesUpTo_15 : decode b_RG_edgesUpTo 15 = .ok (.iload 4, 2) := by decide +kernel
theorem d_RG_edgesUpTo_17 : decode b_RG_edgesUpTo 17 = .ok (.aload_n 0, 1) := by decide +kernel
theorem d_RG_edgesUpTo_18 : decode b_RG_edgesUpTo 18 = .ok (.getfield 13, 3) := by decide +kernel
theorem d_RG_edgesUpTo_21 : decode b_RG_edgesUpTo 21 = .ok (.if_icmp .gt 19, 3) := by decide +kernel
theorem d_RG_edgesUpTo_24 : decode b_RG_edgesUpTo 24 = .ok (.aload_n 0, 1) := by decide +kernel
theorem d_RG_edgesUpTo_25 : decode b_RG_edgesUpTo 25 = .ok (.getfield 9, 3) := by decide +kernel
theorem d_RG_edgesUpTo_28 : decode b_RG_edgesUpTo 28 = .ok (.iload 4, 2) := by decide +kernel
theorem d_RG_edgesUpTo_30 : decode b_RG_edgesUpTo 30 = .ok (.iconst 1, 1) := by decide +kernel
theorem d_RG_edgesUpTo_31 : decode b_RG_edgesUpTo 31 = .ok (.isub, 1) := by decide +kernel
theorem d_RG_edgesUpTo_32 : decode b_RG_edgesUpTo 32 = .ok (.iaload, 1) := by decide +kernel
theorem d_RG_edgesUpTo_33 : decode b_RG_edgesUpTo 33 = .ok (.iload_n 1, 1) := by decide +kernel
theorem d_RG_edgesUpTo_34 : decode b_RG_edgesUpTo 34 = .ok (.if_icmp .gt 6, 3) := by decide +kernel
theorem d_RG_edgesUpTo_37 : decode b_RG_edgesUpTo 37 = .ok (.iload 4, 2) := by decide +kernel
theorem d_RG_edgesUpTo_39 : decode b_RG_edgesUpTo 39 = .ok (.istore_n 2, 1) := by decide +kernel
theorem d_RG_edgesUpTo_40 : decode b_RG_edgesUpTo 40 = .ok (.iload_n 3, 1) := by decide +kernel
theorem d_RG_edgesUpTo_41 : decode b_RG_edgesUpTo 41 = .ok (.iconst 2, 1) := by decide +kernel
theorem d_RG_edgesUpTo_42 : decode b_RG_edgesUpTo 42 = .ok (.idiv, 1) := by decide +kernel
theorem d_RG_edgesUpTo_43 : decode b_RG_edgesUpTo 43 = .ok (.istore_n 3, 1) := by decide +kernel
theorem d_RG_edgesUpTo_44 : decode b_RG_edgesUpTo 44 = .ok (.goto (-38), 3) := by decide +kernel
theorem d_RG_edgesUpTo_47 : decode b_RG_edgesUpTo 47 = .ok (.iload_n 2, 1) := by decide +kernel
theorem d_RG_edgesUpTo_48 : decode b_RG_edgesUpTo 48 = .ok (.ireturn, 1) := by decide +kernel
theorem d_TB_init_0 : decode b_TB_init 0 = .ok (.aload_n 0, 1) := by decide +kernel
theorem d_TB_init_1 : decode b_TB_init 1 = .ok (.invokespecial 3, 3) := by decide +kernel
theorem d_TB_init_4 : decode b_TB_init 4 = .ok (.aload_n 0, 1) := by decide +kernel
theorem d_TB_init_5 : decode b_TB_init 5 = .ok (.sipush 512, 3) := by decide +kernel
theorem d_TB_init_8 : decode b_TB_init 8 = .ok (.newarray .int, 2) := by decide +kernel
theorem d_TB_init_10 : decode b_TB_init 10 = .ok (.putfield 11, 3) := by decide +kernel
theorem d_TB_init_13 : decode b_TB_init 13 = .ok (.aload_n 0, 1) := by decide +kernel
theorem d_TB_init_14 : decode b_TB_init 14 = .ok (.sipush 512, 3) := by decide +kernel
theorem d_TB_init_17 : decode b_TB_init 17 = .ok (.newarray .int, 2) := by decide +kernel
theorem d_TB_init_19 : decode b_TB_init 19 = .ok (.putfield 15, 3) := by decide +kernel
theorem d_TB_init_22 : decode b_TB_init 22 = .ok (.aload_n 0, 1) := by decide +kernel
theorem d_TB_init_23 : decode b_TB_init 23 = .ok (.sipush 512, 3) := by decide +kernel
theorem d_TB_init_26 : decode b_TB_init 26 = .ok (.newarray .int, 2) := by decide +kernel
theorem d_TB_init_28 : decode b_TB_init 28 = .ok (.putfield 18, 3) := by decide +kernel
theorem d_TB_init_31 : decode b_TB_init 31 = .ok (.aload_n 0, 1) := by decide +kernel
theorem d_TB_init_32 : decode b_TB_init 32 = .ok (.iconst 0, 1) := by decide +kernel
theorem d_TB_init_33 : decode b_TB_init 33 = .ok (.putfield 21, 3) := by decide +kernel
theorem d_TB_init_36 : decode b_TB_init 36 = .ok (.iconst 0, 1) := by decide +kernel
theorem d_TB_init_37 : decode b_TB_init 37 = .ok (.istore_n 1, 1) := by decide +kernel
theorem d_TB_init_38 : decode b_TB_init 38 = .ok (.iconst 0, 1) := by decide +kernel
theorem d_TB_init_39 : decode b_TB_init 39 = .ok (.istore_n 2, 1) := by decide +kernel
theorem d_TB_init_40 : decode b_TB_init 40 = .ok (.iload_n 2, 1) := by decide +kernel
theorem d_TB_init_41 : decode b_TB_init 41 = .ok (.iconst 2, 1) := by decide +kernel
theorem d_TB_init_42 : decode b_TB_init 42 = .ok (.iadd, 1) := by decide +kernel
theorem d_TB_init_43 : decode b_TB_init 43 = .ok (.getstatic 25, 3) := by decide +kernel
theorem d_TB_init_46 : decode b_TB_init 46 = .ok (.arraylength, 1) := by decide +kernel
theorem d_TB_init_47 : decode b_TB_init 47 = .ok (.if_icmp .ge 49, 3) := by decide +kernel
theorem d_TB_init_50 : decode b_TB_init 50 = .ok (.getstatic 25, 3) := by decide +kernel
theorem d_TB_init_53 : decode b_TB_init 53 = .ok (.iload_n 2, 1) := by decide +kernel
theorem d_TB_init_54 : decode b_TB_init 54 = .ok (.iaload, 1) := by decide +kernel
theorem d_TB_init_55 : decode b_TB_init 55 = .ok (.istore_n 3, 1) := by decide +kernel
theorem d_TB_init_56 : decode b_TB_init 56 = .ok (.iload_n 1, 1) := by decide +kernel
theorem d_TB_init_57 : decode b_TB_init 57 = .ok (.iload_n 3, 1) := by decide +kernel
theorem d_TB_init_58 : decode b_TB_init 58 = .ok (.if_icmp .ge 9, 3) := by decide +kernel
theorem d_TB_init_61 : decode b_TB_init 61 = .ok (.aload_n 0, 1) := by decide +kernel
theorem d_TB_init_62 : decode b_TB_init 62 = .ok (.iload_n 1, 1) := by decide +kernel
theorem d_TB_init_63 : decode b_TB_init 63 = .ok (.iconst 0, 1) := by decide +kernel
theorem d_TB_init_64 : decode b_TB_init 64 = .ok (.invokevirtual 28, 3) := by decide +kernel
theorem d_TB_init_67 : decode b_TB_init 67 = .ok (.getstatic 25, 3) := by decide +kernel
theorem d_TB_init_70 : decode b_TB_init 70 = .ok (.iload_n 2, 1) := by decide +kernel
theorem d_TB_init_71 : decode b_TB_init 71 = .ok (.iconst 1, 1) := by decide +kernel
theorem d_TB_init_72 : decode b_TB_init 72 = .ok (.iadd, 1) := by decide +kernel
theorem d_TB_init_73 : decode b_TB_init 73 = .ok (.iaload, 1) := by decide +kernel
theorem d_TB_init_74 : decode b_TB_init 74 = .ok (.iconst 1, 1) := by decide +kernel
theorem d_TB_init_75 : decode b_TB_init 75 = .ok (.iadd, 1) := by decide +kernel
theorem d_TB_init_76 : decode b_TB_init 76 = .ok (.istore_n 1, 1) := by decide +kernel
theorem d_TB_init_77 : decode b_TB_init 77 = .ok (.aload_n 0, 1) := by decide +kernel
theorem d_TB_init_78 : decode b_TB_init 78 = .ok (.iload_n 3, 1) := by decide +kernel
theorem d_TB_init_79 : decode b_TB_init 79 = .ok (.iload_n 1, 1) := by decide +kernel
theorem d_TB_init_80 : decode b_TB_init 80 = .ok (.getstatic 25, 3) := by decide +kernel
theorem d_TB_init_83 : decode b_TB_init 83 = .ok (.iload_n 2, 1) := by decide +kernel
theorem d_TB_init_84 : decode b_TB_init 84 = .ok (.iconst 2, 1) := by decide +kernel
theorem d_TB_init_85 : decode b_TB_init 85 = .ok (.iadd, 1) := by decide +kernel
theorem d_TB_init_86 : decode b_TB_init 86 = .ok (.iaload, 1) := by decide +kernel
theorem d_TB_init_87 : decode b_TB_init 87 = .ok (.invokevirtual 32, 3) := by decide +kernel
theorem d_TB_init_90 : decode b_TB_init 90 = .ok (.iinc 2 3, 3) := by decide +kernel
theorem d_TB_init_93 : decode b_TB_init 93 = .ok (.goto (-53), 3) := by decide +kernel
theorem d_TB_init_96 : decode b_TB_init 96 = .ok (.aload_n 0, 1) := by decide +kernel
theorem d_TB_init_97 : decode b_TB_init 97 = .ok (.iload_n 1, 1) := by decide +kernel
theorem d_TB_init_98 : decode b_TB_init 98 = .ok (.iconst 0, 1) := by decide +kernel
theorem d_TB_init_99 : decode b_TB_init 99 = .ok (.invokevirtual 28, 3) := by decide +kernel
theorem d_TB_init_102 : decode b_TB_init 102 = .ok (.return_, 1) := by decide +kernel
theorem d_TB_pieceCount_0 : decode b_TB_pieceCount 0 = .ok (.aload_n 0, 1) := by decide +kernel
theorem d_TB_pieceCount_1 : decode b_TB_pieceCount 1 = .ok (.getfield 21, 3) := by decide +kernel
theorem d_TB_pieceCount_4 : decode b_TB_pieceCount 4 = .ok (.ireturn, 1) := by decide +kernel
theorem d_TB_pieceLow_0 : decode b_TB_pieceLow 0 = .ok (.aload_n 0, 1) := by decide +kernel
theorem d_TB_pieceLow_1 : decode b_TB_pieceLow 1 = .ok (.getfield 11, 3) := by decide +kernel
theorem d_TB_pieceLow_4 : decode b_TB_pieceLow 4 = .ok (.iload_n 1, 1) := by decide +kernel
theorem d_TB_pieceLow_5 : decode b_TB_pieceLow 5 = .ok (.iaload, 1) := by decide +kernel
theorem d_TB_pieceLow_6 : decode b_TB_pieceLow 6 = .ok (.ireturn, 1) := by decide +kernel
theorem d_TB_pieceHigh_0 : decode b_TB_pieceHigh 0 = .ok (.iload_n 1, 1) := by decide +kernel
theorem d_TB_pieceHigh_1 : decode b_TB_pieceHigh 1 = .ok (.iconst 1, 1) := by decide +kernel
theorem d_TB_pieceHigh_2 : decode b_TB_pieceHigh 2 = .ok (.iadd, 1) := by decide +kernel
theorem d_TB_pieceHigh_3 : decode b_TB_pieceHigh 3 = .ok (.aload_n 0, 1) := by decide +kernel
theorem d_TB_pieceHigh_4 : decode b_TB_pieceHigh 4 = .ok (.getfield 21, 3) := by decide +kernel
theorem d_TB_pieceHigh_7 : decode b_TB_pieceHigh 7 = .ok (.if_icmp .ge 16, 3) := by decide +kernel
theorem d_TB_pieceHigh_10 : decode b_TB_pieceHigh 10 = .ok (.aload_n 0, 1) := by decide +kernel
theorem d_TB_pieceHigh_11 : decode b_TB_pieceHigh 11 = .ok (.getfield 11, 3) := by decide +kernel
theorem d_TB_pieceHigh_14 : decode b_TB_pieceHigh 14 = .ok (.iload_n 1, 1) := by decide +kernel
theorem d_TB_pieceHigh_15 : decode b_TB_pieceHigh 15 = .ok (.iconst 1, 1) := by decide +kernel
theorem d_TB_pieceHigh_16 : decode b_TB_pieceHigh 16 = .ok (.iadd, 1) := by decide +kernel
theorem d_TB_pieceHigh_17 : decode b_TB_pieceHigh 17 = .ok (.iaload, 1) := by decide +kernel
theorem d_TB_pieceHigh_18 : decode b_TB_pieceHigh 18 = .ok (.iconst 1, 1) := by decide +kernel
theorem d_TB_pieceHigh_19 : decode b_TB_pieceHigh 19 = .ok (.isub, 1) := by decide +kernel
theorem d_TB_pieceHigh_20 : decode b_TB_pieceHigh 20 = .ok (.goto 5, 3) := by decide +kernel
theorem d_TB_pieceHigh_23 : decode b_TB_pieceHigh 23 = .ok (.ldc 36, 2) := by decide +kernel
theorem d_TB_pieceHigh_25 : decode b_TB_pieceHigh 25 = .ok (.ireturn, 1) := by decide +kernel
theorem d_TB_pieceCategory_0 : decode b_TB_pieceCategory 0 = .ok (.aload_n 0, 1) := by decide +kernel
theorem d_TB_pieceCategory_1 : decode b_TB_pieceCategory 1 = .ok (.getfield 15, 3) := by decide +kernel
theorem d_TB_pieceCategory_4 : decode b_TB_pieceCategory 4 = .ok (.iload_n 1, 1) := by decide +kernel
theorem d_TB_pieceCategory_5 : decode b_TB_pieceCategory 5 = .ok (.iaload, 1) := by decide +kernel
theorem d_TB_pieceCategory_6 : decode b_TB_pieceCategory 6 = .ok (.ireturn, 1) := by decide +kernel
