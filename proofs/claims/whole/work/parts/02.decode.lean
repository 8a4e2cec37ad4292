theorem d_CS_init_0 : decode b_CS_init 0 = .ok (.aload_n 0, 1) := by decide +kernel
theorem d_CS_init_1 : decode b_CS_init 1 = .ok (.invokespecial 3, 3) := by decide +kernel
theorem d_CS_init_4 : decode b_CS_init 4 = .ok (.iload_n 1, 1) := by decide +kernel
theorem d_CS_init_5 : decode b_CS_init 5 = .ok (.iconst 1, 1) := by decide +kernel
theorem d_CS_init_6 : decode b_CS_init 6 = .ok (.iand, 1) := by decide +kernel
theorem d_CS_init_7 : decode b_CS_init 7 = .ok (.ifCond .eq 7, 3) := by decide +kernel
theorem d_CS_init_10 : decode b_CS_init 10 = .ok (.iconst 1, 1) := by decide +kernel
theorem d_CS_init_11 : decode b_CS_init 11 = .ok (.goto 4, 3) := by decide +kernel
theorem d_CS_init_14 : decode b_CS_init 14 = .ok (.iconst 0, 1) := by decide +kernel
theorem d_CS_init_15 : decode b_CS_init 15 = .ok (.istore_n 2, 1) := by decide +kernel
theorem d_CS_init_16 : decode b_CS_init 16 = .ok (.aload_n 0, 1) := by decide +kernel
theorem d_CS_init_17 : decode b_CS_init 17 = .ok (.iload_n 1, 1) := by decide +kernel
theorem d_CS_init_18 : decode b_CS_init 18 = .ok (.iconst 2, 1) := by decide +kernel
theorem d_CS_init_19 : decode b_CS_init 19 = .ok (.iand, 1) := by decide +kernel
theorem d_CS_init_20 : decode b_CS_init 20 = .ok (.ifCond .eq 7, 3) := by decide +kernel
theorem d_CS_init_23 : decode b_CS_init 23 = .ok (.iconst 1, 1) := by decide +kernel
theorem d_CS_init_24 : decode b_CS_init 24 = .ok (.goto 4, 3) := by decide +kernel
theorem d_CS_init_27 : decode b_CS_init 27 = .ok (.iconst 0, 1) := by decide +kernel
theorem d_CS_init_28 : decode b_CS_init 28 = .ok (.putfield 9, 3) := by decide +kernel
theorem d_CS_init_31 : decode b_CS_init 31 = .ok (.aload_n 0, 1) := by decide +kernel
theorem d_CS_init_32 : decode b_CS_init 32 = .ok (.iload_n 2, 1) := by decide +kernel
theorem d_CS_init_33 : decode b_CS_init 33 = .ok (.ifCond .eq 8, 3) := by decide +kernel
theorem d_CS_init_36 : decode b_CS_init 36 = .ok (.ldc 13, 2) := by decide +kernel
theorem d_CS_init_38 : decode b_CS_init 38 = .ok (.goto 6, 3) := by decide +kernel
theorem d_CS_init_41 : decode b_CS_init 41 = .ok (.sipush 255, 3) := by decide +kernel
theorem d_CS_init_44 : decode b_CS_init 44 = .ok (.putfield 14, 3) := by decide +kernel
theorem d_CS_init_47 : decode b_CS_init 47 = .ok (.aload_n 0, 1) := by decide +kernel
theorem d_CS_init_48 : decode b_CS_init 48 = .ok (.new 18, 3) := by decide +kernel
theorem d_CS_init_51 : decode b_CS_init 51 = .ok (.dup, 1) := by decide +kernel
theorem d_CS_init_52 : decode b_CS_init 52 = .ok (.invokespecial 20, 3) := by decide +kernel
theorem d_CS_init_55 : decode b_CS_init 55 = .ok (.putfield 21, 3) := by decide +kernel
theorem d_CS_init_58 : decode b_CS_init 58 = .ok (.aload_n 0, 1) := by decide +kernel
theorem d_CS_init_59 : decode b_CS_init 59 = .ok (.new 25, 3) := by decide +kernel
theorem d_CS_init_62 : decode b_CS_init 62 = .ok (.dup, 1) := by decide +kernel
theorem d_CS_init_63 : decode b_CS_init 63 = .ok (.iload_n 2, 1) := by decide +kernel
theorem d_CS_init_64 : decode b_CS_init 64 = .ok (.ifCond .ne 10, 3) := by decide +kernel
theorem d_CS_init_67 : decode b_CS_init 67 = .ok (.aload_n 0, 1) := by decide +kernel
theorem d_CS_init_68 : decode b_CS_init 68 = .ok (.getfield 9, 3) := by decide +kernel
theorem d_CS_init_71 : decode b_CS_init 71 = .ok (.ifCond .eq 7, 3) := by decide +kernel
theorem d_CS_init_74 : decode b_CS_init 74 = .ok (.iconst 1, 1) := by decide +kernel
theorem d_CS_init_75 : decode b_CS_init 75 = .ok (.goto 4, 3) := by decide +kernel
theorem d_CS_init_78 : decode b_CS_init 78 = .ok (.iconst 0, 1) := by decide +kernel
theorem d_CS_init_79 : decode b_CS_init 79 = .ok (.aload_n 0, 1) := by decide +kernel
theorem d_CS_init_80 : decode b_CS_init 80 = .ok (.getfield 14, 3) := by decide +kernel
theorem d_CS_init_83 : decode b_CS_init 83 = .ok (.invokespecial 27, 3) := by decide +kernel
theorem d_CS_init_86 : decode b_CS_init 86 = .ok (.putfield 30, 3) := by decide +kernel
theorem d_CS_init_89 : decode b_CS_init 89 = .ok (.aload_n 0, 1) := by decide +kernel
theorem d_CS_init_90 : decode b_CS_init 90 = .ok (.new 34, 3) := by decide +kernel
theorem d_CS_init_93 : decode b_CS_init 93 = .ok (.dup, 1) := by decide +kernel
theorem d_CS_init_94 : decode b_CS_init 94 = .ok (.invokespecial 36, 3) := by decide +kernel
theorem d_CS_init_97 : decode b_CS_init 97 = .ok (.putfield 37, 3) := by decide +kernel
theorem d_CS_init_100 : decode b_CS_init 100 = .ok (.aload_n 0, 1) := by decide +kernel
theorem d_CS_init_101 : decode b_CS_init 101 = .ok (.bipush 8, 2) := by decide +kernel
theorem d_CS_init_103 : decode b_CS_init 103 = .ok (.anewarray 34, 3) := by decide +kernel
theorem d_CS_init_106 : decode b_CS_init 106 = .ok (.putfield 41, 3) := by decide +kernel
theorem d_CS_init_109 : decode b_CS_init 109 = .ok (.iconst 0, 1) := by decide +kernel
theorem d_CS_init_110 : decode b_CS_init 110 = .ok (.istore_n 3, 1) := by decide +kernel
theorem d_CS_init_111 : decode b_CS_init 111 = .ok (.iload_n 3, 1) := by decide +kernel
theorem d_CS_init_112 : decode b_CS_init 112 = .ok (.bipush 8, 2) := by decide +kernel
theorem d_CS_init_114 : decode b_CS_init 114 = .ok (.if_icmp .ge 22, 3) := by decide +kernel
theorem d_CS_init_117 : decode b_CS_init 117 = .ok (.aload_n 0, 1) := by decide +kernel
theorem d_CS_init_118 : decode b_CS_init 118 = .ok (.getfield 41, 3) := by decide +kernel
theorem d_CS_init_121 : decode b_CS_init 121 = .ok (.iload_n 3, 1) := by decide +kernel
theorem d_CS_init_122 : decode b_CS_init 122 = .ok (.new 34, 3) := by decide +kernel
theorem d_CS_init_125 : decode b_CS_init 125 = .ok (.dup, 1) := by decide +kernel
theorem d_CS_init_126 : decode b_CS_init 126 = .ok (.invokespecial 36, 3) := by decide +kernel
theorem d_CS_init_129 : decode b_CS_init 129 = .ok (.aastore, 1) := by decide +kernel
theorem d_CS_init_130 : decode b_CS_init 130 = .ok (.iinc 3 1, 3) := by decide +kernel
theorem d_CS_init_133 : decode b_CS_init 133 = .ok (.goto (-22), 3) := by decide +kernel
theorem d_CS_init_136 : decode b_CS_init 136 = .ok (.return_, 1) := by decide +kernel
theorem d_CS_clear_0 : decode b_CS_clear 0 = .ok (.iload_n 1, 1) := by decide +kernel
theorem d_CS_clear_1 : decode b_CS_clear 1 = .ok (.invokestatic 45, 3) := by decide +kernel
theorem d_CS_clear_4 : decode b_CS_clear 4 = .ok (.ifCond .ne 6, 3) := by decide +kernel
theorem d_CS_clear_7 : decode b_CS_clear 7 = .ok (.bipush (-2), 2) := by decide +kernel
theorem d_CS_clear_9 : decode b_CS_clear 9 = .ok (.ireturn, 1) := by decide +kernel
theorem d_CS_clear_10 : decode b_CS_clear 10 = .ok (.aload_n 0, 1) := by decide +kernel
theorem d_CS_clear_11 : decode b_CS_clear 11 = .ok (.getfield 41, 3) := by decide +kernel
theorem d_CS_clear_14 : decode b_CS_clear 14 = .ok (.iload_n 1, 1) := by decide +kernel
theorem d_CS_clear_15 : decode b_CS_clear 15 = .ok (.aaload, 1) := by decide +kernel
theorem d_CS_clear_16 : decode b_CS_clear 16 = .ok (.invokevirtual 49, 3) := by decide +kernel
theorem d_CS_clear_19 : decode b_CS_clear 19 = .ok (.iconst 0, 1) := by decide +kernel
theorem d_CS_clear_20 : decode b_CS_clear 20 = .ok (.ireturn, 1) := by decide +kernel
theorem d_CS_range_0 : decode b_CS_range 0 = .ok (.iload_n 1, 1) := by decide +kernel
theorem d_CS_range_1 : decode b_CS_range 1 = .ok (.invokestatic 45, 3) := by decide +kernel
theorem d_CS_range_4 : decode b_CS_range 4 = .ok (.ifCond .eq 24, 3) := by decide +kernel
theorem d_CS_range_7 : decode b_CS_range 7 = .ok (.aload_n 0, 1) := by decide +kernel
theorem d_CS_range_8 : decode b_CS_range 8 = .ok (.iload_n 2, 1) := by decide +kernel
theorem d_CS_range_9 : decode b_CS_range 9 = .ok (.invokevirtual 52, 3) := by decide +kernel
theorem d_CS_range_12 : decode b_CS_range 12 = .ok (.ifCond .eq 16, 3) := by decide +kernel
theorem d_CS_range_15 : decode b_CS_range 15 = .ok (.aload_n 0, 1) := by decide +kernel
theorem d_CS_range_16 : decode b_CS_range 16 = .ok (.iload_n 3, 1) := by decide +kernel
theorem d_CS_range_17 : decode b_CS_range 17 = .ok (.invokevirtual 52, 3) := by decide +kernel
theorem d_CS_range_20 : decode b_CS_range 20 = .ok (.ifCond .eq 8, 3) := by decide +kernel
theorem d_CS_range_23 : decode b_CS_range 23 = .ok (.iload_n 2, 1) := by decide +kernel
theorem d_CS_range_24 : decode b_CS_range 24 = .ok (.iload_n 3, 1) := by decide +kernel
theorem d_CS_range_25 : decode b_CS_range 25 = .ok (.if_icmp .le 6, 3) := by decide +kernel
theorem d_CS_range_28 : decode b_CS_range 28 = .ok (.bipush (-2), 2) := by decide +kernel
theorem d_CS_range_30 : decode b_CS_range 30 = .ok (.ireturn, 1) := by decide +kernel
theorem d_CS_range_31 : decode b_CS_range 31 = .ok (.aload_n 0, 1) := by decide +kernel
theorem d_CS_range_32 : decode b_CS_range 32 = .ok (.getfield 41, 3) := by decide +kernel
theorem d_CS_range_35 : decode b_CS_range 35 = .ok (.iload_n 1, 1) := by decide +kernel
theorem d_CS_range_36 : decode b_CS_range 36 = .ok (.aaload, 1) := by decide +kernel
theorem d_CS_range_37 : decode b_CS_range 37 = .ok (.iload_n 2, 1) := by decide +kernel
theorem d_CS_range_38 : decode b_CS_range 38 = .ok (.iload_n 3, 1) := by decide +kernel
theorem d_CS_range_39 : decode b_CS_range 39 = .ok (.invokevirtual 55, 3) := by decide +kernel
theorem d_CS_range_42 : decode b_CS_range 42 = .ok (.aload_n 0, 1) := by decide +kernel
theorem d_CS_range_43 : decode b_CS_range 43 = .ok (.getfield 41, 3) := by decide +kernel
theorem d_CS_range_46 : decode b_CS_range 46 = .ok (.iload_n 1, 1) := by decide +kernel
theorem d_CS_range_47 : decode b_CS_range 47 = .ok (.aaload, 1) := by decide +kernel
theorem d_CS_range_48 : decode b_CS_range 48 = .ok (.invokevirtual 59, 3) := by decide +kernel
theorem d_CS_range_51 : decode b_CS_range 51 = .ok (.ireturn, 1) := by decide +kernel
theorem d_CS_property_0 : decode b_CS_property 0 = .ok (.iload_n 1, 1) := by decide +kernel
theorem d_CS_property_1 : decode b_CS_property 1 = .ok (.invokestatic 45, 3) := by decide +kernel
theorem d_CS_property_4 : decode b_CS_property 4 = .ok (.ifCond .eq 13, 3) := by decide +kernel
theorem d_CS_property_7 : decode b_CS_property 7 = .ok (.iload_n 2, 1) := by decide +kernel
theorem d_CS_property_8 : decode b_CS_property 8 = .ok (.ifCond .lt 9, 3) := by decide +kernel
theorem d_CS_property_11 : decode b_CS_property 11 = .ok (.iload_n 2, 1) := by decide +kernel
theorem d_CS_property_12 : decode b_CS_property 12 = .ok (.bipush 48, 2) := by decide +kernel
theorem d_CS_property_14 : decode b_CS_property 14 = .ok (.if_icmp .le 6, 3) := by decide +kernel
theorem d_CS_property_17 : decode b_CS_property 17 = .ok (.bipush (-2), 2) := by decide +kernel
theorem d_CS_property_19 : decode b_CS_property 19 = .ok (.ireturn, 1) := by decide +kernel
theorem d_CS_property_20 : decode b_CS_property 20 = .ok (.iload 4, 2) := by decide +kernel
theorem d_CS_property_22 : decode b_CS_property 22 = .ok (.ifCond .eq 18, 3) := by decide +kernel
theorem d_CS_property_25 : decode b_CS_property 25 = .ok (.iload_n 2, 1) := by decide +kernel
theorem d_CS_property_26 : decode b_CS_property 26 = .ok (.iconst 4, 1) := by decide +kernel
theorem d_CS_property_27 : decode b_CS_property 27 = .ok (.if_icmp .eq 9, 3) := by decide +kernel
theorem d_CS_property_30 : decode b_CS_property 30 = .ok (.iload_n 2, 1) := by decide +kernel
theorem d_CS_property_31 : decode b_CS_property 31 = .ok (.bipush 6, 2) := by decide +kernel
theorem d_CS_property_33 : decode b_CS_property 33 = .ok (.if_icmp .ne 7, 3) := by decide +kernel
theorem d_CS_property_36 : decode b_CS_property 36 = .ok (.iconst 1, 1) := by decide +kernel
theorem d_CS_property_37 : decode b_CS_property 37 = .ok (.goto 4, 3) := by decide +kernel
theorem d_CS_property_40 : decode b_CS_property 40 = .ok (.iconst 0, 1) := by decide +kernel
theorem d_CS_property_41 : decode b_CS_property 41 = .ok (.istore 5, 2) := by decide +kernel
theorem d_CS_property_43 : decode b_CS_property 43 = .ok (.aload_n 0, 1) := by decide +kernel
theorem d_CS_property_44 : decode b_CS_property 44 = .ok (.getfield 37, 3) := by decide +kernel
theorem d_CS_property_47 : decode b_CS_property 47 = .ok (.invokevirtual 49, 3) := by decide +kernel
theorem d_CS_property_50 : decode b_CS_property 50 = .ok (.aload_n 0, 1) := by decide +kernel
theorem d_CS_property_51 : decode b_CS_property 51 = .ok (.iload 5, 2) := by decide +kernel
theorem d_CS_property_53 : decode b_CS_property 53 = .ok (.ifCond .eq 8, 3) := by decide +kernel
theorem d_CS_property_56 : decode b_CS_property 56 = .ok (.bipush 45, 2) := by decide +kernel
theorem d_CS_property_58 : decode b_CS_property 58 = .ok (.goto 4, 3) := by decide +kernel
theorem d_CS_property_61 : decode b_CS_property 61 = .ok (.iload_n 2, 1) := by decide +kernel
theorem d_CS_property_62 : decode b_CS_property 62 = .ok (.invokevirtual 63, 3) := by decide +kernel
theorem d_CS_property_65 : decode b_CS_property 65 = .ok (.aload_n 0, 1) := by decide +kernel
theorem d_CS_property_66 : decode b_CS_property 66 = .ok (.aload_n 0, 1) := by decide +kernel
theorem d_CS_property_67 : decode b_CS_property 67 = .ok (.getfield 41, 3) := by decide +kernel
theorem d_CS_property_70 : decode b_CS_property 70 = .ok (.iload_n 1, 1) := by decide +kernel
theorem d_CS_property_71 : decode b_CS_property 71 = .ok (.aaload, 1) := by decide +kernel
theorem d_CS_property_72 : decode b_CS_property 72 = .ok (.iload_n 3, 1) := by decide +kernel
theorem d_CS_property_73 : decode b_CS_property 73 = .ok (.invokevirtual 67, 3) := by decide +kernel
theorem d_CS_property_76 : decode b_CS_property 76 = .ok (.ireturn, 1) := by decide +kernel
theorem d_CS_named_0 : decode b_CS_named 0 = .ok (.iload_n 1, 1) := by decide +kernel
theorem d_CS_named_1 : decode b_CS_named 1 = .ok (.invokestatic 45, 3) := by decide +kernel
theorem d_CS_named_4 : decode b_CS_named 4 = .ok (.ifCond .eq 13, 3) := by decide +kernel
theorem d_CS_named_7 : decode b_CS_named 7 = .ok (.iload_n 2, 1) := by decide +kernel
theorem d_CS_named_8 : decode b_CS_named 8 = .ok (.ifCond .lt 9, 3) := by decide +kernel
theorem d_CS_named_11 : decode b_CS_named 11 = .ok (.iload_n 2, 1) := by decide +kernel
theorem d_CS_named_12 : decode b_CS_named 12 = .ok (.bipush 18, 2) := by decide +kernel
theorem d_CS_named_14 : decode b_CS_named 14 = .ok (.if_icmp .le 6, 3) := by decide +kernel
theorem d_CS_named_17 : decode b_CS_named 17 = .ok (.bipush (-2), 2) := by decide +kernel
theorem d_CS_named_19 : decode b_CS_named 19 = .ok (.ireturn, 1) := by decide +kernel
theorem d_CS_named_20 : decode b_CS_named 20 = .ok (.iload 4, 2) := by decide +kernel
theorem d_CS_named_22 : decode b_CS_named 22 = .ok (.ifCond .eq 19, 3) := by decide +kernel
theorem d_CS_named_25 : decode b_CS_named 25 = .ok (.iload_n 2, 1) := by decide +kernel
theorem d_CS_named_26 : decode b_CS_named 26 = .ok (.bipush 6, 2) := by decide +kernel
theorem d_CS_named_28 : decode b_CS_named 28 = .ok (.if_icmp .eq 9, 3) := by decide +kernel
theorem d_CS_named_31 : decode b_CS_named 31 = .ok (.iload_n 2, 1) := by decide +kernel
theorem d_CS_named_32 : decode b_CS_named 32 = .ok (.bipush 7, 2) := by decide +kernel
theorem d_CS_named_34 : decode b_CS_named 34 = .ok (.if_icmp .ne 7, 3) := by decide +kernel
theorem d_CS_named_37 : decode b_CS_named 37 = .ok (.iconst 1, 1) := by decide +kernel
theorem d_CS_named_38 : decode b_CS_named 38 = .ok (.goto 4, 3) := by decide +kernel
theorem d_CS_named_41 : decode b_CS_named 41 = .ok (.iconst 0, 1) := by decide +kernel
theorem d_CS_named_42 : decode b_CS_named 42 = .ok (.istore 5, 2) := by decide +kernel
theorem d_CS_named_44 : decode b_CS_named 44 = .ok (.aload_n 0, 1) := by decide +kernel
theorem d_CS_named_45 : decode b_CS_named 45 = .ok (.getfield 37, 3) := by decide +kernel
theorem d_CS_named_48 : decode b_CS_named 48 = .ok (.invokevirtual 49, 3) := by decide +kernel
theorem d_CS_named_51 : decode b_CS_named 51 = .ok (.aload_n 0, 1) := by decide +kernel
theorem d_CS_named_52 : decode b_CS_named 52 = .ok (.iload 5, 2) := by decide +kernel
theorem d_CS_named_54 : decode b_CS_named 54 = .ok (.ifCond .eq 7, 3) := by decide +kernel
theorem d_CS_named_57 : decode b_CS_named 57 = .ok (.iconst 5, 1) := by decide +kernel
theorem d_CS_named_58 : decode b_CS_named 58 = .ok (.goto 4, 3) := by decide +kernel
theorem d_CS_named_61 : decode b_CS_named 61 = .ok (.iload_n 2, 1) := by decide +kernel
theorem d_CS_named_62 : decode b_CS_named 62 = .ok (.invokevirtual 71, 3) := by decide +kernel
theorem d_CS_named_65 : decode b_CS_named 65 = .ok (.aload_n 0, 1) := by decide +kernel
theorem d_CS_named_66 : decode b_CS_named 66 = .ok (.aload_n 0, 1) := by decide +kernel
theorem d_CS_named_67 : decode b_CS_named 67 = .ok (.getfield 41, 3) := by decide +kernel
theorem d_CS_named_70 : decode b_CS_named 70 = .ok (.iload_n 1, 1) := by decide +kernel
theorem d_CS_named_71 : decode b_CS_named 71 = .ok (.aaload, 1) := by decide +kernel
theorem d_CS_named_72 : decode b_CS_named 72 = .ok (.iload_n 3, 1) := by decide +kernel
theorem d_CS_named_73 : decode b_CS_named 73 = .ok (.invokevirtual 67, 3) := by decide +kernel
theorem d_CS_named_76 : decode b_CS_named 76 = .ok (.ireturn, 1) := by decide +kernel
theorem d_CS_close_0 : decode b_CS_close 0 = .ok (.iload_n 1, 1) := by decide +kernel
theorem d_CS_close_1 : decode b_CS_close 1 = .ok (.invokestatic 45, 3) := by decide +kernel
theorem d_CS_close_4 : decode b_CS_close 4 = .ok (.ifCond .ne 6, 3) := by decide +kernel
theorem d_CS_close_7 : decode b_CS_close 7 = .ok (.bipush (-2), 2) := by decide +kernel
theorem d_CS_close_9 : decode b_CS_close 9 = .ok (.ireturn, 1) := by decide +kernel
theorem d_CS_close_10 : decode b_CS_close 10 = .ok (.iconst 0, 1) := by decide +kernel
theorem d_CS_close_11 : decode b_CS_close 11 = .ok (.istore_n 2, 1) := by decide +kernel
theorem d_CS_close_12 : decode b_CS_close 12 = .ok (.iconst 0, 1) := by decide +kernel
theorem d_CS_close_13 : decode b_CS_close 13 = .ok (.istore_n 3, 1) := by decide +kernel
theorem d_CS_close_14 : decode b_CS_close 14 = .ok (.iload_n 3, 1) := by decide +kernel
theorem d_CS_close_15 : decode b_CS_close 15 = .ok (.sipush 1122, 3) := by decide +kernel
theorem d_CS_close_18 : decode b_CS_close 18 = .ok (.if_icmp .ge 46, 3) := by decide +kernel
theorem d_CS_close_21 : decode b_CS_close 21 = .ok (.iload_n 3, 1) := by decide +kernel
theorem d_CS_close_22 : decode b_CS_close 22 = .ok (.invokestatic 74, 3) := by decide +kernel
theorem d_CS_close_25 : decode b_CS_close 25 = .ok (.istore 4, 2) := by decide +kernel
theorem d_CS_close_27 : decode b_CS_close 27 = .ok (.aload_n 0, 1) := by decide +kernel
theorem d_CS_close_28 : decode b_CS_close 28 = .ok (.aload_n 0, 1) := by decide +kernel
theorem d_CS_close_29 : decode b_CS_close 29 = .ok (.getfield 41, 3) := by decide +kernel
theorem d_CS_close_32 : decode b_CS_close 32 = .ok (.iload_n 1, 1) := by decide +kernel
theorem d_CS_close_33 : decode b_CS_close 33 = .ok (.aaload, 1) := by decide +kernel
theorem d_CS_close_34 : decode b_CS_close 34 = .ok (.iload 4, 2) := by decide +kernel
theorem d_CS_close_36 : decode b_CS_close 36 = .ok (.invokevirtual 78, 3) := by decide +kernel
theorem d_CS_close_39 : decode b_CS_close 39 = .ok (.ifCond .eq 19, 3) := by decide +kernel
theorem d_CS_close_42 : decode b_CS_close 42 = .ok (.aload_n 0, 1) := by decide +kernel
theorem d_CS_close_43 : decode b_CS_close 43 = .ok (.getfield 41, 3) := by decide +kernel
theorem d_CS_close_46 : decode b_CS_close 46 = .ok (.iload_n 1, 1) := by decide +kernel
theorem d_CS_close_47 : decode b_CS_close 47 = .ok (.aaload, 1) := by decide +kernel
theorem d_CS_close_48 : decode b_CS_close 48 = .ok (.iload 4, 2) := by decide +kernel
theorem d_CS_close_50 : decode b_CS_close 50 = .ok (.iload 4, 2) := by decide +kernel
theorem d_CS_close_52 : decode b_CS_close 52 = .ok (.invokevirtual 55, 3) := by decide +kernel
theorem d_CS_close_55 : decode b_CS_close 55 = .ok (.iinc 2 1, 3) := by decide +kernel
theorem d_CS_close_58 : decode b_CS_close 58 = .ok (.iinc 3 1, 3) := by decide +kernel
theorem d_CS_close_61 : decode b_CS_close 61 = .ok (.goto (-47), 3) := by decide +kernel
theorem d_CS_close_64 : decode b_CS_close 64 = .ok (.iload_n 2, 1) := by decide +kernel
theorem d_CS_close_65 : decode b_CS_close 65 = .ok (.ireturn, 1) := by decide +kernel
theorem d_CS_invert_0 : decode b_CS_invert 0 = .ok (.iload_n 1, 1) := by decide +kernel
theorem d_CS_invert_1 : decode b_CS_invert 1 = .ok (.invokestatic 45, 3) := by decide +kernel
theorem d_CS_invert_4 : decode b_CS_invert 4 = .ok (.ifCond .ne 6, 3) := by decide +kernel
theorem d_CS_invert_7 : decode b_CS_invert 7 = .ok (.bipush (-2), 2) := by decide +kernel
theorem d_CS_invert_9 : decode b_CS_invert 9 = .ok (.ireturn, 1) := by decide +kernel
theorem d_CS_invert_10 : decode b_CS_invert 10 = .ok (.aload_n 0, 1) := by decide +kernel
theorem d_CS_invert_11 : decode b_CS_invert 11 = .ok (.getfield 41, 3) := by decide +kernel
theorem d_CS_invert_14 : decode b_CS_invert 14 = .ok (.iload_n 1, 1) := by decide +kernel
theorem d_CS_invert_15 : decode b_CS_invert 15 = .ok (.aaload, 1) := by decide +kernel
theorem d_CS_invert_16 : decode b_CS_invert 16 = .ok (.aload_n 0, 1) := by decide +kernel
theorem d_CS_invert_17 : decode b_CS_invert 17 = .ok (.getfield 14, 3) := by decide +kernel
theorem d_CS_invert_20 : decode b_CS_invert 20 = .ok (.invokevirtual 82, 3) := by decide +kernel
theorem d_CS_invert_23 : decode b_CS_invert 23 = .ok (.aload_n 0, 1) := by decide +kernel
theorem d_CS_invert_24 : decode b_CS_invert 24 = .ok (.getfield 41, 3) := by decide +kernel
theorem d_CS_invert_27 : decode b_CS_invert 27 = .ok (.iload_n 1, 1) := by decide +kernel
theorem d_CS_invert_28 : decode b_CS_invert 28 = .ok (.aaload, 1) := by decide +kernel
theorem d_CS_invert_29 : decode b_CS_invert 29 = .ok (.invokevirtual 59, 3) := by decide +kernel
theorem d_CS_invert_32 : decode b_CS_invert 32 = .ok (.ireturn, 1) := by decide +kernel
theorem d_CS_join_0 : decode b_CS_join 0 = .ok (.iload_n 1, 1) := by decide +kernel
theorem d_CS_join_1 : decode b_CS_join 1 = .ok (.invokestatic 45, 3) := by decide +kernel
theorem d_CS_join_4 : decode b_CS_join 4 = .ok (.ifCond .eq 10, 3) := by decide +kernel
theorem d_CS_join_7 : decode b_CS_join 7 = .ok (.iload_n 2, 1) := by decide +kernel
theorem d_CS_join_8 : decode b_CS_join 8 = .ok (.invokestatic 45, 3) := by decide +kernel
theorem d_CS_join_11 : decode b_CS_join 11 = .ok (.ifCond .ne 6, 3) := by decide +kernel
theorem d_CS_join_14 : decode b_CS_join 14 = .ok (.bipush (-2), 2) := by decide +kernel
theorem d_CS_join_16 : decode b_CS_join 16 = .ok (.ireturn, 1) := by decide +kernel
theorem d_CS_join_17 : decode b_CS_join 17 = .ok (.aload_n 0, 1) := by decide +kernel
theorem d_CS_join_18 : decode b_CS_join 18 = .ok (.getfield 41, 3) := by decide +kernel
theorem d_CS_join_21 : decode b_CS_join 21 = .ok (.iload_n 1, 1) := by decide +kernel
theorem d_CS_join_22 : decode b_CS_join 22 = .ok (.aaload, 1) := by decide +kernel
theorem d_CS_join_23 : decode b_CS_join 23 = .ok (.aload_n 0, 1) := by decide +kernel
theorem d_CS_join_24 : decode b_CS_join 24 = .ok (.getfield 41, 3) := by decide +kernel
theorem d_CS_join_27 : decode b_CS_join 27 = .ok (.iload_n 2, 1) := by decide +kernel
theorem d_CS_join_28 : decode b_CS_join 28 = .ok (.aaload, 1) := by decide +kernel
theorem d_CS_join_29 : decode b_CS_join 29 = .ok (.invokevirtual 85, 3) := by decide +kernel
theorem d_CS_join_32 : decode b_CS_join 32 = .ok (.aload_n 0, 1) := by decide +kernel
theorem d_CS_join_33 : decode b_CS_join 33 = .ok (.getfield 41, 3) := by decide +kernel
theorem d_CS_join_36 : decode b_CS_join 36 = .ok (.iload_n 1, 1) := by decide +kernel
theorem d_CS_join_37 : decode b_CS_join 37 = .ok (.aaload, 1) := by decide +kernel
theorem d_CS_join_38 : decode b_CS_join 38 = .ok (.invokevirtual 59, 3) := by decide +kernel
theorem d_CS_join_41 : decode b_CS_join 41 = .ok (.ireturn, 1) := by decide +kernel
theorem d_CS_meets_0 : decode b_CS_meets 0 = .ok (.iload_n 1, 1) := by decide +kernel
theorem d_CS_meets_1 : decode b_CS_meets 1 = .ok (.invokestatic 45, 3) := by decide +kernel
theorem d_CS_meets_4 : decode b_CS_meets 4 = .ok (.ifCond .eq 10, 3) := by decide +kernel
theorem d_CS_meets_7 : decode b_CS_meets 7 = .ok (.iload_n 2, 1) := by decide +kernel
theorem d_CS_meets_8 : decode b_CS_meets 8 = .ok (.invokestatic 45, 3) := by decide +kernel
theorem d_CS_meets_11 : decode b_CS_meets 11 = .ok (.ifCond .ne 6, 3) := by decide +kernel
theorem d_CS_meets_14 : decode b_CS_meets 14 = .ok (.bipush (-2), 2) := by decide +kernel
theorem d_CS_meets_16 : decode b_CS_meets 16 = .ok (.ireturn, 1) := by decide +kernel
theorem d_CS_meets_17 : decode b_CS_meets 17 = .ok (.aload_n 0, 1) := by decide +kernel
theorem d_CS_meets_18 : decode b_CS_meets 18 = .ok (.getfield 41, 3) := by decide +kernel
theorem d_CS_meets_21 : decode b_CS_meets 21 = .ok (.iload_n 1, 1) := by decide +kernel
theorem d_CS_meets_22 : decode b_CS_meets 22 = .ok (.aaload, 1) := by decide +kernel
theorem d_CS_meets_23 : decode b_CS_meets 23 = .ok (.aload_n 0, 1) := by decide +kernel
theorem d_CS_meets_24 : decode b_CS_meets 24 = .ok (.getfield 41, 3) := by decide +kernel
theorem d_CS_meets_27 : decode b_CS_meets 27 = .ok (.iload_n 2, 1) := by decide +kernel
theorem d_CS_meets_28 : decode b_CS_meets 28 = .ok (.aaload, 1) := by decide +kernel
theorem d_CS_meets_29 : decode b_CS_meets 29 = .ok (.invokevirtual 89, 3) := by decide +kernel
theorem d_CS_meets_32 : decode b_CS_meets 32 = .ok (.ifCond .eq 7, 3) := by decide +kernel
theorem d_CS_meets_35 : decode b_CS_meets 35 = .ok (.iconst 1, 1) := by decide +kernel
theorem d_CS_meets_36 : decode b_CS_meets 36 = .ok (.goto 4, 3) := by decide +kernel
theorem d_CS_meets_39 : decode b_CS_meets 39 = .ok (.iconst 0, 1) := by decide +kernel
theorem d_CS_meets_40 : decode b_CS_meets 40 = .ok (.ireturn, 1) := by decide +kernel
theorem d_CS_same_0 : decode b_CS_same 0 = .ok (.iload_n 1, 1) := by decide +kernel
theorem d_CS_same_1 : decode b_CS_same 1 = .ok (.invokestatic 45, 3) := by decide +kernel
theorem d_CS_same_4 : decode b_CS_same 4 = .ok (.ifCond .eq 10, 3) := by decide +kernel
theorem d_CS_same_7 : decode b_CS_same 7 = .ok (.iload_n 2, 1) := by decide +kernel
theorem d_CS_same_8 : decode b_CS_same 8 = .ok (.invokestatic 45, 3) := by decide +kernel
theorem d_CS_same_11 : decode b_CS_same 11 = .ok (.ifCond .ne 6, 3) := by decide +kernel
theorem d_CS_same_14 : decode b_CS_same 14 = .ok (.bipush (-2), 2) := by decide +kernel
theorem d_CS_same_16 : decode b_CS_same 16 = .ok (.ireturn, 1) := by decide +kernel
theorem d_CS_same_17 : decode b_CS_same 17 = .ok (.aload_n 0, 1) := by decide +kernel
theorem d_CS_same_18 : decode b_CS_same 18 = .ok (.getfield 41, 3) := by decide +kernel
theorem d_CS_same_21 : decode b_CS_same 21 = .ok (.iload_n 1, 1) := by decide +kernel
theorem d_CS_same_22 : decode b_CS_same 22 = .ok (.aaload, 1) := by decide +kernel
theorem d_CS_same_23 : decode b_CS_same 23 = .ok (.aload_n 0, 1) := by decide +kernel
theorem d_CS_same_24 : decode b_CS_same 24 = .ok (.getfield 41, 3) := by decide +kernel
theorem d_CS_same_27 : decode b_CS_same 27 = .ok (.iload_n 2, 1) := by decide +kernel
theorem d_CS_same_28 : decode b_CS_same 28 = .ok (.aaload, 1) := by decide +kernel
theorem d_CS_same_29 : decode b_CS_same 29 = .ok (.invokevirtual 93, 3) := by decide +kernel
theorem d_CS_same_32 : decode b_CS_same 32 = .ok (.ifCond .eq 7, 3) := by decide +kernel
theorem d_CS_same_35 : decode b_CS_same 35 = .ok (.iconst 1, 1) := by decide +kernel
theorem d_CS_same_36 : decode b_CS_same 36 = .ok (.goto 4, 3) := by decide +kernel
theorem d_CS_same_39 : decode b_CS_same 39 = .ok (.iconst 0, 1) := by decide +kernel
theorem d_CS_same_40 : decode b_CS_same 40 = .ok (.ireturn, 1) := by decide +kernel
theorem d_CS_has_0 : decode b_CS_has 0 = .ok (.iload_n 1, 1) := by decide +kernel
theorem d_CS_has_1 : decode b_CS_has 1 = .ok (.invokestatic 45, 3) := by decide +kernel
theorem d_CS_has_4 : decode b_CS_has 4 = .ok (.ifCond .ne 6, 3) := by decide +kernel
theorem d_CS_has_7 : decode b_CS_has 7 = .ok (.bipush (-2), 2) := by decide +kernel
theorem d_CS_has_9 : decode b_CS_has 9 = .ok (.ireturn, 1) := by decide +kernel
theorem d_CS_has_10 : decode b_CS_has 10 = .ok (.aload_n 0, 1) := by decide +kernel
theorem d_CS_has_11 : decode b_CS_has 11 = .ok (.getfield 41, 3) := by decide +kernel
theorem d_CS_has_14 : decode b_CS_has 14 = .ok (.iload_n 1, 1) := by decide +kernel
theorem d_CS_has_15 : decode b_CS_has 15 = .ok (.aaload, 1) := by decide +kernel
theorem d_CS_has_16 : decode b_CS_has 16 = .ok (.iload_n 2, 1) := by decide +kernel
theorem d_CS_has_17 : decode b_CS_has 17 = .ok (.invokevirtual 96, 3) := by decide +kernel
theorem d_CS_has_20 : decode b_CS_has 20 = .ok (.ifCond .eq 7, 3) := by decide +kernel
theorem d_CS_has_23 : decode b_CS_has 23 = .ok (.iconst 1, 1) := by decide +kernel
theorem d_CS_has_24 : decode b_CS_has 24 = .ok (.goto 4, 3) := by decide +kernel
theorem d_CS_has_27 : decode b_CS_has 27 = .ok (.iconst 0, 1) := by decide +kernel
theorem d_CS_has_28 : decode b_CS_has 28 = .ok (.ireturn, 1) := by decide +kernel
theorem d_CS_size_0 : decode b_CS_size 0 = .ok (.iload_n 1, 1) := by decide +kernel
theorem d_CS_size_1 : decode b_CS_size 1 = .ok (.invokestatic 45, 3) := by decide +kernel
theorem d_CS_size_4 : decode b_CS_size 4 = .ok (.ifCond .ne 6, 3) := by decide +kernel
theorem d_CS_size_7 : decode b_CS_size 7 = .ok (.bipush (-2), 2) := by decide +kernel
theorem d_CS_size_9 : decode b_CS_size 9 = .ok (.ireturn, 1) := by decide +kernel
theorem d_CS_size_10 : decode b_CS_size 10 = .ok (.aload_n 0, 1) := by decide +kernel
theorem d_CS_size_11 : decode b_CS_size 11 = .ok (.getfield 41, 3) := by decide +kernel
theorem d_CS_size_14 : decode b_CS_size 14 = .ok (.iload_n 1, 1) := by decide +kernel
theorem d_CS_size_15 : decode b_CS_size 15 = .ok (.aaload, 1) := by decide +kernel
theorem d_CS_size_16 : decode b_CS_size 16 = .ok (.invokevirtual 99, 3) := by decide +kernel
theorem d_CS_size_19 : decode b_CS_size 19 = .ok (.ireturn, 1) := by decide +kernel
theorem d_CS_least_0 : decode b_CS_least 0 = .ok (.iload_n 1, 1) := by decide +kernel
theorem d_CS_least_1 : decode b_CS_least 1 = .ok (.invokestatic 45, 3) := by decide +kernel
theorem d_CS_least_4 : decode b_CS_least 4 = .ok (.ifCond .ne 6, 3) := by decide +kernel
theorem d_CS_least_7 : decode b_CS_least 7 = .ok (.bipush (-2), 2) := by decide +kernel
theorem d_CS_least_9 : decode b_CS_least 9 = .ok (.ireturn, 1) := by decide +kernel
theorem d_CS_least_10 : decode b_CS_least 10 = .ok (.aload_n 0, 1) := by decide +kernel
theorem d_CS_least_11 : decode b_CS_least 11 = .ok (.getfield 41, 3) := by decide +kernel
theorem d_CS_least_14 : decode b_CS_least 14 = .ok (.iload_n 1, 1) := by decide +kernel
theorem d_CS_least_15 : decode b_CS_least 15 = .ok (.aaload, 1) := by decide +kernel
theorem d_CS_least_16 : decode b_CS_least 16 = .ok (.iload_n 2, 1) := by decide +kernel
theorem d_CS_least_17 : decode b_CS_least 17 = .ok (.invokevirtual 102, 3) := by decide +kernel
theorem d_CS_least_20 : decode b_CS_least 20 = .ok (.ireturn, 1) := by decide +kernel
theorem d_CS_bound_0 : decode b_CS_bound 0 = .ok (.iload_n 1, 1) := by decide +kernel
theorem d_CS_bound_1 : decode b_CS_bound 1 = .ok (.invokestatic 45, 3) := by decide +kernel
theorem d_CS_bound_4 : decode b_CS_bound 4 = .ok (.ifCond .eq 20, 3) := by decide +kernel
theorem d_CS_bound_7 : decode b_CS_bound 7 = .ok (.iload_n 2, 1) := by decide +kernel
theorem d_CS_bound_8 : decode b_CS_bound 8 = .ok (.ifCond .lt 16, 3) := by decide +kernel
theorem d_CS_bound_11 : decode b_CS_bound 11 = .ok (.iload_n 2, 1) := by decide +kernel
theorem d_CS_bound_12 : decode b_CS_bound 12 = .ok (.aload_n 0, 1) := by decide +kernel
theorem d_CS_bound_13 : decode b_CS_bound 13 = .ok (.getfield 41, 3) := by decide +kernel
theorem d_CS_bound_16 : decode b_CS_bound 16 = .ok (.iload_n 1, 1) := by decide +kernel
theorem d_CS_bound_17 : decode b_CS_bound 17 = .ok (.aaload, 1) := by decide +kernel
theorem d_CS_bound_18 : decode b_CS_bound 18 = .ok (.invokevirtual 59, 3) := by decide +kernel
theorem d_CS_bound_21 : decode b_CS_bound 21 = .ok (.if_icmp .lt 6, 3) := by decide +kernel
theorem d_CS_bound_24 : decode b_CS_bound 24 = .ok (.bipush (-2), 2) := by decide +kernel
theorem d_CS_bound_26 : decode b_CS_bound 26 = .ok (.ireturn, 1) := by decide +kernel
theorem d_CS_bound_27 : decode b_CS_bound 27 = .ok (.iload_n 3, 1) := by decide +kernel
theorem d_CS_bound_28 : decode b_CS_bound 28 = .ok (.ifCond .eq 16, 3) := by decide +kernel
theorem d_CS_bound_31 : decode b_CS_bound 31 = .ok (.aload_n 0, 1) := by decide +kernel
theorem d_CS_bound_32 : decode b_CS_bound 32 = .ok (.getfield 41, 3) := by decide +kernel
theorem d_CS_bound_35 : decode b_CS_bound 35 = .ok (.iload_n 1, 1) := by decide +kernel
theorem d_CS_bound_36 : decode b_CS_bound 36 = .ok (.aaload, 1) := by decide +kernel
theorem d_CS_bound_37 : decode b_CS_bound 37 = .ok (.iload_n 2, 1) := by decide +kernel
theorem d_CS_bound_38 : decode b_CS_bound 38 = .ok (.invokevirtual 105, 3) := by decide +kernel
theorem d_CS_bound_41 : decode b_CS_bound 41 = .ok (.goto 13, 3) := by decide +kernel
theorem d_CS_bound_44 : decode b_CS_bound 44 = .ok (.aload_n 0, 1) := by decide +kernel
theorem d_CS_bound_45 : decode b_CS_bound 45 = .ok (.getfield 41, 3) := by decide +kernel
theorem d_CS_bound_48 : decode b_CS_bound 48 = .ok (.iload_n 1, 1) := by decide +kernel
theorem d_CS_bound_49 : decode b_CS_bound 49 = .ok (.aaload, 1) := by decide +kernel
theorem d_CS_bound_50 : decode b_CS_bound 50 = .ok (.iload_n 2, 1) := by decide +kernel
theorem d_CS_bound_51 : decode b_CS_bound 51 = .ok (.invokevirtual 108, 3) := by decide +kernel
theorem d_CS_bound_54 : decode b_CS_bound 54 = .ok (.ireturn, 1) := by decide +kernel
theorem d_CS_about_0 : decode b_CS_about 0 = .ok (.iload_n 1, 1) := by decide +kernel
theorem d_CS_about_1 : decode b_CS_about 1 = .ok (.ifCond .lt 18, 3) := by decide +kernel
theorem d_CS_about_4 : decode b_CS_about 4 = .ok (.iload_n 1, 1) := by decide +kernel
theorem d_CS_about_5 : decode b_CS_about 5 = .ok (.ldc 13, 2) := by decide +kernel
theorem d_CS_about_7 : decode b_CS_about 7 = .ok (.if_icmp .gt 12, 3) := by decide +kernel
theorem d_CS_about_10 : decode b_CS_about 10 = .ok (.iload_n 2, 1) := by decide +kernel
theorem d_CS_about_11 : decode b_CS_about 11 = .ok (.ifCond .lt 8, 3) := by decide +kernel
theorem d_CS_about_14 : decode b_CS_about 14 = .ok (.iload_n 2, 1) := by decide +kernel
theorem d_CS_about_15 : decode b_CS_about 15 = .ok (.iconst 4, 1) := by decide +kernel
theorem d_CS_about_16 : decode b_CS_about 16 = .ok (.if_icmp .le 6, 3) := by decide +kernel
theorem d_CS_about_19 : decode b_CS_about 19 = .ok (.bipush (-2), 2) := by decide +kernel
theorem d_CS_about_21 : decode b_CS_about 21 = .ok (.ireturn, 1) := by decide +kernel
theorem d_CS_about_22 : decode b_CS_about 22 = .ok (.iload_n 2, 1) := by decide +kernel
theorem d_CS_about_23 : decode b_CS_about 23 = .ok (.ifCond .ne 12, 3) := by decide +kernel
theorem d_CS_about_26 : decode b_CS_about 26 = .ok (.aload_n 0, 1) := by decide +kernel
theorem d_CS_about_27 : decode b_CS_about 27 = .ok (.getfield 21, 3) := by decide +kernel
theorem d_CS_about_30 : decode b_CS_about 30 = .ok (.iload_n 1, 1) := by decide +kernel
theorem d_CS_about_31 : decode b_CS_about 31 = .ok (.invokevirtual 111, 3) := by decide +kernel
theorem d_CS_about_34 : decode b_CS_about 34 = .ok (.ireturn, 1) := by decide +kernel
theorem d_CS_about_35 : decode b_CS_about 35 = .ok (.iload_n 2, 1) := by decide +kernel
theorem d_CS_about_36 : decode b_CS_about 36 = .ok (.iconst 1, 1) := by decide +kernel
theorem d_CS_about_37 : decode b_CS_about 37 = .ok (.if_icmp .ne 12, 3) := by decide +kernel
theorem d_CS_about_40 : decode b_CS_about 40 = .ok (.aload_n 0, 1) := by decide +kernel
theorem d_CS_about_41 : decode b_CS_about 41 = .ok (.getfield 21, 3) := by decide +kernel
theorem d_CS_about_44 : decode b_CS_about 44 = .ok (.iload_n 1, 1) := by decide +kernel
theorem d_CS_about_45 : decode b_CS_about 45 = .ok (.invokevirtual 114, 3) := by decide +kernel
theorem d_CS_about_48 : decode b_CS_about 48 = .ok (.ireturn, 1) := by decide +kernel
theorem d_CS_about_49 : decode b_CS_about 49 = .ok (.aload_n 0, 1) := by decide +kernel
theorem d_CS_about_50 : decode b_CS_about 50 = .ok (.iload_n 1, 1) := by decide +kernel
theorem d_CS_about_51 : decode b_CS_about 51 = .ok (.invokevirtual 52, 3) := by decide +kernel
theorem d_CS_about_54 : decode b_CS_about 54 = .ok (.ifCond .ne 6, 3) := by decide +kernel
theorem d_CS_about_57 : decode b_CS_about 57 = .ok (.bipush (-2), 2) := by decide +kernel
theorem d_CS_about_59 : decode b_CS_about 59 = .ok (.ireturn, 1) := by decide +kernel
theorem d_CS_about_60 : decode b_CS_about 60 = .ok (.iload_n 2, 1) := by decide +kernel
theorem d_CS_about_61 : decode b_CS_about 61 = .ok (.iconst 2, 1) := by decide +kernel
theorem d_CS_about_62 : decode b_CS_about 62 = .ok (.if_icmp .ne 9, 3) := by decide +kernel
theorem d_CS_about_65 : decode b_CS_about 65 = .ok (.aload_n 0, 1) := by decide +kernel
theorem d_CS_about_66 : decode b_CS_about 66 = .ok (.iload_n 1, 1) := by decide +kernel
theorem d_CS_about_67 : decode b_CS_about 67 = .ok (.invokevirtual 117, 3) := by decide +kernel
theorem d_CS_about_70 : decode b_CS_about 70 = .ok (.ireturn, 1) := by decide +kernel
theorem d_CS_about_71 : decode b_CS_about 71 = .ok (.iload_n 2, 1) := by decide +kernel
theorem d_CS_about_72 : decode b_CS_about 72 = .ok (.iconst 3, 1) := by decide +kernel
theorem d_CS_about_73 : decode b_CS_about 73 = .ok (.if_icmp .ne 11, 3) := by decide +kernel
theorem d_CS_about_76 : decode b_CS_about 76 = .ok (.aload_n 0, 1) := by decide +kernel
theorem d_CS_about_77 : decode b_CS_about 77 = .ok (.iload_n 1, 1) := by decide +kernel
theorem d_CS_about_78 : decode b_CS_about 78 = .ok (.invokevirtual 120, 3) := by decide +kernel
theorem d_CS_about_81 : decode b_CS_about 81 = .ok (.goto 11, 3) := by decide +kernel
theorem d_CS_about_84 : decode b_CS_about 84 = .ok (.aload_n 0, 1) := by decide +kernel
theorem d_CS_about_85 : decode b_CS_about 85 = .ok (.getfield 30, 3) := by decide +kernel
theorem d_CS_about_88 : decode b_CS_about 88 = .ok (.iload_n 1, 1) := by decide +kernel
theorem d_CS_about_89 : decode b_CS_about 89 = .ok (.invokevirtual 123, 3) := by decide +kernel
theorem d_CS_about_92 : decode b_CS_about 92 = .ok (.ireturn, 1) := by decide +kernel
theorem d_CS_isSet_0 : decode b_CS_isSet 0 = .ok (.iload_n 0, 1) := by decide +kernel
theorem d_CS_isSet_1 : decode b_CS_isSet 1 = .ok (.ifCond .lt 13, 3) := by decide +kernel
theorem d_CS_isSet_4 : decode b_CS_isSet 4 = .ok (.iload_n 0, 1) := by decide +kernel
theorem d_CS_isSet_5 : decode b_CS_isSet 5 = .ok (.bipush 8, 2) := by decide +kernel
theorem d_CS_isSet_7 : decode b_CS_isSet 7 = .ok (.if_icmp .ge 7, 3) := by decide +kernel
theorem d_CS_isSet_10 : decode b_CS_isSet 10 = .ok (.iconst 1, 1) := by decide +kernel
theorem d_CS_isSet_11 : decode b_CS_isSet 11 = .ok (.goto 4, 3) := by decide +kernel
theorem d_CS_isSet_14 : decode b_CS_isSet 14 = .ok (.iconst 0, 1) := by decide +kernel
theorem d_CS_isSet_15 : decode b_CS_isSet 15 = .ok (.ireturn, 1) := by decide +kernel
theorem d_CS_isThere_0 : decode b_CS_isThere 0 = .ok (.iload_n 1, 1) := by decide +kernel
theorem d_CS_isThere_1 : decode b_CS_isThere 1 = .ok (.ifCond .lt 15, 3) := by decide +kernel
theorem d_CS_isThere_4 : decode b_CS_isThere 4 = .ok (.iload_n 1, 1) := by decide +kernel
theorem d_CS_isThere_5 : decode b_CS_isThere 5 = .ok (.aload_n 0, 1) := by decide +kernel
theorem d_CS_isThere_6 : decode b_CS_isThere 6 = .ok (.getfield 14, 3) := by decide +kernel
theorem d_CS_isThere_9 : decode b_CS_isThere 9 = .ok (.if_icmp .gt 7, 3) := by decide +kernel
theorem d_CS_isThere_12 : decode b_CS_isThere 12 = .ok (.iconst 1, 1) := by decide +kernel
theorem d_CS_isThere_13 : decode b_CS_isThere 13 = .ok (.goto 4, 3) := by decide +kernel
theorem d_CS_isThere_16 : decode b_CS_isThere 16 = .ok (.iconst 0, 1) := by decide +kernel
theorem d_CS_isThere_17 : decode b_CS_isThere 17 = .ok (.ireturn, 1) := by decide +kernel
theorem d_CS_isMissing_0 : decode b_CS_isMissing 0 = .ok (.aload_n 0, 1) := by decide +kernel
theorem d_CS_isMissing_1 : decode b_CS_isMissing 1 = .ok (.getfield 30, 3) := by decide +kernel
theorem d_CS_isMissing_4 : decode b_CS_isMissing 4 = .ok (.iload_n 2, 1) := by decide +kernel
theorem d_CS_isMissing_5 : decode b_CS_isMissing 5 = .ok (.invokevirtual 123, 3) := by decide +kernel
theorem d_CS_isMissing_8 : decode b_CS_isMissing 8 = .ok (.istore_n 3, 1) := by decide +kernel
theorem d_CS_isMissing_9 : decode b_CS_isMissing 9 = .ok (.iload_n 3, 1) := by decide +kernel
theorem d_CS_isMissing_10 : decode b_CS_isMissing 10 = .ok (.iload_n 2, 1) := by decide +kernel
theorem d_CS_isMissing_11 : decode b_CS_isMissing 11 = .ok (.if_icmp .eq 11, 3) := by decide +kernel
theorem d_CS_isMissing_14 : decode b_CS_isMissing 14 = .ok (.aload_n 1, 1) := by decide +kernel
theorem d_CS_isMissing_15 : decode b_CS_isMissing 15 = .ok (.iload_n 2, 1) := by decide +kernel
theorem d_CS_isMissing_16 : decode b_CS_isMissing 16 = .ok (.invokevirtual 96, 3) := by decide +kernel
theorem d_CS_isMissing_19 : decode b_CS_isMissing 19 = .ok (.ifCond .eq 5, 3) := by decide +kernel
theorem d_CS_isMissing_22 : decode b_CS_isMissing 22 = .ok (.iconst 0, 1) := by decide +kernel
theorem d_CS_isMissing_23 : decode b_CS_isMissing 23 = .ok (.ireturn, 1) := by decide +kernel
theorem d_CS_isMissing_24 : decode b_CS_isMissing 24 = .ok (.aload_n 1, 1) := by decide +kernel
theorem d_CS_isMissing_25 : decode b_CS_isMissing 25 = .ok (.iload_n 3, 1) := by decide +kernel
theorem d_CS_isMissing_26 : decode b_CS_isMissing 26 = .ok (.invokevirtual 96, 3) := by decide +kernel
theorem d_CS_isMissing_29 : decode b_CS_isMissing 29 = .ok (.ifCond .ne 18, 3) := by decide +kernel
theorem d_CS_isMissing_32 : decode b_CS_isMissing 32 = .ok (.aload_n 1, 1) := by decide +kernel
theorem d_CS_isMissing_33 : decode b_CS_isMissing 33 = .ok (.aload_n 0, 1) := by decide +kernel
theorem d_CS_isMissing_34 : decode b_CS_isMissing 34 = .ok (.getfield 30, 3) := by decide +kernel
theorem d_CS_isMissing_37 : decode b_CS_isMissing 37 = .ok (.iload_n 3, 1) := by decide +kernel
theorem d_CS_isMissing_38 : decode b_CS_isMissing 38 = .ok (.invokevirtual 123, 3) := by decide +kernel
theorem d_CS_isMissing_41 : decode b_CS_isMissing 41 = .ok (.invokevirtual 96, 3) := by decide +kernel
theorem d_CS_isMissing_44 : decode b_CS_isMissing 44 = .ok (.ifCond .eq 7, 3) := by decide +kernel
theorem d_CS_isMissing_47 : decode b_CS_isMissing 47 = .ok (.iconst 1, 1) := by decide +kernel
theorem d_CS_isMissing_48 : decode b_CS_isMissing 48 = .ok (.goto 4, 3) := by decide +kernel
theorem d_CS_isMissing_51 : decode b_CS_isMissing 51 = .ok (.iconst 0, 1) := by decide +kernel
theorem d_CS_isMissing_52 : decode b_CS_isMissing 52 = .ok (.ireturn, 1) := by decide +kernel
theorem d_CS_upperOf_0 : decode b_CS_upperOf 0 = .ok (.aload_n 0, 1) := by decide +kernel
theorem d_CS_upperOf_1 : decode b_CS_upperOf 1 = .ok (.getfield 21, 3) := by decide +kernel
theorem d_CS_upperOf_4 : decode b_CS_upperOf 4 = .ok (.iload_n 1, 1) := by decide +kernel
theorem d_CS_upperOf_5 : decode b_CS_upperOf 5 = .ok (.invokevirtual 111, 3) := by decide +kernel
theorem d_CS_upperOf_8 : decode b_CS_upperOf 8 = .ok (.iconst 4, 1) := by decide +kernel
theorem d_CS_upperOf_9 : decode b_CS_upperOf 9 = .ok (.if_icmp .eq 5, 3) := by decide +kernel
theorem d_CS_upperOf_12 : decode b_CS_upperOf 12 = .ok (.iload_n 1, 1) := by decide +kernel
theorem d_CS_upperOf_13 : decode b_CS_upperOf 13 = .ok (.ireturn, 1) := by decide +kernel
theorem d_CS_upperOf_14 : decode b_CS_upperOf 14 = .ok (.iload_n 1, 1) := by decide +kernel
theorem d_CS_upperOf_15 : decode b_CS_upperOf 15 = .ok (.istore_n 2, 1) := by decide +kernel
theorem d_CS_upperOf_16 : decode b_CS_upperOf 16 = .ok (.iload_n 1, 1) := by decide +kernel
theorem d_CS_upperOf_17 : decode b_CS_upperOf 17 = .ok (.istore_n 3, 1) := by decide +kernel
theorem d_CS_upperOf_18 : decode b_CS_upperOf 18 = .ok (.iconst 1, 1) := by decide +kernel
theorem d_CS_upperOf_19 : decode b_CS_upperOf 19 = .ok (.istore 4, 2) := by decide +kernel
theorem d_CS_upperOf_21 : decode b_CS_upperOf 21 = .ok (.iload 4, 2) := by decide +kernel
theorem d_CS_upperOf_23 : decode b_CS_upperOf 23 = .ok (.iconst 3, 1) := by decide +kernel
theorem d_CS_upperOf_24 : decode b_CS_upperOf 24 = .ok (.if_icmp .ge 55, 3) := by decide +kernel
theorem d_CS_upperOf_27 : decode b_CS_upperOf 27 = .ok (.aload_n 0, 1) := by decide +kernel
theorem d_CS_upperOf_28 : decode b_CS_upperOf 28 = .ok (.getfield 30, 3) := by decide +kernel
theorem d_CS_upperOf_31 : decode b_CS_upperOf 31 = .ok (.iload_n 3, 1) := by decide +kernel
theorem d_CS_upperOf_32 : decode b_CS_upperOf 32 = .ok (.invokevirtual 123, 3) := by decide +kernel
theorem d_CS_upperOf_35 : decode b_CS_upperOf 35 = .ok (.istore_n 3, 1) := by decide +kernel
theorem d_CS_upperOf_36 : decode b_CS_upperOf 36 = .ok (.iload_n 2, 1) := by decide +kernel
theorem d_CS_upperOf_37 : decode b_CS_upperOf 37 = .ok (.iload_n 1, 1) := by decide +kernel
theorem d_CS_upperOf_38 : decode b_CS_upperOf 38 = .ok (.if_icmp .eq 8, 3) := by decide +kernel
theorem d_CS_upperOf_41 : decode b_CS_upperOf 41 = .ok (.iload_n 3, 1) := by decide +kernel
theorem d_CS_upperOf_42 : decode b_CS_upperOf 42 = .ok (.iload_n 2, 1) := by decide +kernel
theorem d_CS_upperOf_43 : decode b_CS_upperOf 43 = .ok (.if_icmp .ge 7, 3) := by decide +kernel
theorem d_CS_upperOf_46 : decode b_CS_upperOf 46 = .ok (.iconst 1, 1) := by decide +kernel
theorem d_CS_upperOf_47 : decode b_CS_upperOf 47 = .ok (.goto 4, 3) := by decide +kernel
theorem d_CS_upperOf_50 : decode b_CS_upperOf 50 = .ok (.iconst 0, 1) := by decide +kernel
theorem d_CS_upperOf_51 : decode b_CS_upperOf 51 = .ok (.istore 5, 2) := by decide +kernel
theorem d_CS_upperOf_53 : decode b_CS_upperOf 53 = .ok (.iload 5, 2) := by decide +kernel
theorem d_CS_upperOf_55 : decode b_CS_upperOf 55 = .ok (.ifCond .eq 18, 3) := by decide +kernel
theorem d_CS_upperOf_58 : decode b_CS_upperOf 58 = .ok (.aload_n 0, 1) := by decide +kernel
theorem d_CS_upperOf_59 : decode b_CS_upperOf 59 = .ok (.getfield 21, 3) := by decide +kernel
theorem d_CS_upperOf_62 : decode b_CS_upperOf 62 = .ok (.iload_n 3, 1) := by decide +kernel
theorem d_CS_upperOf_63 : decode b_CS_upperOf 63 = .ok (.invokevirtual 111, 3) := by decide +kernel
theorem d_CS_upperOf_66 : decode b_CS_upperOf 66 = .ok (.bipush 6, 2) := by decide +kernel
theorem d_CS_upperOf_68 : decode b_CS_upperOf 68 = .ok (.if_icmp .ne 5, 3) := by decide +kernel
theorem d_CS_upperOf_71 : decode b_CS_upperOf 71 = .ok (.iload_n 3, 1) := by decide +kernel
theorem d_CS_upperOf_72 : decode b_CS_upperOf 72 = .ok (.istore_n 2, 1) := by decide +kernel
theorem d_CS_upperOf_73 : decode b_CS_upperOf 73 = .ok (.iinc 4 1, 3) := by decide +kernel
theorem d_CS_upperOf_76 : decode b_CS_upperOf 76 = .ok (.goto (-55), 3) := by decide +kernel
theorem d_CS_upperOf_79 : decode b_CS_upperOf 79 = .ok (.iload_n 2, 1) := by decide +kernel
theorem d_CS_upperOf_80 : decode b_CS_upperOf 80 = .ok (.ireturn, 1) := by decide +kernel
