theorem d_CS_lowerOf_0 : decode b_CS_lowerOf 0 = .ok (.aload_n 0, 1) := by decide +kernel
theorem d_CS_lowerOf_1 : decode b_CS_lowerOf 1 = .ok (.getfield 21, 3) := by decide +kernel
theorem d_CS_lowerOf_4 : decode b_CS_lowerOf 4 = .ok (.iload_n 1, 1) := by decide +kernel
theorem d_CS_lowerOf_5 : decode b_CS_lowerOf 5 = .ok (.invokevirtual 111, 3) := by decide +kernel
theorem d_CS_lowerOf_8 : decode b_CS_lowerOf 8 = .ok (.bipush 6, 2) := by decide +kernel
theorem d_CS_lowerOf_10 : decode b_CS_lowerOf 10 = .ok (.if_icmp .eq 5, 3) := by decide +kernel
theorem d_CS_lowerOf_13 : decode b_CS_lowerOf 13 = .ok (.iload_n 1, 1) := by decide +kernel
theorem d_CS_lowerOf_14 : decode b_CS_lowerOf 14 = .ok (.ireturn, 1) := by decide +kernel
theorem d_CS_lowerOf_15 : decode b_CS_lowerOf 15 = .ok (.iload_n 1, 1) := by decide +kernel
theorem d_CS_lowerOf_16 : decode b_CS_lowerOf 16 = .ok (.istore_n 2, 1) := by decide +kernel
theorem d_CS_lowerOf_17 : decode b_CS_lowerOf 17 = .ok (.iconst 1, 1) := by decide +kernel
theorem d_CS_lowerOf_18 : decode b_CS_lowerOf 18 = .ok (.istore_n 3, 1) := by decide +kernel
theorem d_CS_lowerOf_19 : decode b_CS_lowerOf 19 = .ok (.iload_n 3, 1) := by decide +kernel
theorem d_CS_lowerOf_20 : decode b_CS_lowerOf 20 = .ok (.iconst 3, 1) := by decide +kernel
theorem d_CS_lowerOf_21 : decode b_CS_lowerOf 21 = .ok (.if_icmp .ge 65, 3) := by decide +kernel
theorem d_CS_lowerOf_24 : decode b_CS_lowerOf 24 = .ok (.aload_n 0, 1) := by decide +kernel
theorem d_CS_lowerOf_25 : decode b_CS_lowerOf 25 = .ok (.getfield 30, 3) := by decide +kernel
theorem d_CS_lowerOf_28 : decode b_CS_lowerOf 28 = .ok (.iload_n 2, 1) := by decide +kernel
theorem d_CS_lowerOf_29 : decode b_CS_lowerOf 29 = .ok (.invokevirtual 123, 3) := by decide +kernel
theorem d_CS_lowerOf_32 : decode b_CS_lowerOf 32 = .ok (.istore_n 2, 1) := by decide +kernel
theorem d_CS_lowerOf_33 : decode b_CS_lowerOf 33 = .ok (.iload_n 2, 1) := by decide +kernel
theorem d_CS_lowerOf_34 : decode b_CS_lowerOf 34 = .ok (.sipush 383, 3) := by decide +kernel
theorem d_CS_lowerOf_37 : decode b_CS_lowerOf 37 = .ok (.if_icmp .eq 17, 3) := by decide +kernel
theorem d_CS_lowerOf_40 : decode b_CS_lowerOf 40 = .ok (.iload_n 2, 1) := by decide +kernel
theorem d_CS_lowerOf_41 : decode b_CS_lowerOf 41 = .ok (.sipush 181, 3) := by decide +kernel
theorem d_CS_lowerOf_44 : decode b_CS_lowerOf 44 = .ok (.if_icmp .eq 10, 3) := by decide +kernel
theorem d_CS_lowerOf_47 : decode b_CS_lowerOf 47 = .ok (.iload_n 2, 1) := by decide +kernel
theorem d_CS_lowerOf_48 : decode b_CS_lowerOf 48 = .ok (.sipush 962, 3) := by decide +kernel
theorem d_CS_lowerOf_51 : decode b_CS_lowerOf 51 = .ok (.if_icmp .ne 7, 3) := by decide +kernel
theorem d_CS_lowerOf_54 : decode b_CS_lowerOf 54 = .ok (.iconst 1, 1) := by decide +kernel
theorem d_CS_lowerOf_55 : decode b_CS_lowerOf 55 = .ok (.goto 4, 3) := by decide +kernel
theorem d_CS_lowerOf_58 : decode b_CS_lowerOf 58 = .ok (.iconst 0, 1) := by decide +kernel
theorem d_CS_lowerOf_59 : decode b_CS_lowerOf 59 = .ok (.istore 4, 2) := by decide +kernel
theorem d_CS_lowerOf_61 : decode b_CS_lowerOf 61 = .ok (.iload 4, 2) := by decide +kernel
theorem d_CS_lowerOf_63 : decode b_CS_lowerOf 63 = .ok (.ifCond .ne 17, 3) := by decide +kernel
theorem d_CS_lowerOf_66 : decode b_CS_lowerOf 66 = .ok (.aload_n 0, 1) := by decide +kernel
theorem d_CS_lowerOf_67 : decode b_CS_lowerOf 67 = .ok (.getfield 21, 3) := by decide +kernel
theorem d_CS_lowerOf_70 : decode b_CS_lowerOf 70 = .ok (.iload_n 2, 1) := by decide +kernel
theorem d_CS_lowerOf_71 : decode b_CS_lowerOf 71 = .ok (.invokevirtual 111, 3) := by decide +kernel
theorem d_CS_lowerOf_74 : decode b_CS_lowerOf 74 = .ok (.iconst 4, 1) := by decide +kernel
theorem d_CS_lowerOf_75 : decode b_CS_lowerOf 75 = .ok (.if_icmp .ne 5, 3) := by decide +kernel
theorem d_CS_lowerOf_78 : decode b_CS_lowerOf 78 = .ok (.iload_n 2, 1) := by decide +kernel
theorem d_CS_lowerOf_79 : decode b_CS_lowerOf 79 = .ok (.ireturn, 1) := by decide +kernel
theorem d_CS_lowerOf_80 : decode b_CS_lowerOf 80 = .ok (.iinc 3 1, 3) := by decide +kernel
theorem d_CS_lowerOf_83 : decode b_CS_lowerOf 83 = .ok (.goto (-64), 3) := by decide +kernel
theorem d_CS_lowerOf_86 : decode b_CS_lowerOf 86 = .ok (.iload_n 1, 1) := by decide +kernel
theorem d_CS_lowerOf_87 : decode b_CS_lowerOf 87 = .ok (.ireturn, 1) := by decide +kernel
theorem d_CS_addGathered_0 : decode b_CS_addGathered 0 = .ok (.iload_n 2, 1) := by decide +kernel
theorem d_CS_addGathered_1 : decode b_CS_addGathered 1 = .ok (.ifCond .eq 14, 3) := by decide +kernel
theorem d_CS_addGathered_4 : decode b_CS_addGathered 4 = .ok (.aload_n 0, 1) := by decide +kernel
theorem d_CS_addGathered_5 : decode b_CS_addGathered 5 = .ok (.getfield 37, 3) := by decide +kernel
theorem d_CS_addGathered_8 : decode b_CS_addGathered 8 = .ok (.aload_n 0, 1) := by decide +kernel
theorem d_CS_addGathered_9 : decode b_CS_addGathered 9 = .ok (.getfield 14, 3) := by decide +kernel
theorem d_CS_addGathered_12 : decode b_CS_addGathered 12 = .ok (.invokevirtual 82, 3) := by decide +kernel
theorem d_CS_addGathered_15 : decode b_CS_addGathered 15 = .ok (.aload_n 1, 1) := by decide +kernel
theorem d_CS_addGathered_16 : decode b_CS_addGathered 16 = .ok (.aload_n 0, 1) := by decide +kernel
theorem d_CS_addGathered_17 : decode b_CS_addGathered 17 = .ok (.getfield 37, 3) := by decide +kernel
theorem d_CS_addGathered_20 : decode b_CS_addGathered 20 = .ok (.invokevirtual 85, 3) := by decide +kernel
theorem d_CS_addGathered_23 : decode b_CS_addGathered 23 = .ok (.aload_n 1, 1) := by decide +kernel
theorem d_CS_addGathered_24 : decode b_CS_addGathered 24 = .ok (.invokevirtual 59, 3) := by decide +kernel
theorem d_CS_addGathered_27 : decode b_CS_addGathered 27 = .ok (.ireturn, 1) := by decide +kernel
theorem d_CS_gatherProperty_0 : decode b_CS_gatherProperty 0 = .ok (.iload_n 1, 1) := by decide +kernel
theorem d_CS_gatherProperty_1 : decode b_CS_gatherProperty 1 = .ok (.bipush 32, 2) := by decide +kernel
theorem d_CS_gatherProperty_3 : decode b_CS_gatherProperty 3 = .ok (.if_icmp .lt 18, 3) := by decide +kernel
theorem d_CS_gatherProperty_6 : decode b_CS_gatherProperty 6 = .ok (.iload_n 1, 1) := by decide +kernel
theorem d_CS_gatherProperty_7 : decode b_CS_gatherProperty 7 = .ok (.bipush 44, 2) := by decide +kernel
theorem d_CS_gatherProperty_9 : decode b_CS_gatherProperty 9 = .ok (.if_icmp .ge 12, 3) := by decide +kernel
theorem d_CS_gatherProperty_12 : decode b_CS_gatherProperty 12 = .ok (.aload_n 0, 1) := by decide +kernel
theorem d_CS_gatherProperty_13 : decode b_CS_gatherProperty 13 = .ok (.iload_n 1, 1) := by decide +kernel
theorem d_CS_gatherProperty_14 : decode b_CS_gatherProperty 14 = .ok (.bipush 32, 2) := by decide +kernel
theorem d_CS_gatherProperty_16 : decode b_CS_gatherProperty 16 = .ok (.isub, 1) := by decide +kernel
theorem d_CS_gatherProperty_17 : decode b_CS_gatherProperty 17 = .ok (.invokevirtual 126, 3) := by decide +kernel
theorem d_CS_gatherProperty_20 : decode b_CS_gatherProperty 20 = .ok (.return_, 1) := by decide +kernel
theorem d_CS_gatherProperty_21 : decode b_CS_gatherProperty 21 = .ok (.aload_n 0, 1) := by decide +kernel
theorem d_CS_gatherProperty_22 : decode b_CS_gatherProperty 22 = .ok (.iload_n 1, 1) := by decide +kernel
theorem d_CS_gatherProperty_23 : decode b_CS_gatherProperty 23 = .ok (.invokestatic 129, 3) := by decide +kernel
theorem d_CS_gatherProperty_26 : decode b_CS_gatherProperty 26 = .ok (.aload_n 0, 1) := by decide +kernel
theorem d_CS_gatherProperty_27 : decode b_CS_gatherProperty 27 = .ok (.getfield 14, 3) := by decide +kernel
theorem d_CS_gatherProperty_30 : decode b_CS_gatherProperty 30 = .ok (.invokevirtual 132, 3) := by decide +kernel
theorem d_CS_gatherProperty_33 : decode b_CS_gatherProperty 33 = .ok (.iload_n 1, 1) := by decide +kernel
theorem d_CS_gatherProperty_34 : decode b_CS_gatherProperty 34 = .ok (.bipush 47, 2) := by decide +kernel
theorem d_CS_gatherProperty_36 : decode b_CS_gatherProperty 36 = .ok (.if_icmp .ne 11, 3) := by decide +kernel
theorem d_CS_gatherProperty_39 : decode b_CS_gatherProperty 39 = .ok (.aload_n 0, 1) := by decide +kernel
theorem d_CS_gatherProperty_40 : decode b_CS_gatherProperty 40 = .ok (.bipush 95, 2) := by decide +kernel
theorem d_CS_gatherProperty_42 : decode b_CS_gatherProperty 42 = .ok (.bipush 95, 2) := by decide +kernel
theorem d_CS_gatherProperty_44 : decode b_CS_gatherProperty 44 = .ok (.invokevirtual 135, 3) := by decide +kernel
theorem d_CS_gatherProperty_47 : decode b_CS_gatherProperty 47 = .ok (.iload_n 1, 1) := by decide +kernel
theorem d_CS_gatherProperty_48 : decode b_CS_gatherProperty 48 = .ok (.bipush 48, 2) := by decide +kernel
theorem d_CS_gatherProperty_50 : decode b_CS_gatherProperty 50 = .ok (.if_icmp .ne 21, 3) := by decide +kernel
theorem d_CS_gatherProperty_53 : decode b_CS_gatherProperty 53 = .ok (.aload_n 0, 1) := by decide +kernel
theorem d_CS_gatherProperty_54 : decode b_CS_gatherProperty 54 = .ok (.bipush 9, 2) := by decide +kernel
theorem d_CS_gatherProperty_56 : decode b_CS_gatherProperty 56 = .ok (.bipush 13, 2) := by decide +kernel
theorem d_CS_gatherProperty_58 : decode b_CS_gatherProperty 58 = .ok (.invokevirtual 135, 3) := by decide +kernel
theorem d_CS_gatherProperty_61 : decode b_CS_gatherProperty 61 = .ok (.aload_n 0, 1) := by decide +kernel
theorem d_CS_gatherProperty_62 : decode b_CS_gatherProperty 62 = .ok (.sipush 133, 3) := by decide +kernel
theorem d_CS_gatherProperty_65 : decode b_CS_gatherProperty 65 = .ok (.sipush 133, 3) := by decide +kernel
theorem d_CS_gatherProperty_68 : decode b_CS_gatherProperty 68 = .ok (.invokevirtual 135, 3) := by decide +kernel
theorem d_CS_gatherProperty_71 : decode b_CS_gatherProperty 71 = .ok (.return_, 1) := by decide +kernel
theorem d_CS_categoriesOf_0 : decode b_CS_categoriesOf 0 = .ok (.iload_n 0, 1) := by decide +kernel
theorem d_CS_categoriesOf_1 : decode b_CS_categoriesOf 1 = .ok (.ifCond .lt 13, 3) := by decide +kernel
theorem d_CS_categoriesOf_4 : decode b_CS_categoriesOf 4 = .ok (.iload_n 0, 1) := by decide +kernel
theorem d_CS_categoriesOf_5 : decode b_CS_categoriesOf 5 = .ok (.bipush 25, 2) := by decide +kernel
theorem d_CS_categoriesOf_7 : decode b_CS_categoriesOf 7 = .ok (.if_icmp .ge 7, 3) := by decide +kernel
theorem d_CS_categoriesOf_10 : decode b_CS_categoriesOf 10 = .ok (.iconst 1, 1) := by decide +kernel
theorem d_CS_categoriesOf_11 : decode b_CS_categoriesOf 11 = .ok (.iload_n 0, 1) := by decide +kernel
theorem d_CS_categoriesOf_12 : decode b_CS_categoriesOf 12 = .ok (.ishl, 1) := by decide +kernel
theorem d_CS_categoriesOf_13 : decode b_CS_categoriesOf 13 = .ok (.ireturn, 1) := by decide +kernel
theorem d_CS_categoriesOf_14 : decode b_CS_categoriesOf 14 = .ok (.iload_n 0, 1) := by decide +kernel
theorem d_CS_categoriesOf_15 : decode b_CS_categoriesOf 15 = .ok (.bipush 25, 2) := by decide +kernel
theorem d_CS_categoriesOf_17 : decode b_CS_categoriesOf 17 = .ok (.if_icmp .lt 18, 3) := by decide +kernel
theorem d_CS_categoriesOf_20 : decode b_CS_categoriesOf 20 = .ok (.iload_n 0, 1) := by decide +kernel
theorem d_CS_categoriesOf_21 : decode b_CS_categoriesOf 21 = .ok (.bipush 32, 2) := by decide +kernel
theorem d_CS_categoriesOf_23 : decode b_CS_categoriesOf 23 = .ok (.if_icmp .ge 12, 3) := by decide +kernel
theorem d_CS_categoriesOf_26 : decode b_CS_categoriesOf 26 = .ok (.getstatic 138, 3) := by decide +kernel
theorem d_CS_categoriesOf_29 : decode b_CS_categoriesOf 29 = .ok (.iload_n 0, 1) := by decide +kernel
theorem d_CS_categoriesOf_30 : decode b_CS_categoriesOf 30 = .ok (.bipush 25, 2) := by decide +kernel
theorem d_CS_categoriesOf_32 : decode b_CS_categoriesOf 32 = .ok (.isub, 1) := by decide +kernel
theorem d_CS_categoriesOf_33 : decode b_CS_categoriesOf 33 = .ok (.iaload, 1) := by decide +kernel
theorem d_CS_categoriesOf_34 : decode b_CS_categoriesOf 34 = .ok (.ireturn, 1) := by decide +kernel
theorem d_CS_categoriesOf_35 : decode b_CS_categoriesOf 35 = .ok (.iload_n 0, 1) := by decide +kernel
theorem d_CS_categoriesOf_36 : decode b_CS_categoriesOf 36 = .ok (.tableswitch 49 44 48 #[36, 39, 42, 42, 46], 36) := by decide +kernel
theorem d_CS_categoriesOf_72 : decode b_CS_categoriesOf 72 = .ok (.ldc 142, 2) := by decide +kernel
theorem d_CS_categoriesOf_74 : decode b_CS_categoriesOf 74 = .ok (.ireturn, 1) := by decide +kernel
theorem d_CS_categoriesOf_75 : decode b_CS_categoriesOf 75 = .ok (.bipush 80, 2) := by decide +kernel
theorem d_CS_categoriesOf_77 : decode b_CS_categoriesOf 77 = .ok (.ireturn, 1) := by decide +kernel
theorem d_CS_categoriesOf_78 : decode b_CS_categoriesOf 78 = .ok (.sipush 1904, 3) := by decide +kernel
theorem d_CS_categoriesOf_81 : decode b_CS_categoriesOf 81 = .ok (.ireturn, 1) := by decide +kernel
theorem d_CS_categoriesOf_82 : decode b_CS_categoriesOf 82 = .ok (.ldc 143, 2) := by decide +kernel
theorem d_CS_categoriesOf_84 : decode b_CS_categoriesOf 84 = .ok (.ireturn, 1) := by decide +kernel
theorem d_CS_categoriesOf_85 : decode b_CS_categoriesOf 85 = .ok (.iconst 0, 1) := by decide +kernel
theorem d_CS_categoriesOf_86 : decode b_CS_categoriesOf 86 = .ok (.ireturn, 1) := by decide +kernel
theorem d_CS_gatherNamed_0 : decode b_CS_gatherNamed 0 = .ok (.aload_n 0, 1) := by decide +kernel
theorem d_CS_gatherNamed_1 : decode b_CS_gatherNamed 1 = .ok (.getfield 9, 3) := by decide +kernel
theorem d_CS_gatherNamed_4 : decode b_CS_gatherNamed 4 = .ok (.ifCond .ne 12, 3) := by decide +kernel
theorem d_CS_gatherNamed_7 : decode b_CS_gatherNamed 7 = .ok (.aload_n 0, 1) := by decide +kernel
theorem d_CS_gatherNamed_8 : decode b_CS_gatherNamed 8 = .ok (.iload_n 1, 1) := by decide +kernel
theorem d_CS_gatherNamed_9 : decode b_CS_gatherNamed 9 = .ok (.invokestatic 144, 3) := by decide +kernel
theorem d_CS_gatherNamed_12 : decode b_CS_gatherNamed 12 = .ok (.invokevirtual 148, 3) := by decide +kernel
theorem d_CS_gatherNamed_15 : decode b_CS_gatherNamed 15 = .ok (.return_, 1) := by decide +kernel
theorem d_CS_gatherNamed_16 : decode b_CS_gatherNamed 16 = .ok (.iload_n 1, 1) := by decide +kernel
theorem d_CS_gatherNamed_17 : decode b_CS_gatherNamed 17 = .ok (.invokestatic 152, 3) := by decide +kernel
theorem d_CS_gatherNamed_20 : decode b_CS_gatherNamed 20 = .ok (.istore_n 2, 1) := by decide +kernel
theorem d_CS_gatherNamed_21 : decode b_CS_gatherNamed 21 = .ok (.iload_n 2, 1) := by decide +kernel
theorem d_CS_gatherNamed_22 : decode b_CS_gatherNamed 22 = .ok (.iconst (-1), 1) := by decide +kernel
theorem d_CS_gatherNamed_23 : decode b_CS_gatherNamed 23 = .ok (.if_icmp .eq 9, 3) := by decide +kernel
theorem d_CS_gatherNamed_26 : decode b_CS_gatherNamed 26 = .ok (.aload_n 0, 1) := by decide +kernel
theorem d_CS_gatherNamed_27 : decode b_CS_gatherNamed 27 = .ok (.iload_n 2, 1) := by decide +kernel
theorem d_CS_gatherNamed_28 : decode b_CS_gatherNamed 28 = .ok (.invokevirtual 63, 3) := by decide +kernel
theorem d_CS_gatherNamed_31 : decode b_CS_gatherNamed 31 = .ok (.return_, 1) := by decide +kernel
theorem d_CS_gatherNamed_32 : decode b_CS_gatherNamed 32 = .ok (.iload_n 1, 1) := by decide +kernel
theorem d_CS_gatherNamed_33 : decode b_CS_gatherNamed 33 = .ok (.tableswitch 92 12 16 #[35, 92, 45, 58, 71], 35) := by decide +kernel
theorem d_CS_gatherNamed_68 : decode b_CS_gatherNamed 68 = .ok (.aload_n 0, 1) := by decide +kernel
theorem d_CS_gatherNamed_69 : decode b_CS_gatherNamed 69 = .ok (.getstatic 155, 3) := by decide +kernel
theorem d_CS_gatherNamed_72 : decode b_CS_gatherNamed 72 = .ok (.invokevirtual 148, 3) := by decide +kernel
theorem d_CS_gatherNamed_75 : decode b_CS_gatherNamed 75 = .ok (.goto 58, 3) := by decide +kernel
theorem d_CS_gatherNamed_78 : decode b_CS_gatherNamed 78 = .ok (.aload_n 0, 1) := by decide +kernel
theorem d_CS_gatherNamed_79 : decode b_CS_gatherNamed 79 = .ok (.ldc 158, 2) := by decide +kernel
theorem d_CS_gatherNamed_81 : decode b_CS_gatherNamed 81 = .ok (.aload_n 0, 1) := by decide +kernel
theorem d_CS_gatherNamed_82 : decode b_CS_gatherNamed 82 = .ok (.getfield 14, 3) := by decide +kernel
theorem d_CS_gatherNamed_85 : decode b_CS_gatherNamed 85 = .ok (.invokevirtual 132, 3) := by decide +kernel
theorem d_CS_gatherNamed_88 : decode b_CS_gatherNamed 88 = .ok (.goto 45, 3) := by decide +kernel
theorem d_CS_gatherNamed_91 : decode b_CS_gatherNamed 91 = .ok (.aload_n 0, 1) := by decide +kernel
theorem d_CS_gatherNamed_92 : decode b_CS_gatherNamed 92 = .ok (.ldc 159, 2) := by decide +kernel
theorem d_CS_gatherNamed_94 : decode b_CS_gatherNamed 94 = .ok (.aload_n 0, 1) := by decide +kernel
theorem d_CS_gatherNamed_95 : decode b_CS_gatherNamed 95 = .ok (.getfield 14, 3) := by decide +kernel
theorem d_CS_gatherNamed_98 : decode b_CS_gatherNamed 98 = .ok (.invokevirtual 132, 3) := by decide +kernel
theorem d_CS_gatherNamed_101 : decode b_CS_gatherNamed 101 = .ok (.goto 32, 3) := by decide +kernel
theorem d_CS_gatherNamed_104 : decode b_CS_gatherNamed 104 = .ok (.aload_n 0, 1) := by decide +kernel
theorem d_CS_gatherNamed_105 : decode b_CS_gatherNamed 105 = .ok (.ldc 160, 2) := by decide +kernel
theorem d_CS_gatherNamed_107 : decode b_CS_gatherNamed 107 = .ok (.aload_n 0, 1) := by decide +kernel
theorem d_CS_gatherNamed_108 : decode b_CS_gatherNamed 108 = .ok (.getfield 14, 3) := by decide +kernel
theorem d_CS_gatherNamed_111 : decode b_CS_gatherNamed 111 = .ok (.invokevirtual 132, 3) := by decide +kernel
theorem d_CS_gatherNamed_114 : decode b_CS_gatherNamed 114 = .ok (.aload_n 0, 1) := by decide +kernel
theorem d_CS_gatherNamed_115 : decode b_CS_gatherNamed 115 = .ok (.ldc 161, 2) := by decide +kernel
theorem d_CS_gatherNamed_117 : decode b_CS_gatherNamed 117 = .ok (.bipush 127, 2) := by decide +kernel
theorem d_CS_gatherNamed_119 : decode b_CS_gatherNamed 119 = .ok (.invokevirtual 132, 3) := by decide +kernel
theorem d_CS_gatherNamed_122 : decode b_CS_gatherNamed 122 = .ok (.goto 11, 3) := by decide +kernel
theorem d_CS_gatherNamed_125 : decode b_CS_gatherNamed 125 = .ok (.aload_n 0, 1) := by decide +kernel
theorem d_CS_gatherNamed_126 : decode b_CS_gatherNamed 126 = .ok (.iload_n 1, 1) := by decide +kernel
theorem d_CS_gatherNamed_127 : decode b_CS_gatherNamed 127 = .ok (.invokestatic 144, 3) := by decide +kernel
theorem d_CS_gatherNamed_130 : decode b_CS_gatherNamed 130 = .ok (.invokevirtual 148, 3) := by decide +kernel
theorem d_CS_gatherNamed_133 : decode b_CS_gatherNamed 133 = .ok (.return_, 1) := by decide +kernel
theorem d_CS_propertyOf_0 : decode b_CS_propertyOf 0 = .ok (.iload_n 0, 1) := by decide +kernel
theorem d_CS_propertyOf_1 : decode b_CS_propertyOf 1 = .ok (.tableswitch 93 0 13 #[71, 74, 77, 93, 93, 80, 83, 85, 71, 88, 74, 77, 93, 91], 71) := by decide +kernel
theorem d_CS_propertyOf_72 : decode b_CS_propertyOf 72 = .ok (.bipush 8, 2) := by decide +kernel
theorem d_CS_propertyOf_74 : decode b_CS_propertyOf 74 = .ok (.ireturn, 1) := by decide +kernel
theorem d_CS_propertyOf_75 : decode b_CS_propertyOf 75 = .ok (.bipush 47, 2) := by decide +kernel
theorem d_CS_propertyOf_77 : decode b_CS_propertyOf 77 = .ok (.ireturn, 1) := by decide +kernel
theorem d_CS_propertyOf_78 : decode b_CS_propertyOf 78 = .ok (.bipush 48, 2) := by decide +kernel
theorem d_CS_propertyOf_80 : decode b_CS_propertyOf 80 = .ok (.ireturn, 1) := by decide +kernel
theorem d_CS_propertyOf_81 : decode b_CS_propertyOf 81 = .ok (.bipush 26, 2) := by decide +kernel
theorem d_CS_propertyOf_83 : decode b_CS_propertyOf 83 = .ok (.ireturn, 1) := by decide +kernel
theorem d_CS_propertyOf_84 : decode b_CS_propertyOf 84 = .ok (.iconst 4, 1) := by decide +kernel
theorem d_CS_propertyOf_85 : decode b_CS_propertyOf 85 = .ok (.ireturn, 1) := by decide +kernel
theorem d_CS_propertyOf_86 : decode b_CS_propertyOf 86 = .ok (.bipush 6, 2) := by decide +kernel
theorem d_CS_propertyOf_88 : decode b_CS_propertyOf 88 = .ok (.ireturn, 1) := by decide +kernel
theorem d_CS_propertyOf_89 : decode b_CS_propertyOf 89 = .ok (.bipush 46, 2) := by decide +kernel
theorem d_CS_propertyOf_91 : decode b_CS_propertyOf 91 = .ok (.ireturn, 1) := by decide +kernel
theorem d_CS_propertyOf_92 : decode b_CS_propertyOf 92 = .ok (.iconst 1, 1) := by decide +kernel
theorem d_CS_propertyOf_93 : decode b_CS_propertyOf 93 = .ok (.ireturn, 1) := by decide +kernel
theorem d_CS_propertyOf_94 : decode b_CS_propertyOf 94 = .ok (.iconst (-1), 1) := by decide +kernel
theorem d_CS_propertyOf_95 : decode b_CS_propertyOf 95 = .ok (.ireturn, 1) := by decide +kernel
theorem d_CS_listOf_0 : decode b_CS_listOf 0 = .ok (.iload_n 0, 1) := by decide +kernel
theorem d_CS_listOf_1 : decode b_CS_listOf 1 = .ok (.tableswitch 155 0 18 #[91, 95, 99, 103, 107, 111, 115, 119, 91, 123, 95, 99, 127, 131, 135, 139, 143, 147, 151], 91) := by decide +kernel
theorem d_CS_listOf_92 : decode b_CS_listOf 92 = .ok (.getstatic 162, 3) := by decide +kernel
theorem d_CS_listOf_95 : decode b_CS_listOf 95 = .ok (.areturn, 1) := by decide +kernel
theorem d_CS_listOf_96 : decode b_CS_listOf 96 = .ok (.getstatic 165, 3) := by decide +kernel
theorem d_CS_listOf_99 : decode b_CS_listOf 99 = .ok (.areturn, 1) := by decide +kernel
theorem d_CS_listOf_100 : decode b_CS_listOf 100 = .ok (.getstatic 168, 3) := by decide +kernel
theorem d_CS_listOf_103 : decode b_CS_listOf 103 = .ok (.areturn, 1) := by decide +kernel
theorem d_CS_listOf_104 : decode b_CS_listOf 104 = .ok (.getstatic 155, 3) := by decide +kernel
theorem d_CS_listOf_107 : decode b_CS_listOf 107 = .ok (.areturn, 1) := by decide +kernel
theorem d_CS_listOf_108 : decode b_CS_listOf 108 = .ok (.getstatic 171, 3) := by decide +kernel
theorem d_CS_listOf_111 : decode b_CS_listOf 111 = .ok (.areturn, 1) := by decide +kernel
theorem d_CS_listOf_112 : decode b_CS_listOf 112 = .ok (.getstatic 174, 3) := by decide +kernel
theorem d_CS_listOf_115 : decode b_CS_listOf 115 = .ok (.areturn, 1) := by decide +kernel
theorem d_CS_listOf_116 : decode b_CS_listOf 116 = .ok (.getstatic 177, 3) := by decide +kernel
theorem d_CS_listOf_119 : decode b_CS_listOf 119 = .ok (.areturn, 1) := by decide +kernel
theorem d_CS_listOf_120 : decode b_CS_listOf 120 = .ok (.getstatic 180, 3) := by decide +kernel
theorem d_CS_listOf_123 : decode b_CS_listOf 123 = .ok (.areturn, 1) := by decide +kernel
theorem d_CS_listOf_124 : decode b_CS_listOf 124 = .ok (.getstatic 183, 3) := by decide +kernel
theorem d_CS_listOf_127 : decode b_CS_listOf 127 = .ok (.areturn, 1) := by decide +kernel
theorem d_CS_listOf_128 : decode b_CS_listOf 128 = .ok (.getstatic 186, 3) := by decide +kernel
theorem d_CS_listOf_131 : decode b_CS_listOf 131 = .ok (.areturn, 1) := by decide +kernel
theorem d_CS_listOf_132 : decode b_CS_listOf 132 = .ok (.getstatic 189, 3) := by decide +kernel
theorem d_CS_listOf_135 : decode b_CS_listOf 135 = .ok (.areturn, 1) := by decide +kernel
theorem d_CS_listOf_136 : decode b_CS_listOf 136 = .ok (.getstatic 192, 3) := by decide +kernel
theorem d_CS_listOf_139 : decode b_CS_listOf 139 = .ok (.areturn, 1) := by decide +kernel
theorem d_CS_listOf_140 : decode b_CS_listOf 140 = .ok (.getstatic 195, 3) := by decide +kernel
theorem d_CS_listOf_143 : decode b_CS_listOf 143 = .ok (.areturn, 1) := by decide +kernel
theorem d_CS_listOf_144 : decode b_CS_listOf 144 = .ok (.getstatic 198, 3) := by decide +kernel
theorem d_CS_listOf_147 : decode b_CS_listOf 147 = .ok (.areturn, 1) := by decide +kernel
theorem d_CS_listOf_148 : decode b_CS_listOf 148 = .ok (.getstatic 201, 3) := by decide +kernel
theorem d_CS_listOf_151 : decode b_CS_listOf 151 = .ok (.areturn, 1) := by decide +kernel
theorem d_CS_listOf_152 : decode b_CS_listOf 152 = .ok (.getstatic 204, 3) := by decide +kernel
theorem d_CS_listOf_155 : decode b_CS_listOf 155 = .ok (.areturn, 1) := by decide +kernel
theorem d_CS_listOf_156 : decode b_CS_listOf 156 = .ok (.getstatic 207, 3) := by decide +kernel
theorem d_CS_listOf_159 : decode b_CS_listOf 159 = .ok (.areturn, 1) := by decide +kernel
theorem d_CS_gatherList_0 : decode b_CS_gatherList 0 = .ok (.iconst 0, 1) := by decide +kernel
theorem d_CS_gatherList_1 : decode b_CS_gatherList 1 = .ok (.istore_n 2, 1) := by decide +kernel
theorem d_CS_gatherList_2 : decode b_CS_gatherList 2 = .ok (.iload_n 2, 1) := by decide +kernel
theorem d_CS_gatherList_3 : decode b_CS_gatherList 3 = .ok (.iconst 1, 1) := by decide +kernel
theorem d_CS_gatherList_4 : decode b_CS_gatherList 4 = .ok (.iadd, 1) := by decide +kernel
theorem d_CS_gatherList_5 : decode b_CS_gatherList 5 = .ok (.aload_n 1, 1) := by decide +kernel
theorem d_CS_gatherList_6 : decode b_CS_gatherList 6 = .ok (.arraylength, 1) := by decide +kernel
theorem d_CS_gatherList_7 : decode b_CS_gatherList 7 = .ok (.if_icmp .ge 21, 3) := by decide +kernel
theorem d_CS_gatherList_10 : decode b_CS_gatherList 10 = .ok (.aload_n 0, 1) := by decide +kernel
theorem d_CS_gatherList_11 : decode b_CS_gatherList 11 = .ok (.aload_n 1, 1) := by decide +kernel
theorem d_CS_gatherList_12 : decode b_CS_gatherList 12 = .ok (.iload_n 2, 1) := by decide +kernel
theorem d_CS_gatherList_13 : decode b_CS_gatherList 13 = .ok (.iaload, 1) := by decide +kernel
theorem d_CS_gatherList_14 : decode b_CS_gatherList 14 = .ok (.aload_n 1, 1) := by decide +kernel
theorem d_CS_gatherList_15 : decode b_CS_gatherList 15 = .ok (.iload_n 2, 1) := by decide +kernel
theorem d_CS_gatherList_16 : decode b_CS_gatherList 16 = .ok (.iconst 1, 1) := by decide +kernel
theorem d_CS_gatherList_17 : decode b_CS_gatherList 17 = .ok (.iadd, 1) := by decide +kernel
theorem d_CS_gatherList_18 : decode b_CS_gatherList 18 = .ok (.iaload, 1) := by decide +kernel
theorem d_CS_gatherList_19 : decode b_CS_gatherList 19 = .ok (.invokevirtual 135, 3) := by decide +kernel
theorem d_CS_gatherList_22 : decode b_CS_gatherList 22 = .ok (.iinc 2 2, 3) := by decide +kernel
theorem d_CS_gatherList_25 : decode b_CS_gatherList 25 = .ok (.goto (-23), 3) := by decide +kernel
theorem d_CS_gatherList_28 : decode b_CS_gatherList 28 = .ok (.return_, 1) := by decide +kernel
theorem d_CS_gatherCategories_0 : decode b_CS_gatherCategories 0 = .ok (.iconst 0, 1) := by decide +kernel
theorem d_CS_gatherCategories_1 : decode b_CS_gatherCategories 1 = .ok (.istore_n 3, 1) := by decide +kernel
theorem d_CS_gatherCategories_2 : decode b_CS_gatherCategories 2 = .ok (.iload_n 3, 1) := by decide +kernel
theorem d_CS_gatherCategories_3 : decode b_CS_gatherCategories 3 = .ok (.aload_n 0, 1) := by decide +kernel
theorem d_CS_gatherCategories_4 : decode b_CS_gatherCategories 4 = .ok (.getfield 21, 3) := by decide +kernel
theorem d_CS_gatherCategories_7 : decode b_CS_gatherCategories 7 = .ok (.invokevirtual 210, 3) := by decide +kernel
theorem d_CS_gatherCategories_10 : decode b_CS_gatherCategories 10 = .ok (.if_icmp .ge 48, 3) := by decide +kernel
theorem d_CS_gatherCategories_13 : decode b_CS_gatherCategories 13 = .ok (.iload_n 1, 1) := by decide +kernel
theorem d_CS_gatherCategories_14 : decode b_CS_gatherCategories 14 = .ok (.aload_n 0, 1) := by decide +kernel
theorem d_CS_gatherCategories_15 : decode b_CS_gatherCategories 15 = .ok (.getfield 21, 3) := by decide +kernel
theorem d_CS_gatherCategories_18 : decode b_CS_gatherCategories 18 = .ok (.iload_n 3, 1) := by decide +kernel
theorem d_CS_gatherCategories_19 : decode b_CS_gatherCategories 19 = .ok (.invokevirtual 213, 3) := by decide +kernel
theorem d_CS_gatherCategories_22 : decode b_CS_gatherCategories 22 = .ok (.ishr, 1) := by decide +kernel
theorem d_CS_gatherCategories_23 : decode b_CS_gatherCategories 23 = .ok (.iconst 1, 1) := by decide +kernel
theorem d_CS_gatherCategories_24 : decode b_CS_gatherCategories 24 = .ok (.iand, 1) := by decide +kernel
theorem d_CS_gatherCategories_25 : decode b_CS_gatherCategories 25 = .ok (.ifCond .eq 27, 3) := by decide +kernel
theorem d_CS_gatherCategories_28 : decode b_CS_gatherCategories 28 = .ok (.aload_n 0, 1) := by decide +kernel
theorem d_CS_gatherCategories_29 : decode b_CS_gatherCategories 29 = .ok (.aload_n 0, 1) := by decide +kernel
theorem d_CS_gatherCategories_30 : decode b_CS_gatherCategories 30 = .ok (.getfield 21, 3) := by decide +kernel
theorem d_CS_gatherCategories_33 : decode b_CS_gatherCategories 33 = .ok (.iload_n 3, 1) := by decide +kernel
theorem d_CS_gatherCategories_34 : decode b_CS_gatherCategories 34 = .ok (.invokevirtual 216, 3) := by decide +kernel
theorem d_CS_gatherCategories_37 : decode b_CS_gatherCategories 37 = .ok (.aload_n 0, 1) := by decide +kernel
theorem d_CS_gatherCategories_38 : decode b_CS_gatherCategories 38 = .ok (.getfield 21, 3) := by decide +kernel
theorem d_CS_gatherCategories_41 : decode b_CS_gatherCategories 41 = .ok (.iload_n 3, 1) := by decide +kernel
theorem d_CS_gatherCategories_42 : decode b_CS_gatherCategories 42 = .ok (.invokevirtual 219, 3) := by decide +kernel
theorem d_CS_gatherCategories_45 : decode b_CS_gatherCategories 45 = .ok (.iload_n 2, 1) := by decide +kernel
theorem d_CS_gatherCategories_46 : decode b_CS_gatherCategories 46 = .ok (.invokestatic 222, 3) := by decide +kernel
theorem d_CS_gatherCategories_49 : decode b_CS_gatherCategories 49 = .ok (.invokevirtual 135, 3) := by decide +kernel
theorem d_CS_gatherCategories_52 : decode b_CS_gatherCategories 52 = .ok (.iinc 3 1, 3) := by decide +kernel
theorem d_CS_gatherCategories_55 : decode b_CS_gatherCategories 55 = .ok (.goto (-53), 3) := by decide +kernel
theorem d_CS_gatherCategories_58 : decode b_CS_gatherCategories 58 = .ok (.return_, 1) := by decide +kernel
theorem d_CS_gatherScript_0 : decode b_CS_gatherScript 0 = .ok (.iconst 0, 1) := by decide +kernel
theorem d_CS_gatherScript_1 : decode b_CS_gatherScript 1 = .ok (.istore_n 2, 1) := by decide +kernel
theorem d_CS_gatherScript_2 : decode b_CS_gatherScript 2 = .ok (.iload_n 2, 1) := by decide +kernel
theorem d_CS_gatherScript_3 : decode b_CS_gatherScript 3 = .ok (.aload_n 0, 1) := by decide +kernel
theorem d_CS_gatherScript_4 : decode b_CS_gatherScript 4 = .ok (.getfield 21, 3) := by decide +kernel
theorem d_CS_gatherScript_7 : decode b_CS_gatherScript 7 = .ok (.invokevirtual 210, 3) := by decide +kernel
theorem d_CS_gatherScript_10 : decode b_CS_gatherScript 10 = .ok (.if_icmp .ge 41, 3) := by decide +kernel
theorem d_CS_gatherScript_13 : decode b_CS_gatherScript 13 = .ok (.aload_n 0, 1) := by decide +kernel
theorem d_CS_gatherScript_14 : decode b_CS_gatherScript 14 = .ok (.getfield 21, 3) := by decide +kernel
theorem d_CS_gatherScript_17 : decode b_CS_gatherScript 17 = .ok (.iload_n 2, 1) := by decide +kernel
theorem d_CS_gatherScript_18 : decode b_CS_gatherScript 18 = .ok (.invokevirtual 228, 3) := by decide +kernel
theorem d_CS_gatherScript_21 : decode b_CS_gatherScript 21 = .ok (.iload_n 1, 1) := by decide +kernel
theorem d_CS_gatherScript_22 : decode b_CS_gatherScript 22 = .ok (.if_icmp .ne 23, 3) := by decide +kernel
theorem d_CS_gatherScript_25 : decode b_CS_gatherScript 25 = .ok (.aload_n 0, 1) := by decide +kernel
theorem d_CS_gatherScript_26 : decode b_CS_gatherScript 26 = .ok (.aload_n 0, 1) := by decide +kernel
theorem d_CS_gatherScript_27 : decode b_CS_gatherScript 27 = .ok (.getfield 21, 3) := by decide +kernel
theorem d_CS_gatherScript_30 : decode b_CS_gatherScript 30 = .ok (.iload_n 2, 1) := by decide +kernel
theorem d_CS_gatherScript_31 : decode b_CS_gatherScript 31 = .ok (.invokevirtual 216, 3) := by decide +kernel
theorem d_CS_gatherScript_34 : decode b_CS_gatherScript 34 = .ok (.aload_n 0, 1) := by decide +kernel
theorem d_CS_gatherScript_35 : decode b_CS_gatherScript 35 = .ok (.getfield 21, 3) := by decide +kernel
theorem d_CS_gatherScript_38 : decode b_CS_gatherScript 38 = .ok (.iload_n 2, 1) := by decide +kernel
theorem d_CS_gatherScript_39 : decode b_CS_gatherScript 39 = .ok (.invokevirtual 219, 3) := by decide +kernel
theorem d_CS_gatherScript_42 : decode b_CS_gatherScript 42 = .ok (.invokevirtual 135, 3) := by decide +kernel
theorem d_CS_gatherScript_45 : decode b_CS_gatherScript 45 = .ok (.iinc 2 1, 3) := by decide +kernel
theorem d_CS_gatherScript_48 : decode b_CS_gatherScript 48 = .ok (.goto (-46), 3) := by decide +kernel
theorem d_CS_gatherScript_51 : decode b_CS_gatherScript 51 = .ok (.return_, 1) := by decide +kernel
theorem d_CS_gather_0 : decode b_CS_gather 0 = .ok (.iload_n 2, 1) := by decide +kernel
theorem d_CS_gather_1 : decode b_CS_gather 1 = .ok (.aload_n 0, 1) := by decide +kernel
theorem d_CS_gather_2 : decode b_CS_gather 2 = .ok (.getfield 14, 3) := by decide +kernel
theorem d_CS_gather_5 : decode b_CS_gather 5 = .ok (.invokestatic 222, 3) := by decide +kernel
theorem d_CS_gather_8 : decode b_CS_gather 8 = .ok (.istore_n 3, 1) := by decide +kernel
theorem d_CS_gather_9 : decode b_CS_gather 9 = .ok (.iload_n 1, 1) := by decide +kernel
theorem d_CS_gather_10 : decode b_CS_gather 10 = .ok (.iload_n 3, 1) := by decide +kernel
theorem d_CS_gather_11 : decode b_CS_gather 11 = .ok (.if_icmp .gt 12, 3) := by decide +kernel
theorem d_CS_gather_14 : decode b_CS_gather 14 = .ok (.aload_n 0, 1) := by decide +kernel
theorem d_CS_gather_15 : decode b_CS_gather 15 = .ok (.getfield 37, 3) := by decide +kernel
theorem d_CS_gather_18 : decode b_CS_gather 18 = .ok (.iload_n 1, 1) := by decide +kernel
theorem d_CS_gather_19 : decode b_CS_gather 19 = .ok (.iload_n 3, 1) := by decide +kernel
theorem d_CS_gather_20 : decode b_CS_gather 20 = .ok (.invokevirtual 55, 3) := by decide +kernel
theorem d_CS_gather_23 : decode b_CS_gather 23 = .ok (.return_, 1) := by decide +kernel
theorem d_MO_init_0 : decode b_MO_init 0 = .ok (.aload_n 0, 1) := by decide +kernel
theorem d_MO_init_1 : decode b_MO_init 1 = .ok (.invokespecial 1, 3) := by decide +kernel
theorem d_MO_init_4 : decode b_MO_init 4 = .ok (.aload_n 0, 1) := by decide +kernel
theorem d_MO_init_5 : decode b_MO_init 5 = .ok (.ldc 7, 2) := by decide +kernel
theorem d_MO_init_7 : decode b_MO_init 7 = .ok (.newarray .long, 2) := by decide +kernel
theorem d_MO_init_9 : decode b_MO_init 9 = .ok (.putfield 8, 3) := by decide +kernel
theorem d_MO_init_12 : decode b_MO_init 12 = .ok (.aload_n 0, 1) := by decide +kernel
theorem d_MO_init_13 : decode b_MO_init 13 = .ok (.sipush 12544, 3) := by decide +kernel
theorem d_MO_init_16 : decode b_MO_init 16 = .ok (.newarray .byte, 2) := by decide +kernel
theorem d_MO_init_18 : decode b_MO_init 18 = .ok (.putfield 14, 3) := by decide +kernel
theorem d_MO_init_21 : decode b_MO_init 21 = .ok (.aload_n 0, 1) := by decide +kernel
theorem d_MO_init_22 : decode b_MO_init 22 = .ok (.iconst 4, 1) := by decide +kernel
theorem d_MO_init_23 : decode b_MO_init 23 = .ok (.newarray .int, 2) := by decide +kernel
theorem d_MO_init_25 : decode b_MO_init 25 = .ok (.putfield 18, 3) := by decide +kernel
theorem d_MO_init_28 : decode b_MO_init 28 = .ok (.aload_n 0, 1) := by decide +kernel
theorem d_MO_init_29 : decode b_MO_init 29 = .ok (.iconst 0, 1) := by decide +kernel
theorem d_MO_init_30 : decode b_MO_init 30 = .ok (.putfield 22, 3) := by decide +kernel
theorem d_MO_init_33 : decode b_MO_init 33 = .ok (.aload_n 0, 1) := by decide +kernel
theorem d_MO_init_34 : decode b_MO_init 34 = .ok (.bipush 14, 2) := by decide +kernel
theorem d_MO_init_36 : decode b_MO_init 36 = .ok (.newarray .int, 2) := by decide +kernel
theorem d_MO_init_38 : decode b_MO_init 38 = .ok (.dup, 1) := by decide +kernel
theorem d_MO_init_39 : decode b_MO_init 39 = .ok (.iconst 0, 1) := by decide +kernel
theorem d_MO_init_40 : decode b_MO_init 40 = .ok (.sipush 12544, 3) := by decide +kernel
theorem d_MO_init_43 : decode b_MO_init 43 = .ok (.iastore, 1) := by decide +kernel
theorem d_MO_init_44 : decode b_MO_init 44 = .ok (.dup, 1) := by decide +kernel
theorem d_MO_init_45 : decode b_MO_init 45 = .ok (.iconst 1, 1) := by decide +kernel
theorem d_MO_init_46 : decode b_MO_init 46 = .ok (.sipush 19968, 3) := by decide +kernel
theorem d_MO_init_49 : decode b_MO_init 49 = .ok (.iastore, 1) := by decide +kernel
theorem d_MO_init_50 : decode b_MO_init 50 = .ok (.dup, 1) := by decide +kernel
theorem d_MO_init_51 : decode b_MO_init 51 = .ok (.iconst 2, 1) := by decide +kernel
theorem d_MO_init_52 : decode b_MO_init 52 = .ok (.ldc 26, 2) := by decide +kernel
theorem d_MO_init_54 : decode b_MO_init 54 = .ok (.iastore, 1) := by decide +kernel
theorem d_MO_init_55 : decode b_MO_init 55 = .ok (.dup, 1) := by decide +kernel
theorem d_MO_init_56 : decode b_MO_init 56 = .ok (.iconst 3, 1) := by decide +kernel
theorem d_MO_init_57 : decode b_MO_init 57 = .ok (.ldc 27, 2) := by decide +kernel
theorem d_MO_init_59 : decode b_MO_init 59 = .ok (.iastore, 1) := by decide +kernel
theorem d_MO_init_60 : decode b_MO_init 60 = .ok (.dup, 1) := by decide +kernel
theorem d_MO_init_61 : decode b_MO_init 61 = .ok (.iconst 4, 1) := by decide +kernel
theorem d_MO_init_62 : decode b_MO_init 62 = .ok (.ldc 28, 2) := by decide +kernel
theorem d_MO_init_64 : decode b_MO_init 64 = .ok (.iastore, 1) := by decide +kernel
theorem d_MO_init_65 : decode b_MO_init 65 = .ok (.dup, 1) := by decide +kernel
theorem d_MO_init_66 : decode b_MO_init 66 = .ok (.iconst 5, 1) := by decide +kernel
theorem d_MO_init_67 : decode b_MO_init 67 = .ok (.ldc 29, 2) := by decide +kernel
theorem d_MO_init_69 : decode b_MO_init 69 = .ok (.iastore, 1) := by decide +kernel
theorem d_MO_init_70 : decode b_MO_init 70 = .ok (.dup, 1) := by decide +kernel
theorem d_MO_init_71 : decode b_MO_init 71 = .ok (.bipush 6, 2) := by decide +kernel
theorem d_MO_init_73 : decode b_MO_init 73 = .ok (.ldc 30, 2) := by decide +kernel
theorem d_MO_init_75 : decode b_MO_init 75 = .ok (.iastore, 1) := by decide +kernel
theorem d_MO_init_76 : decode b_MO_init 76 = .ok (.dup, 1) := by decide +kernel
theorem d_MO_init_77 : decode b_MO_init 77 = .ok (.bipush 7, 2) := by decide +kernel
theorem d_MO_init_79 : decode b_MO_init 79 = .ok (.ldc 31, 2) := by decide +kernel
theorem d_MO_init_81 : decode b_MO_init 81 = .ok (.iastore, 1) := by decide +kernel
theorem d_MO_init_82 : decode b_MO_init 82 = .ok (.dup, 1) := by decide +kernel
theorem d_MO_init_83 : decode b_MO_init 83 = .ok (.bipush 8, 2) := by decide +kernel
theorem d_MO_init_85 : decode b_MO_init 85 = .ok (.ldc 32, 2) := by decide +kernel
theorem d_MO_init_87 : decode b_MO_init 87 = .ok (.iastore, 1) := by decide +kernel
theorem d_MO_init_88 : decode b_MO_init 88 = .ok (.dup, 1) := by decide +kernel
theorem d_MO_init_89 : decode b_MO_init 89 = .ok (.bipush 9, 2) := by decide +kernel
theorem d_MO_init_91 : decode b_MO_init 91 = .ok (.ldc 33, 2) := by decide +kernel
theorem d_MO_init_93 : decode b_MO_init 93 = .ok (.iastore, 1) := by decide +kernel
theorem d_MO_init_94 : decode b_MO_init 94 = .ok (.dup, 1) := by decide +kernel
theorem d_MO_init_95 : decode b_MO_init 95 = .ok (.bipush 10, 2) := by decide +kernel
theorem d_MO_init_97 : decode b_MO_init 97 = .ok (.ldc 34, 2) := by decide +kernel
theorem d_MO_init_99 : decode b_MO_init 99 = .ok (.iastore, 1) := by decide +kernel
theorem d_MO_init_100 : decode b_MO_init 100 = .ok (.dup, 1) := by decide +kernel
theorem d_MO_init_101 : decode b_MO_init 101 = .ok (.bipush 11, 2) := by decide +kernel
theorem d_MO_init_103 : decode b_MO_init 103 = .ok (.ldc 35, 2) := by decide +kernel
theorem d_MO_init_105 : decode b_MO_init 105 = .ok (.iastore, 1) := by decide +kernel
theorem d_MO_init_106 : decode b_MO_init 106 = .ok (.dup, 1) := by decide +kernel
theorem d_MO_init_107 : decode b_MO_init 107 = .ok (.bipush 12, 2) := by decide +kernel
theorem d_MO_init_109 : decode b_MO_init 109 = .ok (.ldc 36, 2) := by decide +kernel
theorem d_MO_init_111 : decode b_MO_init 111 = .ok (.iastore, 1) := by decide +kernel
theorem d_MO_init_112 : decode b_MO_init 112 = .ok (.dup, 1) := by decide +kernel
theorem d_MO_init_113 : decode b_MO_init 113 = .ok (.bipush 13, 2) := by decide +kernel
theorem d_MO_init_115 : decode b_MO_init 115 = .ok (.ldc 37, 2) := by decide +kernel
theorem d_MO_init_117 : decode b_MO_init 117 = .ok (.iastore, 1) := by decide +kernel
theorem d_MO_init_118 : decode b_MO_init 118 = .ok (.putfield 38, 3) := by decide +kernel
theorem d_MO_init_121 : decode b_MO_init 121 = .ok (.aload_n 0, 1) := by decide +kernel
theorem d_MO_init_122 : decode b_MO_init 122 = .ok (.iload_n 1, 1) := by decide +kernel
theorem d_MO_init_123 : decode b_MO_init 123 = .ok (.iconst 1, 1) := by decide +kernel
theorem d_MO_init_124 : decode b_MO_init 124 = .ok (.iand, 1) := by decide +kernel
theorem d_MO_init_125 : decode b_MO_init 125 = .ok (.ifCond .eq 7, 3) := by decide +kernel
theorem d_MO_init_128 : decode b_MO_init 128 = .ok (.iconst 1, 1) := by decide +kernel
theorem d_MO_init_129 : decode b_MO_init 129 = .ok (.goto 4, 3) := by decide +kernel
theorem d_MO_init_132 : decode b_MO_init 132 = .ok (.iconst 0, 1) := by decide +kernel
theorem d_MO_init_133 : decode b_MO_init 133 = .ok (.putfield 41, 3) := by decide +kernel
theorem d_MO_init_136 : decode b_MO_init 136 = .ok (.aload_n 0, 1) := by decide +kernel
theorem d_MO_init_137 : decode b_MO_init 137 = .ok (.iload_n 1, 1) := by decide +kernel
theorem d_MO_init_138 : decode b_MO_init 138 = .ok (.iconst 2, 1) := by decide +kernel
theorem d_MO_init_139 : decode b_MO_init 139 = .ok (.iand, 1) := by decide +kernel
theorem d_MO_init_140 : decode b_MO_init 140 = .ok (.ifCond .eq 7, 3) := by decide +kernel
theorem d_MO_init_143 : decode b_MO_init 143 = .ok (.iconst 1, 1) := by decide +kernel
theorem d_MO_init_144 : decode b_MO_init 144 = .ok (.goto 4, 3) := by decide +kernel
theorem d_MO_init_147 : decode b_MO_init 147 = .ok (.iconst 0, 1) := by decide +kernel
theorem d_MO_init_148 : decode b_MO_init 148 = .ok (.putfield 45, 3) := by decide +kernel
theorem d_MO_init_151 : decode b_MO_init 151 = .ok (.aload_n 0, 1) := by decide +kernel
theorem d_MO_init_152 : decode b_MO_init 152 = .ok (.aload_n 0, 1) := by decide +kernel
theorem d_MO_init_153 : decode b_MO_init 153 = .ok (.getfield 41, 3) := by decide +kernel
theorem d_MO_init_156 : decode b_MO_init 156 = .ok (.ifCond .eq 8, 3) := by decide +kernel
theorem d_MO_init_159 : decode b_MO_init 159 = .ok (.ldc 48, 2) := by decide +kernel
theorem d_MO_init_161 : decode b_MO_init 161 = .ok (.goto 6, 3) := by decide +kernel
theorem d_MO_init_164 : decode b_MO_init 164 = .ok (.sipush 255, 3) := by decide +kernel
theorem d_MO_init_167 : decode b_MO_init 167 = .ok (.putfield 49, 3) := by decide +kernel
theorem d_MO_init_170 : decode b_MO_init 170 = .ok (.aload_n 0, 1) := by decide +kernel
theorem d_MO_init_171 : decode b_MO_init 171 = .ok (.aload_n 0, 1) := by decide +kernel
theorem d_MO_init_172 : decode b_MO_init 172 = .ok (.getfield 41, 3) := by decide +kernel
theorem d_MO_init_175 : decode b_MO_init 175 = .ok (.ifCond .eq 9, 3) := by decide +kernel
theorem d_MO_init_178 : decode b_MO_init 178 = .ok (.sipush 17408, 3) := by decide +kernel
theorem d_MO_init_181 : decode b_MO_init 181 = .ok (.goto 4, 3) := by decide +kernel
theorem d_MO_init_184 : decode b_MO_init 184 = .ok (.iconst 4, 1) := by decide +kernel
theorem d_MO_init_185 : decode b_MO_init 185 = .ok (.putfield 52, 3) := by decide +kernel
theorem d_MO_init_188 : decode b_MO_init 188 = .ok (.aload_n 0, 1) := by decide +kernel
theorem d_MO_init_189 : decode b_MO_init 189 = .ok (.invokevirtual 55, 3) := by decide +kernel
theorem d_MO_init_192 : decode b_MO_init 192 = .ok (.aload_n 0, 1) := by decide +kernel
theorem d_MO_init_193 : decode b_MO_init 193 = .ok (.invokevirtual 58, 3) := by decide +kernel
theorem d_MO_init_196 : decode b_MO_init 196 = .ok (.aload_n 0, 1) := by decide +kernel
theorem d_MO_init_197 : decode b_MO_init 197 = .ok (.invokevirtual 61, 3) := by decide +kernel
theorem d_MO_init_200 : decode b_MO_init 200 = .ok (.aload_n 0, 1) := by decide +kernel
theorem d_MO_init_201 : decode b_MO_init 201 = .ok (.invokevirtual 64, 3) := by decide +kernel
theorem d_MO_init_204 : decode b_MO_init 204 = .ok (.sipush 256, 3) := by decide +kernel
theorem d_MO_init_207 : decode b_MO_init 207 = .ok (.istore_n 2, 1) := by decide +kernel
theorem d_MO_init_208 : decode b_MO_init 208 = .ok (.iload_n 2, 1) := by decide +kernel
theorem d_MO_init_209 : decode b_MO_init 209 = .ok (.sipush 376, 3) := by decide +kernel
theorem d_MO_init_212 : decode b_MO_init 212 = .ok (.if_icmp .ge 24, 3) := by decide +kernel
theorem d_MO_init_215 : decode b_MO_init 215 = .ok (.iload_n 2, 1) := by decide +kernel
theorem d_MO_init_216 : decode b_MO_init 216 = .ok (.sipush 312, 3) := by decide +kernel
theorem d_MO_init_219 : decode b_MO_init 219 = .ok (.if_icmp .ge 11, 3) := by decide +kernel
theorem d_MO_init_222 : decode b_MO_init 222 = .ok (.aload_n 0, 1) := by decide +kernel
theorem d_MO_init_223 : decode b_MO_init 223 = .ok (.getfield 14, 3) := by decide +kernel
theorem d_MO_init_226 : decode b_MO_init 226 = .ok (.iload_n 2, 1) := by decide +kernel
theorem d_MO_init_227 : decode b_MO_init 227 = .ok (.bipush 6, 2) := by decide +kernel
theorem d_MO_init_229 : decode b_MO_init 229 = .ok (.bastore, 1) := by decide +kernel
theorem d_MO_init_230 : decode b_MO_init 230 = .ok (.iinc 2 2, 3) := by decide +kernel
theorem d_MO_init_233 : decode b_MO_init 233 = .ok (.goto (-25), 3) := by decide +kernel
theorem d_MO_init_236 : decode b_MO_init 236 = .ok (.sipush 330, 3) := by decide +kernel
theorem d_MO_init_239 : decode b_MO_init 239 = .ok (.istore_n 2, 1) := by decide +kernel
theorem d_MO_init_240 : decode b_MO_init 240 = .ok (.iload_n 2, 1) := by decide +kernel
theorem d_MO_init_241 : decode b_MO_init 241 = .ok (.sipush 376, 3) := by decide +kernel
theorem d_MO_init_244 : decode b_MO_init 244 = .ok (.if_icmp .ge 17, 3) := by decide +kernel
theorem d_MO_init_247 : decode b_MO_init 247 = .ok (.aload_n 0, 1) := by decide +kernel
theorem d_MO_init_248 : decode b_MO_init 248 = .ok (.getfield 14, 3) := by decide +kernel
theorem d_MO_init_251 : decode b_MO_init 251 = .ok (.iload_n 2, 1) := by decide +kernel
theorem d_MO_init_252 : decode b_MO_init 252 = .ok (.bipush 6, 2) := by decide +kernel
theorem d_MO_init_254 : decode b_MO_init 254 = .ok (.bastore, 1) := by decide +kernel
theorem d_MO_init_255 : decode b_MO_init 255 = .ok (.iinc 2 2, 3) := by decide +kernel
theorem d_MO_init_258 : decode b_MO_init 258 = .ok (.goto (-18), 3) := by decide +kernel
theorem d_MO_init_261 : decode b_MO_init 261 = .ok (.sipush 313, 3) := by decide +kernel
theorem d_MO_init_264 : decode b_MO_init 264 = .ok (.istore_n 2, 1) := by decide +kernel
theorem d_MO_init_265 : decode b_MO_init 265 = .ok (.iload_n 2, 1) := by decide +kernel
theorem d_MO_init_266 : decode b_MO_init 266 = .ok (.sipush 329, 3) := by decide +kernel
theorem d_MO_init_269 : decode b_MO_init 269 = .ok (.if_icmp .ge 17, 3) := by decide +kernel
theorem d_MO_init_272 : decode b_MO_init 272 = .ok (.aload_n 0, 1) := by decide +kernel
theorem d_MO_init_273 : decode b_MO_init 273 = .ok (.getfield 14, 3) := by decide +kernel
theorem d_MO_init_276 : decode b_MO_init 276 = .ok (.iload_n 2, 1) := by decide +kernel
theorem d_MO_init_277 : decode b_MO_init 277 = .ok (.bipush 6, 2) := by decide +kernel
theorem d_MO_init_279 : decode b_MO_init 279 = .ok (.bastore, 1) := by decide +kernel
theorem d_MO_init_280 : decode b_MO_init 280 = .ok (.iinc 2 2, 3) := by decide +kernel
theorem d_MO_init_283 : decode b_MO_init 283 = .ok (.goto (-18), 3) := by decide +kernel
theorem d_MO_init_286 : decode b_MO_init 286 = .ok (.sipush 377, 3) := by decide +kernel
theorem d_MO_init_289 : decode b_MO_init 289 = .ok (.istore_n 2, 1) := by decide +kernel
theorem d_MO_init_290 : decode b_MO_init 290 = .ok (.iload_n 2, 1) := by decide +kernel
theorem d_MO_init_291 : decode b_MO_init 291 = .ok (.sipush 383, 3) := by decide +kernel
theorem d_MO_init_294 : decode b_MO_init 294 = .ok (.if_icmp .ge 17, 3) := by decide +kernel
theorem d_MO_init_297 : decode b_MO_init 297 = .ok (.aload_n 0, 1) := by decide +kernel
theorem d_MO_init_298 : decode b_MO_init 298 = .ok (.getfield 14, 3) := by decide +kernel
theorem d_MO_init_301 : decode b_MO_init 301 = .ok (.iload_n 2, 1) := by decide +kernel
theorem d_MO_init_302 : decode b_MO_init 302 = .ok (.bipush 6, 2) := by decide +kernel
theorem d_MO_init_304 : decode b_MO_init 304 = .ok (.bastore, 1) := by decide +kernel
theorem d_MO_init_305 : decode b_MO_init 305 = .ok (.iinc 2 2, 3) := by decide +kernel
theorem d_MO_init_308 : decode b_MO_init 308 = .ok (.goto (-18), 3) := by decide +kernel
theorem d_MO_init_311 : decode b_MO_init 311 = .ok (.return_, 1) := by decide +kernel
