theorem d_TB_pieceScript_0 : decode b_TB_pieceScript 0 = .ok (.aload_n 0, 1) := by decide +kernel
theorem d_TB_pieceScript_1 : decode b_TB_pieceScript 1 = .ok (.getfield 18, 3) := by decide +kernel
theorem d_TB_pieceScript_4 : decode b_TB_pieceScript 4 = .ok (.iload_n 1, 1) := by decide +kernel
theorem d_TB_pieceScript_5 : decode b_TB_pieceScript 5 = .ok (.iaload, 1) := by decide +kernel
theorem d_TB_pieceScript_6 : decode b_TB_pieceScript 6 = .ok (.ireturn, 1) := by decide +kernel
theorem d_TB_categoryOf_0 : decode b_TB_categoryOf 0 = .ok (.aload_n 0, 1) := by decide +kernel
theorem d_TB_categoryOf_1 : decode b_TB_categoryOf 1 = .ok (.getfield 15, 3) := by decide +kernel
theorem d_TB_categoryOf_4 : decode b_TB_categoryOf 4 = .ok (.aload_n 0, 1) := by decide +kernel
theorem d_TB_categoryOf_5 : decode b_TB_categoryOf 5 = .ok (.iload_n 1, 1) := by decide +kernel
theorem d_TB_categoryOf_6 : decode b_TB_categoryOf 6 = .ok (.invokevirtual 37, 3) := by decide +kernel
theorem d_TB_categoryOf_9 : decode b_TB_categoryOf 9 = .ok (.iaload, 1) := by decide +kernel
theorem d_TB_categoryOf_10 : decode b_TB_categoryOf 10 = .ok (.ireturn, 1) := by decide +kernel
theorem d_TB_scriptOf_0 : decode b_TB_scriptOf 0 = .ok (.aload_n 0, 1) := by decide +kernel
theorem d_TB_scriptOf_1 : decode b_TB_scriptOf 1 = .ok (.getfield 18, 3) := by decide +kernel
theorem d_TB_scriptOf_4 : decode b_TB_scriptOf 4 = .ok (.aload_n 0, 1) := by decide +kernel
theorem d_TB_scriptOf_5 : decode b_TB_scriptOf 5 = .ok (.iload_n 1, 1) := by decide +kernel
theorem d_TB_scriptOf_6 : decode b_TB_scriptOf 6 = .ok (.invokevirtual 37, 3) := by decide +kernel
theorem d_TB_scriptOf_9 : decode b_TB_scriptOf 9 = .ok (.iaload, 1) := by decide +kernel
theorem d_TB_scriptOf_10 : decode b_TB_scriptOf 10 = .ok (.ireturn, 1) := by decide +kernel
theorem d_TB_pieceOf_0 : decode b_TB_pieceOf 0 = .ok (.iconst 0, 1) := by decide +kernel
theorem d_TB_pieceOf_1 : decode b_TB_pieceOf 1 = .ok (.istore_n 2, 1) := by decide +kernel
theorem d_TB_pieceOf_2 : decode b_TB_pieceOf 2 = .ok (.iconst 1, 1) := by decide +kernel
theorem d_TB_pieceOf_3 : decode b_TB_pieceOf 3 = .ok (.istore_n 3, 1) := by decide +kernel
theorem d_TB_pieceOf_4 : decode b_TB_pieceOf 4 = .ok (.iload_n 3, 1) := by decide +kernel
theorem d_TB_pieceOf_5 : decode b_TB_pieceOf 5 = .ok (.aload_n 0, 1) := by decide +kernel
theorem d_TB_pieceOf_6 : decode b_TB_pieceOf 6 = .ok (.getfield 21, 3) := by decide +kernel
theorem d_TB_pieceOf_9 : decode b_TB_pieceOf 9 = .ok (.if_icmp .ge 21, 3) := by decide +kernel
theorem d_TB_pieceOf_12 : decode b_TB_pieceOf 12 = .ok (.aload_n 0, 1) := by decide +kernel
theorem d_TB_pieceOf_13 : decode b_TB_pieceOf 13 = .ok (.getfield 11, 3) := by decide +kernel
theorem d_TB_pieceOf_16 : decode b_TB_pieceOf 16 = .ok (.iload_n 3, 1) := by decide +kernel
theorem d_TB_pieceOf_17 : decode b_TB_pieceOf 17 = .ok (.iaload, 1) := by decide +kernel
theorem d_TB_pieceOf_18 : decode b_TB_pieceOf 18 = .ok (.iload_n 1, 1) := by decide +kernel
theorem d_TB_pieceOf_19 : decode b_TB_pieceOf 19 = .ok (.if_icmp .gt 11, 3) := by decide +kernel
theorem d_TB_pieceOf_22 : decode b_TB_pieceOf 22 = .ok (.iload_n 3, 1) := by decide +kernel
theorem d_TB_pieceOf_23 : decode b_TB_pieceOf 23 = .ok (.istore_n 2, 1) := by decide +kernel
theorem d_TB_pieceOf_24 : decode b_TB_pieceOf 24 = .ok (.iinc 3 1, 3) := by decide +kernel
theorem d_TB_pieceOf_27 : decode b_TB_pieceOf 27 = .ok (.goto (-23), 3) := by decide +kernel
theorem d_TB_pieceOf_30 : decode b_TB_pieceOf 30 = .ok (.iload_n 2, 1) := by decide +kernel
theorem d_TB_pieceOf_31 : decode b_TB_pieceOf 31 = .ok (.ireturn, 1) := by decide +kernel
theorem d_TB_addRow_0 : decode b_TB_addRow 0 = .ok (.iload_n 3, 1) := by decide +kernel
theorem d_TB_addRow_1 : decode b_TB_addRow 1 = .ok (.bipush 25, 2) := by decide +kernel
theorem d_TB_addRow_3 : decode b_TB_addRow 3 = .ok (.if_icmp .eq 10, 3) := by decide +kernel
theorem d_TB_addRow_6 : decode b_TB_addRow 6 = .ok (.aload_n 0, 1) := by decide +kernel
theorem d_TB_addRow_7 : decode b_TB_addRow 7 = .ok (.iload_n 1, 1) := by decide +kernel
theorem d_TB_addRow_8 : decode b_TB_addRow 8 = .ok (.iload_n 3, 1) := by decide +kernel
theorem d_TB_addRow_9 : decode b_TB_addRow 9 = .ok (.invokevirtual 28, 3) := by decide +kernel
theorem d_TB_addRow_12 : decode b_TB_addRow 12 = .ok (.return_, 1) := by decide +kernel
theorem d_TB_addRow_13 : decode b_TB_addRow 13 = .ok (.iload_n 1, 1) := by decide +kernel
theorem d_TB_addRow_14 : decode b_TB_addRow 14 = .ok (.istore 4, 2) := by decide +kernel
theorem d_TB_addRow_16 : decode b_TB_addRow 16 = .ok (.iload 4, 2) := by decide +kernel
theorem d_TB_addRow_18 : decode b_TB_addRow 18 = .ok (.iload_n 2, 1) := by decide +kernel
theorem d_TB_addRow_19 : decode b_TB_addRow 19 = .ok (.if_icmp .ge 30, 3) := by decide +kernel
theorem d_TB_addRow_22 : decode b_TB_addRow 22 = .ok (.aload_n 0, 1) := by decide +kernel
theorem d_TB_addRow_23 : decode b_TB_addRow 23 = .ok (.iload 4, 2) := by decide +kernel
theorem d_TB_addRow_25 : decode b_TB_addRow 25 = .ok (.iload 4, 2) := by decide +kernel
theorem d_TB_addRow_27 : decode b_TB_addRow 27 = .ok (.iload_n 1, 1) := by decide +kernel
theorem d_TB_addRow_28 : decode b_TB_addRow 28 = .ok (.isub, 1) := by decide +kernel
theorem d_TB_addRow_29 : decode b_TB_addRow 29 = .ok (.iconst 2, 1) := by decide +kernel
theorem d_TB_addRow_30 : decode b_TB_addRow 30 = .ok (.irem, 1) := by decide +kernel
theorem d_TB_addRow_31 : decode b_TB_addRow 31 = .ok (.ifCond .ne 8, 3) := by decide +kernel
theorem d_TB_addRow_34 : decode b_TB_addRow 34 = .ok (.bipush 6, 2) := by decide +kernel
theorem d_TB_addRow_36 : decode b_TB_addRow 36 = .ok (.goto 4, 3) := by decide +kernel
theorem d_TB_addRow_39 : decode b_TB_addRow 39 = .ok (.iconst 4, 1) := by decide +kernel
theorem d_TB_addRow_40 : decode b_TB_addRow 40 = .ok (.invokevirtual 28, 3) := by decide +kernel
theorem d_TB_addRow_43 : decode b_TB_addRow 43 = .ok (.iinc 4 1, 3) := by decide +kernel
theorem d_TB_addRow_46 : decode b_TB_addRow 46 = .ok (.goto (-30), 3) := by decide +kernel
theorem d_TB_addRow_49 : decode b_TB_addRow 49 = .ok (.return_, 1) := by decide +kernel
theorem d_TB_addPiece_0 : decode b_TB_addPiece 0 = .ok (.aload_n 0, 1) := by decide +kernel
theorem d_TB_addPiece_1 : decode b_TB_addPiece 1 = .ok (.getfield 21, 3) := by decide +kernel
theorem d_TB_addPiece_4 : decode b_TB_addPiece 4 = .ok (.sipush 512, 3) := by decide +kernel
theorem d_TB_addPiece_7 : decode b_TB_addPiece 7 = .ok (.if_icmp .lt 4, 3) := by decide +kernel
theorem d_TB_addPiece_10 : decode b_TB_addPiece 10 = .ok (.return_, 1) := by decide +kernel
theorem d_TB_addPiece_11 : decode b_TB_addPiece 11 = .ok (.aload_n 0, 1) := by decide +kernel
theorem d_TB_addPiece_12 : decode b_TB_addPiece 12 = .ok (.getfield 11, 3) := by decide +kernel
theorem d_TB_addPiece_15 : decode b_TB_addPiece 15 = .ok (.aload_n 0, 1) := by decide +kernel
theorem d_TB_addPiece_16 : decode b_TB_addPiece 16 = .ok (.getfield 21, 3) := by decide +kernel
theorem d_TB_addPiece_19 : decode b_TB_addPiece 19 = .ok (.iload_n 1, 1) := by decide +kernel
theorem d_TB_addPiece_20 : decode b_TB_addPiece 20 = .ok (.iastore, 1) := by decide +kernel
theorem d_TB_addPiece_21 : decode b_TB_addPiece 21 = .ok (.aload_n 0, 1) := by decide +kernel
theorem d_TB_addPiece_22 : decode b_TB_addPiece 22 = .ok (.getfield 15, 3) := by decide +kernel
theorem d_TB_addPiece_25 : decode b_TB_addPiece 25 = .ok (.aload_n 0, 1) := by decide +kernel
theorem d_TB_addPiece_26 : decode b_TB_addPiece 26 = .ok (.getfield 21, 3) := by decide +kernel
theorem d_TB_addPiece_29 : decode b_TB_addPiece 29 = .ok (.iload_n 2, 1) := by decide +kernel
theorem d_TB_addPiece_30 : decode b_TB_addPiece 30 = .ok (.iastore, 1) := by decide +kernel
theorem d_TB_addPiece_31 : decode b_TB_addPiece 31 = .ok (.aload_n 0, 1) := by decide +kernel
theorem d_TB_addPiece_32 : decode b_TB_addPiece 32 = .ok (.getfield 18, 3) := by decide +kernel
theorem d_TB_addPiece_35 : decode b_TB_addPiece 35 = .ok (.aload_n 0, 1) := by decide +kernel
theorem d_TB_addPiece_36 : decode b_TB_addPiece 36 = .ok (.getfield 21, 3) := by decide +kernel
theorem d_TB_addPiece_39 : decode b_TB_addPiece 39 = .ok (.iload_n 1, 1) := by decide +kernel
theorem d_TB_addPiece_40 : decode b_TB_addPiece 40 = .ok (.iload_n 2, 1) := by decide +kernel
theorem d_TB_addPiece_41 : decode b_TB_addPiece 41 = .ok (.invokestatic 41, 3) := by decide +kernel
theorem d_TB_addPiece_44 : decode b_TB_addPiece 44 = .ok (.iastore, 1) := by decide +kernel
theorem d_TB_addPiece_45 : decode b_TB_addPiece 45 = .ok (.aload_n 0, 1) := by decide +kernel
theorem d_TB_addPiece_46 : decode b_TB_addPiece 46 = .ok (.dup, 1) := by decide +kernel
theorem d_TB_addPiece_47 : decode b_TB_addPiece 47 = .ok (.getfield 21, 3) := by decide +kernel
theorem d_TB_addPiece_50 : decode b_TB_addPiece 50 = .ok (.iconst 1, 1) := by decide +kernel
theorem d_TB_addPiece_51 : decode b_TB_addPiece 51 = .ok (.iadd, 1) := by decide +kernel
theorem d_TB_addPiece_52 : decode b_TB_addPiece 52 = .ok (.putfield 21, 3) := by decide +kernel
theorem d_TB_addPiece_55 : decode b_TB_addPiece 55 = .ok (.return_, 1) := by decide +kernel
theorem d_TB_findScript_0 : decode b_TB_findScript 0 = .ok (.iload_n 1, 1) := by decide +kernel
theorem d_TB_findScript_1 : decode b_TB_findScript 1 = .ok (.ifCond .eq 8, 3) := by decide +kernel
theorem d_TB_findScript_4 : decode b_TB_findScript 4 = .ok (.iload_n 1, 1) := by decide +kernel
theorem d_TB_findScript_5 : decode b_TB_findScript 5 = .ok (.iconst 3, 1) := by decide +kernel
theorem d_TB_findScript_6 : decode b_TB_findScript 6 = .ok (.if_icmp .ne 5, 3) := by decide +kernel
theorem d_TB_findScript_9 : decode b_TB_findScript 9 = .ok (.iconst 0, 1) := by decide +kernel
theorem d_TB_findScript_10 : decode b_TB_findScript 10 = .ok (.ireturn, 1) := by decide +kernel
theorem d_TB_findScript_11 : decode b_TB_findScript 11 = .ok (.iload_n 1, 1) := by decide +kernel
theorem d_TB_findScript_12 : decode b_TB_findScript 12 = .ok (.bipush 6, 2) := by decide +kernel
theorem d_TB_findScript_14 : decode b_TB_findScript 14 = .ok (.if_icmp .eq 8, 3) := by decide +kernel
theorem d_TB_findScript_17 : decode b_TB_findScript 17 = .ok (.iload_n 1, 1) := by decide +kernel
theorem d_TB_findScript_18 : decode b_TB_findScript 18 = .ok (.iconst 4, 1) := by decide +kernel
theorem d_TB_findScript_19 : decode b_TB_findScript 19 = .ok (.if_icmp .ne 23, 3) := by decide +kernel
theorem d_TB_findScript_22 : decode b_TB_findScript 22 = .ok (.iload_n 0, 1) := by decide +kernel
theorem d_TB_findScript_23 : decode b_TB_findScript 23 = .ok (.sipush 384, 3) := by decide +kernel
theorem d_TB_findScript_26 : decode b_TB_findScript 26 = .ok (.if_icmp .ge 16, 3) := by decide +kernel
theorem d_TB_findScript_29 : decode b_TB_findScript 29 = .ok (.iload_n 0, 1) := by decide +kernel
theorem d_TB_findScript_30 : decode b_TB_findScript 30 = .ok (.sipush 181, 3) := by decide +kernel
theorem d_TB_findScript_33 : decode b_TB_findScript 33 = .ok (.if_icmp .ne 7, 3) := by decide +kernel
theorem d_TB_findScript_36 : decode b_TB_findScript 36 = .ok (.iconst 1, 1) := by decide +kernel
theorem d_TB_findScript_37 : decode b_TB_findScript 37 = .ok (.goto 4, 3) := by decide +kernel
theorem d_TB_findScript_40 : decode b_TB_findScript 40 = .ok (.iconst 2, 1) := by decide +kernel
theorem d_TB_findScript_41 : decode b_TB_findScript 41 = .ok (.ireturn, 1) := by decide +kernel
theorem d_TB_findScript_42 : decode b_TB_findScript 42 = .ok (.iconst 0, 1) := by decide +kernel
theorem d_TB_findScript_43 : decode b_TB_findScript 43 = .ok (.istore_n 2, 1) := by decide +kernel
theorem d_TB_findScript_44 : decode b_TB_findScript 44 = .ok (.iload_n 2, 1) := by decide +kernel
theorem d_TB_findScript_45 : decode b_TB_findScript 45 = .ok (.iconst 2, 1) := by decide +kernel
theorem d_TB_findScript_46 : decode b_TB_findScript 46 = .ok (.iadd, 1) := by decide +kernel
theorem d_TB_findScript_47 : decode b_TB_findScript 47 = .ok (.getstatic 45, 3) := by decide +kernel
theorem d_TB_findScript_50 : decode b_TB_findScript 50 = .ok (.arraylength, 1) := by decide +kernel
theorem d_TB_findScript_51 : decode b_TB_findScript 51 = .ok (.if_icmp .ge 37, 3) := by decide +kernel
theorem d_TB_findScript_54 : decode b_TB_findScript 54 = .ok (.iload_n 0, 1) := by decide +kernel
theorem d_TB_findScript_55 : decode b_TB_findScript 55 = .ok (.getstatic 45, 3) := by decide +kernel
theorem d_TB_findScript_58 : decode b_TB_findScript 58 = .ok (.iload_n 2, 1) := by decide +kernel
theorem d_TB_findScript_59 : decode b_TB_findScript 59 = .ok (.iaload, 1) := by decide +kernel
theorem d_TB_findScript_60 : decode b_TB_findScript 60 = .ok (.if_icmp .lt 22, 3) := by decide +kernel
theorem d_TB_findScript_63 : decode b_TB_findScript 63 = .ok (.iload_n 0, 1) := by decide +kernel
theorem d_TB_findScript_64 : decode b_TB_findScript 64 = .ok (.getstatic 45, 3) := by decide +kernel
theorem d_TB_findScript_67 : decode b_TB_findScript 67 = .ok (.iload_n 2, 1) := by decide +kernel
theorem d_TB_findScript_68 : decode b_TB_findScript 68 = .ok (.iconst 1, 1) := by decide +kernel
theorem d_TB_findScript_69 : decode b_TB_findScript 69 = .ok (.iadd, 1) := by decide +kernel
theorem d_TB_findScript_70 : decode b_TB_findScript 70 = .ok (.iaload, 1) := by decide +kernel
theorem d_TB_findScript_71 : decode b_TB_findScript 71 = .ok (.if_icmp .gt 11, 3) := by decide +kernel
theorem d_TB_findScript_74 : decode b_TB_findScript 74 = .ok (.getstatic 45, 3) := by decide +kernel
theorem d_TB_findScript_77 : decode b_TB_findScript 77 = .ok (.iload_n 2, 1) := by decide +kernel
theorem d_TB_findScript_78 : decode b_TB_findScript 78 = .ok (.iconst 2, 1) := by decide +kernel
theorem d_TB_findScript_79 : decode b_TB_findScript 79 = .ok (.iadd, 1) := by decide +kernel
theorem d_TB_findScript_80 : decode b_TB_findScript 80 = .ok (.iaload, 1) := by decide +kernel
theorem d_TB_findScript_81 : decode b_TB_findScript 81 = .ok (.ireturn, 1) := by decide +kernel
theorem d_TB_findScript_82 : decode b_TB_findScript 82 = .ok (.iinc 2 3, 3) := by decide +kernel
theorem d_TB_findScript_85 : decode b_TB_findScript 85 = .ok (.goto (-41), 3) := by decide +kernel
theorem d_TB_findScript_88 : decode b_TB_findScript 88 = .ok (.iconst 1, 1) := by decide +kernel
theorem d_TB_findScript_89 : decode b_TB_findScript 89 = .ok (.ireturn, 1) := by decide +kernel
theorem d_LA_cell_0 : decode b_LA_cell 0 = .ok (.iload_n 1, 1) := by decide +kernel
theorem d_LA_cell_1 : decode b_LA_cell 1 = .ok (.aload_n 0, 1) := by decide +kernel
theorem d_LA_cell_2 : decode b_LA_cell 2 = .ok (.arraylength, 1) := by decide +kernel
theorem d_LA_cell_3 : decode b_LA_cell 3 = .ok (.if_icmp .ge 9, 3) := by decide +kernel
theorem d_LA_cell_6 : decode b_LA_cell 6 = .ok (.aload_n 0, 1) := by decide +kernel
theorem d_LA_cell_7 : decode b_LA_cell 7 = .ok (.iload_n 1, 1) := by decide +kernel
theorem d_LA_cell_8 : decode b_LA_cell 8 = .ok (.iaload, 1) := by decide +kernel
theorem d_LA_cell_9 : decode b_LA_cell 9 = .ok (.goto 4, 3) := by decide +kernel
theorem d_LA_cell_12 : decode b_LA_cell 12 = .ok (.iconst 0, 1) := by decide +kernel
theorem d_LA_cell_13 : decode b_LA_cell 13 = .ok (.ireturn, 1) := by decide +kernel
theorem d_LA_law_0 : decode code 0 = .ok (.new 7, 3) := by decide +kernel
theorem d_LA_law_3 : decode code 3 = .ok (.dup, 1) := by decide +kernel
theorem d_LA_law_4 : decode code 4 = .ok (.aload_n 0, 1) := by decide +kernel
theorem d_LA_law_5 : decode code 5 = .ok (.iconst 0, 1) := by decide +kernel
theorem d_LA_law_6 : decode code 6 = .ok (.invokestatic 9, 3) := by decide +kernel
theorem d_LA_law_9 : decode code 9 = .ok (.invokespecial 15, 3) := by decide +kernel
theorem d_LA_law_12 : decode code 12 = .ok (.astore_n 1, 1) := by decide +kernel
theorem d_LA_law_13 : decode code 13 = .ok (.new 18, 3) := by decide +kernel
theorem d_LA_law_16 : decode code 16 = .ok (.dup, 1) := by decide +kernel
theorem d_LA_law_17 : decode code 17 = .ok (.aload_n 0, 1) := by decide +kernel
theorem d_LA_law_18 : decode code 18 = .ok (.iconst 0, 1) := by decide +kernel
theorem d_LA_law_19 : decode code 19 = .ok (.invokestatic 9, 3) := by decide +kernel
theorem d_LA_law_22 : decode code 22 = .ok (.invokespecial 20, 3) := by decide +kernel
theorem d_LA_law_25 : decode code 25 = .ok (.astore_n 2, 1) := by decide +kernel
theorem d_LA_law_26 : decode code 26 = .ok (.iconst 1, 1) := by decide +kernel
theorem d_LA_law_27 : decode code 27 = .ok (.istore_n 3, 1) := by decide +kernel
theorem d_LA_law_28 : decode code 28 = .ok (.iload_n 3, 1) := by decide +kernel
theorem d_LA_law_29 : decode code 29 = .ok (.aload_n 0, 1) := by decide +kernel
theorem d_LA_law_30 : decode code 30 = .ok (.arraylength, 1) := by decide +kernel
theorem d_LA_law_31 : decode code 31 = .ok (.iconst 5, 1) := by decide +kernel
theorem d_LA_law_32 : decode code 32 = .ok (.isub, 1) := by decide +kernel
theorem d_LA_law_33 : decode code 33 = .ok (.if_icmp .gt 647, 3) := by decide +kernel
theorem d_LA_law_36 : decode code 36 = .ok (.aload_n 0, 1) := by decide +kernel
theorem d_LA_law_37 : decode code 37 = .ok (.iload_n 3, 1) := by decide +kernel
theorem d_LA_law_38 : decode code 38 = .ok (.iaload, 1) := by decide +kernel
theorem d_LA_law_39 : decode code 39 = .ok (.bipush 15, 2) := by decide +kernel
theorem d_LA_law_41 : decode code 41 = .ok (.iand, 1) := by decide +kernel
theorem d_LA_law_42 : decode code 42 = .ok (.tableswitch 632 0 13 #[70, 93, 136, 221, 306, 329, 352, 385, 418, 451, 484, 507, 540, 599], 70) := by decide +kernel
theorem d_LA_law_112 : decode code 112 = .ok (.aload_n 1, 1) := by decide +kernel
theorem d_LA_law_113 : decode code 113 = .ok (.aload_n 0, 1) := by decide +kernel
theorem d_LA_law_114 : decode code 114 = .ok (.iload_n 3, 1) := by decide +kernel
theorem d_LA_law_115 : decode code 115 = .ok (.iconst 1, 1) := by decide +kernel
theorem d_LA_law_116 : decode code 116 = .ok (.iadd, 1) := by decide +kernel
theorem d_LA_law_117 : decode code 117 = .ok (.iaload, 1) := by decide +kernel
theorem d_LA_law_118 : decode code 118 = .ok (.invokevirtual 21, 3) := by decide +kernel
theorem d_LA_law_121 : decode code 121 = .ok (.aload_n 2, 1) := by decide +kernel
theorem d_LA_law_122 : decode code 122 = .ok (.aload_n 0, 1) := by decide +kernel
theorem d_LA_law_123 : decode code 123 = .ok (.iload_n 3, 1) := by decide +kernel
theorem d_LA_law_124 : decode code 124 = .ok (.iconst 1, 1) := by decide +kernel
theorem d_LA_law_125 : decode code 125 = .ok (.iadd, 1) := by decide +kernel
theorem d_LA_law_126 : decode code 126 = .ok (.iaload, 1) := by decide +kernel
theorem d_LA_law_127 : decode code 127 = .ok (.invokevirtual 25, 3) := by decide +kernel
theorem d_LA_law_130 : decode code 130 = .ok (.if_icmp .eq 544, 3) := by decide +kernel
theorem d_LA_law_133 : decode code 133 = .ok (.iconst 0, 1) := by decide +kernel
theorem d_LA_law_134 : decode code 134 = .ok (.ireturn, 1) := by decide +kernel
theorem d_LA_law_135 : decode code 135 = .ok (.aload_n 1, 1) := by decide +kernel
theorem d_LA_law_136 : decode code 136 = .ok (.aload_n 0, 1) := by decide +kernel
theorem d_LA_law_137 : decode code 137 = .ok (.iload_n 3, 1) := by decide +kernel
theorem d_LA_law_138 : decode code 138 = .ok (.iconst 1, 1) := by decide +kernel
theorem d_LA_law_139 : decode code 139 = .ok (.iadd, 1) := by decide +kernel
theorem d_LA_law_140 : decode code 140 = .ok (.iaload, 1) := by decide +kernel
theorem d_LA_law_141 : decode code 141 = .ok (.aload_n 0, 1) := by decide +kernel
theorem d_LA_law_142 : decode code 142 = .ok (.iload_n 3, 1) := by decide +kernel
theorem d_LA_law_143 : decode code 143 = .ok (.iconst 2, 1) := by decide +kernel
theorem d_LA_law_144 : decode code 144 = .ok (.iadd, 1) := by decide +kernel
theorem d_LA_law_145 : decode code 145 = .ok (.iaload, 1) := by decide +kernel
theorem d_LA_law_146 : decode code 146 = .ok (.aload_n 0, 1) := by decide +kernel
theorem d_LA_law_147 : decode code 147 = .ok (.iload_n 3, 1) := by decide +kernel
theorem d_LA_law_148 : decode code 148 = .ok (.iconst 3, 1) := by decide +kernel
theorem d_LA_law_149 : decode code 149 = .ok (.iadd, 1) := by decide +kernel
theorem d_LA_law_150 : decode code 150 = .ok (.iaload, 1) := by decide +kernel
theorem d_LA_law_151 : decode code 151 = .ok (.invokevirtual 26, 3) := by decide +kernel
theorem d_LA_law_154 : decode code 154 = .ok (.aload_n 2, 1) := by decide +kernel
theorem d_LA_law_155 : decode code 155 = .ok (.aload_n 0, 1) := by decide +kernel
theorem d_LA_law_156 : decode code 156 = .ok (.iload_n 3, 1) := by decide +kernel
theorem d_LA_law_157 : decode code 157 = .ok (.iconst 1, 1) := by decide +kernel
theorem d_LA_law_158 : decode code 158 = .ok (.iadd, 1) := by decide +kernel
theorem d_LA_law_159 : decode code 159 = .ok (.iaload, 1) := by decide +kernel
theorem d_LA_law_160 : decode code 160 = .ok (.aload_n 0, 1) := by decide +kernel
theorem d_LA_law_161 : decode code 161 = .ok (.iload_n 3, 1) := by decide +kernel
theorem d_LA_law_162 : decode code 162 = .ok (.iconst 2, 1) := by decide +kernel
theorem d_LA_law_163 : decode code 163 = .ok (.iadd, 1) := by decide +kernel
theorem d_LA_law_164 : decode code 164 = .ok (.iaload, 1) := by decide +kernel
theorem d_LA_law_165 : decode code 165 = .ok (.aload_n 0, 1) := by decide +kernel
theorem d_LA_law_166 : decode code 166 = .ok (.iload_n 3, 1) := by decide +kernel
theorem d_LA_law_167 : decode code 167 = .ok (.iconst 3, 1) := by decide +kernel
theorem d_LA_law_168 : decode code 168 = .ok (.iadd, 1) := by decide +kernel
theorem d_LA_law_169 : decode code 169 = .ok (.iaload, 1) := by decide +kernel
theorem d_LA_law_170 : decode code 170 = .ok (.invokevirtual 30, 3) := by decide +kernel
theorem d_LA_law_173 : decode code 173 = .ok (.if_icmp .eq 501, 3) := by decide +kernel
theorem d_LA_law_176 : decode code 176 = .ok (.iconst 0, 1) := by decide +kernel
theorem d_LA_law_177 : decode code 177 = .ok (.ireturn, 1) := by decide +kernel
theorem d_LA_law_178 : decode code 178 = .ok (.aload_n 1, 1) := by decide +kernel
theorem d_LA_law_179 : decode code 179 = .ok (.aload_n 0, 1) := by decide +kernel
theorem d_LA_law_180 : decode code 180 = .ok (.iload_n 3, 1) := by decide +kernel
theorem d_LA_law_181 : decode code 181 = .ok (.iconst 1, 1) := by decide +kernel
theorem d_LA_law_182 : decode code 182 = .ok (.iadd, 1) := by decide +kernel
theorem d_LA_law_183 : decode code 183 = .ok (.iaload, 1) := by decide +kernel
theorem d_LA_law_184 : decode code 184 = .ok (.aload_n 0, 1) := by decide +kernel
theorem d_LA_law_185 : decode code 185 = .ok (.iload_n 3, 1) := by decide +kernel
theorem d_LA_law_186 : decode code 186 = .ok (.iconst 2, 1) := by decide +kernel
theorem d_LA_law_187 : decode code 187 = .ok (.iadd, 1) := by decide +kernel
theorem d_LA_law_188 : decode code 188 = .ok (.iaload, 1) := by decide +kernel
theorem d_LA_law_189 : decode code 189 = .ok (.aload_n 0, 1) := by decide +kernel
theorem d_LA_law_190 : decode code 190 = .ok (.iload_n 3, 1) := by decide +kernel
theorem d_LA_law_191 : decode code 191 = .ok (.iconst 3, 1) := by decide +kernel
theorem d_LA_law_192 : decode code 192 = .ok (.iadd, 1) := by decide +kernel
theorem d_LA_law_193 : decode code 193 = .ok (.iaload, 1) := by decide +kernel
theorem d_LA_law_194 : decode code 194 = .ok (.ifCond .eq 7, 3) := by decide +kernel
theorem d_LA_law_197 : decode code 197 = .ok (.iconst 1, 1) := by decide +kernel
theorem d_LA_law_198 : decode code 198 = .ok (.goto 4, 3) := by decide +kernel
theorem d_LA_law_201 : decode code 201 = .ok (.iconst 0, 1) := by decide +kernel
theorem d_LA_law_202 : decode code 202 = .ok (.aload_n 0, 1) := by decide +kernel
theorem d_LA_law_203 : decode code 203 = .ok (.iload_n 3, 1) := by decide +kernel
theorem d_LA_law_204 : decode code 204 = .ok (.iconst 4, 1) := by decide +kernel
theorem d_LA_law_205 : decode code 205 = .ok (.iadd, 1) := by decide +kernel
theorem d_LA_law_206 : decode code 206 = .ok (.iaload, 1) := by decide +kernel
theorem d_LA_law_207 : decode code 207 = .ok (.ifCond .eq 7, 3) := by decide +kernel
theorem d_LA_law_210 : decode code 210 = .ok (.iconst 1, 1) := by decide +kernel
theorem d_LA_law_211 : decode code 211 = .ok (.goto 4, 3) := by decide +kernel
theorem d_LA_law_214 : decode code 214 = .ok (.iconst 0, 1) := by decide +kernel
theorem d_LA_law_215 : decode code 215 = .ok (.invokevirtual 31, 3) := by decide +kernel
theorem d_LA_law_218 : decode code 218 = .ok (.aload_n 2, 1) := by decide +kernel
theorem d_LA_law_219 : decode code 219 = .ok (.aload_n 0, 1) := by decide +kernel
theorem d_LA_law_220 : decode code 220 = .ok (.iload_n 3, 1) := by decide +kernel
theorem d_LA_law_221 : decode code 221 = .ok (.iconst 1, 1) := by decide +kernel
theorem d_LA_law_222 : decode code 222 = .ok (.iadd, 1) := by decide +kernel
theorem d_LA_law_223 : decode code 223 = .ok (.iaload, 1) := by decide +kernel
theorem d_LA_law_224 : decode code 224 = .ok (.aload_n 0, 1) := by decide +kernel
theorem d_LA_law_225 : decode code 225 = .ok (.iload_n 3, 1) := by decide +kernel
theorem d_LA_law_226 : decode code 226 = .ok (.iconst 2, 1) := by decide +kernel
theorem d_LA_law_227 : decode code 227 = .ok (.iadd, 1) := by decide +kernel
theorem d_LA_law_228 : decode code 228 = .ok (.iaload, 1) := by decide +kernel
theorem d_LA_law_229 : decode code 229 = .ok (.aload_n 0, 1) := by decide +kernel
theorem d_LA_law_230 : decode code 230 = .ok (.iload_n 3, 1) := by decide +kernel
theorem d_LA_law_231 : decode code 231 = .ok (.iconst 3, 1) := by decide +kernel
theorem d_LA_law_232 : decode code 232 = .ok (.iadd, 1) := by decide +kernel
theorem d_LA_law_233 : decode code 233 = .ok (.iaload, 1) := by decide +kernel
theorem d_LA_law_234 : decode code 234 = .ok (.ifCond .eq 7, 3) := by decide +kernel
theorem d_LA_law_237 : decode code 237 = .ok (.iconst 1, 1) := by decide +kernel
theorem d_LA_law_238 : decode code 238 = .ok (.goto 4, 3) := by decide +kernel
theorem d_LA_law_241 : decode code 241 = .ok (.iconst 0, 1) := by decide +kernel
theorem d_LA_law_242 : decode code 242 = .ok (.aload_n 0, 1) := by decide +kernel
theorem d_LA_law_243 : decode code 243 = .ok (.iload_n 3, 1) := by decide +kernel
theorem d_LA_law_244 : decode code 244 = .ok (.iconst 4, 1) := by decide +kernel
theorem d_LA_law_245 : decode code 245 = .ok (.iadd, 1) := by decide +kernel
theorem d_LA_law_246 : decode code 246 = .ok (.iaload, 1) := by decide +kernel
theorem d_LA_law_247 : decode code 247 = .ok (.ifCond .eq 7, 3) := by decide +kernel
theorem d_LA_law_250 : decode code 250 = .ok (.iconst 1, 1) := by decide +kernel
theorem d_LA_law_251 : decode code 251 = .ok (.goto 4, 3) := by decide +kernel
theorem d_LA_law_254 : decode code 254 = .ok (.iconst 0, 1) := by decide +kernel
theorem d_LA_law_255 : decode code 255 = .ok (.invokevirtual 35, 3) := by decide +kernel
theorem d_LA_law_258 : decode code 258 = .ok (.if_icmp .eq 416, 3) := by decide +kernel
theorem d_LA_law_261 : decode code 261 = .ok (.iconst 0, 1) := by decide +kernel
theorem d_LA_law_262 : decode code 262 = .ok (.ireturn, 1) := by decide +kernel
theorem d_LA_law_263 : decode code 263 = .ok (.aload_n 1, 1) := by decide +kernel
theorem d_LA_law_264 : decode code 264 = .ok (.aload_n 0, 1) := by decide +kernel
theorem d_LA_law_265 : decode code 265 = .ok (.iload_n 3, 1) := by decide +kernel
theorem d_LA_law_266 : decode code 266 = .ok (.iconst 1, 1) := by decide +kernel
theorem d_LA_law_267 : decode code 267 = .ok (.iadd, 1) := by decide +kernel
theorem d_LA_law_268 : decode code 268 = .ok (.iaload, 1) := by decide +kernel
theorem d_LA_law_269 : decode code 269 = .ok (.aload_n 0, 1) := by decide +kernel
theorem d_LA_law_270 : decode code 270 = .ok (.iload_n 3, 1) := by decide +kernel
theorem d_LA_law_271 : decode code 271 = .ok (.iconst 2, 1) := by decide +kernel
theorem d_LA_law_272 : decode code 272 = .ok (.iadd, 1) := by decide +kernel
theorem d_LA_law_273 : decode code 273 = .ok (.iaload, 1) := by decide +kernel
theorem d_LA_law_274 : decode code 274 = .ok (.aload_n 0, 1) := by decide +kernel
theorem d_LA_law_275 : decode code 275 = .ok (.iload_n 3, 1) := by decide +kernel
theorem d_LA_law_276 : decode code 276 = .ok (.iconst 3, 1) := by decide +kernel
theorem d_LA_law_277 : decode code 277 = .ok (.iadd, 1) := by decide +kernel
theorem d_LA_law_278 : decode code 278 = .ok (.iaload, 1) := by decide +kernel
theorem d_LA_law_279 : decode code 279 = .ok (.ifCond .eq 7, 3) := by decide +kernel
theorem d_LA_law_282 : decode code 282 = .ok (.iconst 1, 1) := by decide +kernel
theorem d_LA_law_283 : decode code 283 = .ok (.goto 4, 3) := by decide +kernel
theorem d_LA_law_286 : decode code 286 = .ok (.iconst 0, 1) := by decide +kernel
theorem d_LA_law_287 : decode code 287 = .ok (.aload_n 0, 1) := by decide +kernel
theorem d_LA_law_288 : decode code 288 = .ok (.iload_n 3, 1) := by decide +kernel
theorem d_LA_law_289 : decode code 289 = .ok (.iconst 4, 1) := by decide +kernel
theorem d_LA_law_290 : decode code 290 = .ok (.iadd, 1) := by decide +kernel
theorem d_LA_law_291 : decode code 291 = .ok (.iaload, 1) := by decide +kernel
theorem d_LA_law_292 : decode code 292 = .ok (.ifCond .eq 7, 3) := by decide +kernel
theorem d_LA_law_295 : decode code 295 = .ok (.iconst 1, 1) := by decide +kernel
theorem d_LA_law_296 : decode code 296 = .ok (.goto 4, 3) := by decide +kernel
theorem d_LA_law_299 : decode code 299 = .ok (.iconst 0, 1) := by decide +kernel
theorem d_LA_law_300 : decode code 300 = .ok (.invokevirtual 36, 3) := by decide +kernel
theorem d_LA_law_303 : decode code 303 = .ok (.aload_n 2, 1) := by decide +kernel
theorem d_LA_law_304 : decode code 304 = .ok (.aload_n 0, 1) := by decide +kernel
theorem d_LA_law_305 : decode code 305 = .ok (.iload_n 3, 1) := by decide +kernel
theorem d_LA_law_306 : decode code 306 = .ok (.iconst 1, 1) := by decide +kernel
theorem d_LA_law_307 : decode code 307 = .ok (.iadd, 1) := by decide +kernel
theorem d_LA_law_308 : decode code 308 = .ok (.iaload, 1) := by decide +kernel
theorem d_LA_law_309 : decode code 309 = .ok (.aload_n 0, 1) := by decide +kernel
theorem d_LA_law_310 : decode code 310 = .ok (.iload_n 3, 1) := by decide +kernel
theorem d_LA_law_311 : decode code 311 = .ok (.iconst 2, 1) := by decide +kernel
theorem d_LA_law_312 : decode code 312 = .ok (.iadd, 1) := by decide +kernel
theorem d_LA_law_313 : decode code 313 = .ok (.iaload, 1) := by decide +kernel
theorem d_LA_law_314 : decode code 314 = .ok (.aload_n 0, 1) := by decide +kernel
theorem d_LA_law_315 : decode code 315 = .ok (.iload_n 3, 1) := by decide +kernel
theorem d_LA_law_316 : decode code 316 = .ok (.iconst 3, 1) := by decide +kernel
theorem d_LA_law_317 : decode code 317 = .ok (.iadd, 1) := by decide +kernel
theorem d_LA_law_318 : decode code 318 = .ok (.iaload, 1) := by decide +kernel
theorem d_LA_law_319 : decode code 319 = .ok (.ifCond .eq 7, 3) := by decide +kernel
theorem d_LA_law_322 : decode code 322 = .ok (.iconst 1, 1) := by decide +kernel
theorem d_LA_law_323 : decode code 323 = .ok (.goto 4, 3) := by decide +kernel
theorem d_LA_law_326 : decode code 326 = .ok (.iconst 0, 1) := by decide +kernel
theorem d_LA_law_327 : decode code 327 = .ok (.aload_n 0, 1) := by decide +kernel
theorem d_LA_law_328 : decode code 328 = .ok (.iload_n 3, 1) := by decide +kernel
theorem d_LA_law_329 : decode code 329 = .ok (.iconst 4, 1) := by decide +kernel
theorem d_LA_law_330 : decode code 330 = .ok (.iadd, 1) := by decide +kernel
theorem d_LA_law_331 : decode code 331 = .ok (.iaload, 1) := by decide +kernel
theorem d_LA_law_332 : decode code 332 = .ok (.ifCond .eq 7, 3) := by decide +kernel
theorem d_LA_law_335 : decode code 335 = .ok (.iconst 1, 1) := by decide +kernel
theorem d_LA_law_336 : decode code 336 = .ok (.goto 4, 3) := by decide +kernel
theorem d_LA_law_339 : decode code 339 = .ok (.iconst 0, 1) := by decide +kernel
theorem d_LA_law_340 : decode code 340 = .ok (.invokevirtual 39, 3) := by decide +kernel
theorem d_LA_law_343 : decode code 343 = .ok (.if_icmp .eq 331, 3) := by decide +kernel
theorem d_LA_law_346 : decode code 346 = .ok (.iconst 0, 1) := by decide +kernel
theorem d_LA_law_347 : decode code 347 = .ok (.ireturn, 1) := by decide +kernel
theorem d_LA_law_348 : decode code 348 = .ok (.aload_n 1, 1) := by decide +kernel
theorem d_LA_law_349 : decode code 349 = .ok (.aload_n 0, 1) := by decide +kernel
theorem d_LA_law_350 : decode code 350 = .ok (.iload_n 3, 1) := by decide +kernel
theorem d_LA_law_351 : decode code 351 = .ok (.iconst 1, 1) := by decide +kernel
theorem d_LA_law_352 : decode code 352 = .ok (.iadd, 1) := by decide +kernel
theorem d_LA_law_353 : decode code 353 = .ok (.iaload, 1) := by decide +kernel
theorem d_LA_law_354 : decode code 354 = .ok (.invokevirtual 40, 3) := by decide +kernel
theorem d_LA_law_357 : decode code 357 = .ok (.aload_n 2, 1) := by decide +kernel
theorem d_LA_law_358 : decode code 358 = .ok (.aload_n 0, 1) := by decide +kernel
theorem d_LA_law_359 : decode code 359 = .ok (.iload_n 3, 1) := by decide +kernel
theorem d_LA_law_360 : decode code 360 = .ok (.iconst 1, 1) := by decide +kernel
theorem d_LA_law_361 : decode code 361 = .ok (.iadd, 1) := by decide +kernel
theorem d_LA_law_362 : decode code 362 = .ok (.iaload, 1) := by decide +kernel
theorem d_LA_law_363 : decode code 363 = .ok (.invokevirtual 43, 3) := by decide +kernel
theorem d_LA_law_366 : decode code 366 = .ok (.if_icmp .eq 308, 3) := by decide +kernel
theorem d_LA_law_369 : decode code 369 = .ok (.iconst 0, 1) := by decide +kernel
theorem d_LA_law_370 : decode code 370 = .ok (.ireturn, 1) := by decide +kernel
theorem d_LA_law_371 : decode code 371 = .ok (.aload_n 1, 1) := by decide +kernel
theorem d_LA_law_372 : decode code 372 = .ok (.aload_n 0, 1) := by decide +kernel
theorem d_LA_law_373 : decode code 373 = .ok (.iload_n 3, 1) := by decide +kernel
theorem d_LA_law_374 : decode code 374 = .ok (.iconst 1, 1) := by decide +kernel
theorem d_LA_law_375 : decode code 375 = .ok (.iadd, 1) := by decide +kernel
theorem d_LA_law_376 : decode code 376 = .ok (.iaload, 1) := by decide +kernel
theorem d_LA_law_377 : decode code 377 = .ok (.invokevirtual 44, 3) := by decide +kernel
theorem d_LA_law_380 : decode code 380 = .ok (.aload_n 2, 1) := by decide +kernel
theorem d_LA_law_381 : decode code 381 = .ok (.aload_n 0, 1) := by decide +kernel
theorem d_LA_law_382 : decode code 382 = .ok (.iload_n 3, 1) := by decide +kernel
theorem d_LA_law_383 : decode code 383 = .ok (.iconst 1, 1) := by decide +kernel
theorem d_LA_law_384 : decode code 384 = .ok (.iadd, 1) := by decide +kernel
theorem d_LA_law_385 : decode code 385 = .ok (.iaload, 1) := by decide +kernel
theorem d_LA_law_386 : decode code 386 = .ok (.invokevirtual 47, 3) := by decide +kernel
theorem d_LA_law_389 : decode code 389 = .ok (.if_icmp .eq 285, 3) := by decide +kernel
theorem d_LA_law_392 : decode code 392 = .ok (.iconst 0, 1) := by decide +kernel
theorem d_LA_law_393 : decode code 393 = .ok (.ireturn, 1) := by decide +kernel
theorem d_LA_law_394 : decode code 394 = .ok (.aload_n 1, 1) := by decide +kernel
theorem d_LA_law_395 : decode code 395 = .ok (.aload_n 0, 1) := by decide +kernel
theorem d_LA_law_396 : decode code 396 = .ok (.iload_n 3, 1) := by decide +kernel
theorem d_LA_law_397 : decode code 397 = .ok (.iconst 1, 1) := by decide +kernel
theorem d_LA_law_398 : decode code 398 = .ok (.iadd, 1) := by decide +kernel
theorem d_LA_law_399 : decode code 399 = .ok (.iaload, 1) := by decide +kernel
theorem d_LA_law_400 : decode code 400 = .ok (.aload_n 0, 1) := by decide +kernel
theorem d_LA_law_401 : decode code 401 = .ok (.iload_n 3, 1) := by decide +kernel
theorem d_LA_law_402 : decode code 402 = .ok (.iconst 2, 1) := by decide +kernel
theorem d_LA_law_403 : decode code 403 = .ok (.iadd, 1) := by decide +kernel
theorem d_LA_law_404 : decode code 404 = .ok (.iaload, 1) := by decide +kernel
theorem d_LA_law_405 : decode code 405 = .ok (.invokevirtual 48, 3) := by decide +kernel
theorem d_LA_law_408 : decode code 408 = .ok (.aload_n 2, 1) := by decide +kernel
theorem d_LA_law_409 : decode code 409 = .ok (.aload_n 0, 1) := by decide +kernel
theorem d_LA_law_410 : decode code 410 = .ok (.iload_n 3, 1) := by decide +kernel
theorem d_LA_law_411 : decode code 411 = .ok (.iconst 1, 1) := by decide +kernel
theorem d_LA_law_412 : decode code 412 = .ok (.iadd, 1) := by decide +kernel
theorem d_LA_law_413 : decode code 413 = .ok (.iaload, 1) := by decide +kernel
theorem d_LA_law_414 : decode code 414 = .ok (.aload_n 0, 1) := by decide +kernel
theorem d_LA_law_415 : decode code 415 = .ok (.iload_n 3, 1) := by decide +kernel
theorem d_LA_law_416 : decode code 416 = .ok (.iconst 2, 1) := by decide +kernel
theorem d_LA_law_417 : decode code 417 = .ok (.iadd, 1) := by decide +kernel
theorem d_LA_law_418 : decode code 418 = .ok (.iaload, 1) := by decide +kernel
theorem d_LA_law_419 : decode code 419 = .ok (.invokevirtual 52, 3) := by decide +kernel
theorem d_LA_law_422 : decode code 422 = .ok (.if_icmp .eq 252, 3) := by decide +kernel
theorem d_LA_law_425 : decode code 425 = .ok (.iconst 0, 1) := by decide +kernel
theorem d_LA_law_426 : decode code 426 = .ok (.ireturn, 1) := by decide +kernel
theorem d_LA_law_427 : decode code 427 = .ok (.aload_n 1, 1) := by decide +kernel
theorem d_LA_law_428 : decode code 428 = .ok (.aload_n 0, 1) := by decide +kernel
theorem d_LA_law_429 : decode code 429 = .ok (.iload_n 3, 1) := by decide +kernel
theorem d_LA_law_430 : decode code 430 = .ok (.iconst 1, 1) := by decide +kernel
theorem d_LA_law_431 : decode code 431 = .ok (.iadd, 1) := by decide +kernel
theorem d_LA_law_432 : decode code 432 = .ok (.iaload, 1) := by decide +kernel
theorem d_LA_law_433 : decode code 433 = .ok (.aload_n 0, 1) := by decide +kernel
theorem d_LA_law_434 : decode code 434 = .ok (.iload_n 3, 1) := by decide +kernel
theorem d_LA_law_435 : decode code 435 = .ok (.iconst 2, 1) := by decide +kernel
theorem d_LA_law_436 : decode code 436 = .ok (.iadd, 1) := by decide +kernel
theorem d_LA_law_437 : decode code 437 = .ok (.iaload, 1) := by decide +kernel
theorem d_LA_law_438 : decode code 438 = .ok (.invokevirtual 53, 3) := by decide +kernel
theorem d_LA_law_441 : decode code 441 = .ok (.aload_n 2, 1) := by decide +kernel
theorem d_LA_law_442 : decode code 442 = .ok (.aload_n 0, 1) := by decide +kernel
theorem d_LA_law_443 : decode code 443 = .ok (.iload_n 3, 1) := by decide +kernel
theorem d_LA_law_444 : decode code 444 = .ok (.iconst 1, 1) := by decide +kernel
theorem d_LA_law_445 : decode code 445 = .ok (.iadd, 1) := by decide +kernel
theorem d_LA_law_446 : decode code 446 = .ok (.iaload, 1) := by decide +kernel
theorem d_LA_law_447 : decode code 447 = .ok (.aload_n 0, 1) := by decide +kernel
theorem d_LA_law_448 : decode code 448 = .ok (.iload_n 3, 1) := by decide +kernel
theorem d_LA_law_449 : decode code 449 = .ok (.iconst 2, 1) := by decide +kernel
theorem d_LA_law_450 : decode code 450 = .ok (.iadd, 1) := by decide +kernel
theorem d_LA_law_451 : decode code 451 = .ok (.iaload, 1) := by decide +kernel
theorem d_LA_law_452 : decode code 452 = .ok (.invokevirtual 56, 3) := by decide +kernel
theorem d_LA_law_455 : decode code 455 = .ok (.if_icmp .eq 219, 3) := by decide +kernel
theorem d_LA_law_458 : decode code 458 = .ok (.iconst 0, 1) := by decide +kernel
theorem d_LA_law_459 : decode code 459 = .ok (.ireturn, 1) := by decide +kernel
theorem d_LA_law_460 : decode code 460 = .ok (.aload_n 1, 1) := by decide +kernel
theorem d_LA_law_461 : decode code 461 = .ok (.aload_n 0, 1) := by decide +kernel
theorem d_LA_law_462 : decode code 462 = .ok (.iload_n 3, 1) := by decide +kernel
theorem d_LA_law_463 : decode code 463 = .ok (.iconst 1, 1) := by decide +kernel
theorem d_LA_law_464 : decode code 464 = .ok (.iadd, 1) := by decide +kernel
theorem d_LA_law_465 : decode code 465 = .ok (.iaload, 1) := by decide +kernel
theorem d_LA_law_466 : decode code 466 = .ok (.aload_n 0, 1) := by decide +kernel
theorem d_LA_law_467 : decode code 467 = .ok (.iload_n 3, 1) := by decide +kernel
theorem d_LA_law_468 : decode code 468 = .ok (.iconst 2, 1) := by decide +kernel
theorem d_LA_law_469 : decode code 469 = .ok (.iadd, 1) := by decide +kernel
theorem d_LA_law_470 : decode code 470 = .ok (.iaload, 1) := by decide +kernel
theorem d_LA_law_471 : decode code 471 = .ok (.invokevirtual 57, 3) := by decide +kernel
theorem d_LA_law_474 : decode code 474 = .ok (.aload_n 2, 1) := by decide +kernel
theorem d_LA_law_475 : decode code 475 = .ok (.aload_n 0, 1) := by decide +kernel
theorem d_LA_law_476 : decode code 476 = .ok (.iload_n 3, 1) := by decide +kernel
theorem d_LA_law_477 : decode code 477 = .ok (.iconst 1, 1) := by decide +kernel
theorem d_LA_law_478 : decode code 478 = .ok (.iadd, 1) := by decide +kernel
theorem d_LA_law_479 : decode code 479 = .ok (.iaload, 1) := by decide +kernel
theorem d_LA_law_480 : decode code 480 = .ok (.aload_n 0, 1) := by decide +kernel
theorem d_LA_law_481 : decode code 481 = .ok (.iload_n 3, 1) := by decide +kernel
theorem d_LA_law_482 : decode code 482 = .ok (.iconst 2, 1) := by decide +kernel
theorem d_LA_law_483 : decode code 483 = .ok (.iadd, 1) := by decide +kernel
theorem d_LA_law_484 : decode code 484 = .ok (.iaload, 1) := by decide +kernel
theorem d_LA_law_485 : decode code 485 = .ok (.invokevirtual 60, 3) := by decide +kernel
theorem d_LA_law_488 : decode code 488 = .ok (.if_icmp .eq 186, 3) := by decide +kernel
theorem d_LA_law_491 : decode code 491 = .ok (.iconst 0, 1) := by decide +kernel
theorem d_LA_law_492 : decode code 492 = .ok (.ireturn, 1) := by decide +kernel
theorem d_LA_law_493 : decode code 493 = .ok (.aload_n 1, 1) := by decide +kernel
theorem d_LA_law_494 : decode code 494 = .ok (.aload_n 0, 1) := by decide +kernel
theorem d_LA_law_495 : decode code 495 = .ok (.iload_n 3, 1) := by decide +kernel
theorem d_LA_law_496 : decode code 496 = .ok (.iconst 1, 1) := by decide +kernel
theorem d_LA_law_497 : decode code 497 = .ok (.iadd, 1) := by decide +kernel
theorem d_LA_law_498 : decode code 498 = .ok (.iaload, 1) := by decide +kernel
theorem d_LA_law_499 : decode code 499 = .ok (.aload_n 0, 1) := by decide +kernel
theorem d_LA_law_500 : decode code 500 = .ok (.iload_n 3, 1) := by decide +kernel
theorem d_LA_law_501 : decode code 501 = .ok (.iconst 2, 1) := by decide +kernel
theorem d_LA_law_502 : decode code 502 = .ok (.iadd, 1) := by decide +kernel
theorem d_LA_law_503 : decode code 503 = .ok (.iaload, 1) := by decide +kernel
theorem d_LA_law_504 : decode code 504 = .ok (.invokevirtual 61, 3) := by decide +kernel
theorem d_LA_law_507 : decode code 507 = .ok (.aload_n 2, 1) := by decide +kernel
theorem d_LA_law_508 : decode code 508 = .ok (.aload_n 0, 1) := by decide +kernel
theorem d_LA_law_509 : decode code 509 = .ok (.iload_n 3, 1) := by decide +kernel
theorem d_LA_law_510 : decode code 510 = .ok (.iconst 1, 1) := by decide +kernel
theorem d_LA_law_511 : decode code 511 = .ok (.iadd, 1) := by decide +kernel
theorem d_LA_law_512 : decode code 512 = .ok (.iaload, 1) := by decide +kernel
theorem d_LA_law_513 : decode code 513 = .ok (.aload_n 0, 1) := by decide +kernel
theorem d_LA_law_514 : decode code 514 = .ok (.iload_n 3, 1) := by decide +kernel
theorem d_LA_law_515 : decode code 515 = .ok (.iconst 2, 1) := by decide +kernel
theorem d_LA_law_516 : decode code 516 = .ok (.iadd, 1) := by decide +kernel
theorem d_LA_law_517 : decode code 517 = .ok (.iaload, 1) := by decide +kernel
theorem d_LA_law_518 : decode code 518 = .ok (.invokevirtual 64, 3) := by decide +kernel
theorem d_LA_law_521 : decode code 521 = .ok (.if_icmp .eq 153, 3) := by decide +kernel
theorem d_LA_law_524 : decode code 524 = .ok (.iconst 0, 1) := by decide +kernel
theorem d_LA_law_525 : decode code 525 = .ok (.ireturn, 1) := by decide +kernel
theorem d_LA_law_526 : decode code 526 = .ok (.aload_n 1, 1) := by decide +kernel
theorem d_LA_law_527 : decode code 527 = .ok (.aload_n 0, 1) := by decide +kernel
theorem d_LA_law_528 : decode code 528 = .ok (.iload_n 3, 1) := by decide +kernel
theorem d_LA_law_529 : decode code 529 = .ok (.iconst 1, 1) := by decide +kernel
theorem d_LA_law_530 : decode code 530 = .ok (.iadd, 1) := by decide +kernel
theorem d_LA_law_531 : decode code 531 = .ok (.iaload, 1) := by decide +kernel
theorem d_LA_law_532 : decode code 532 = .ok (.invokevirtual 65, 3) := by decide +kernel
theorem d_LA_law_535 : decode code 535 = .ok (.aload_n 2, 1) := by decide +kernel
theorem d_LA_law_536 : decode code 536 = .ok (.aload_n 0, 1) := by decide +kernel
theorem d_LA_law_537 : decode code 537 = .ok (.iload_n 3, 1) := by decide +kernel
theorem d_LA_law_538 : decode code 538 = .ok (.iconst 1, 1) := by decide +kernel
theorem d_LA_law_539 : decode code 539 = .ok (.iadd, 1) := by decide +kernel
theorem d_LA_law_540 : decode code 540 = .ok (.iaload, 1) := by decide +kernel
theorem d_LA_law_541 : decode code 541 = .ok (.invokevirtual 68, 3) := by decide +kernel
theorem d_LA_law_544 : decode code 544 = .ok (.if_icmp .eq 130, 3) := by decide +kernel
theorem d_LA_law_547 : decode code 547 = .ok (.iconst 0, 1) := by decide +kernel
theorem d_LA_law_548 : decode code 548 = .ok (.ireturn, 1) := by decide +kernel
theorem d_LA_law_549 : decode code 549 = .ok (.aload_n 1, 1) := by decide +kernel
theorem d_LA_law_550 : decode code 550 = .ok (.aload_n 0, 1) := by decide +kernel
theorem d_LA_law_551 : decode code 551 = .ok (.iload_n 3, 1) := by decide +kernel
theorem d_LA_law_552 : decode code 552 = .ok (.iconst 1, 1) := by decide +kernel
theorem d_LA_law_553 : decode code 553 = .ok (.iadd, 1) := by decide +kernel
theorem d_LA_law_554 : decode code 554 = .ok (.iaload, 1) := by decide +kernel
theorem d_LA_law_555 : decode code 555 = .ok (.aload_n 0, 1) := by decide +kernel
theorem d_LA_law_556 : decode code 556 = .ok (.iload_n 3, 1) := by decide +kernel
theorem d_LA_law_557 : decode code 557 = .ok (.iconst 2, 1) := by decide +kernel
theorem d_LA_law_558 : decode code 558 = .ok (.iadd, 1) := by decide +kernel
theorem d_LA_law_559 : decode code 559 = .ok (.iaload, 1) := by decide +kernel
theorem d_LA_law_560 : decode code 560 = .ok (.invokevirtual 69, 3) := by decide +kernel
theorem d_LA_law_563 : decode code 563 = .ok (.aload_n 2, 1) := by decide +kernel
theorem d_LA_law_564 : decode code 564 = .ok (.aload_n 0, 1) := by decide +kernel
theorem d_LA_law_565 : decode code 565 = .ok (.iload_n 3, 1) := by decide +kernel
theorem d_LA_law_566 : decode code 566 = .ok (.iconst 1, 1) := by decide +kernel
theorem d_LA_law_567 : decode code 567 = .ok (.iadd, 1) := by decide +kernel
theorem d_LA_law_568 : decode code 568 = .ok (.iaload, 1) := by decide +kernel
theorem d_LA_law_569 : decode code 569 = .ok (.aload_n 0, 1) := by decide +kernel
theorem d_LA_law_570 : decode code 570 = .ok (.iload_n 3, 1) := by decide +kernel
theorem d_LA_law_571 : decode code 571 = .ok (.iconst 2, 1) := by decide +kernel
theorem d_LA_law_572 : decode code 572 = .ok (.iadd, 1) := by decide +kernel
theorem d_LA_law_573 : decode code 573 = .ok (.iaload, 1) := by decide +kernel
theorem d_LA_law_574 : decode code 574 = .ok (.invokevirtual 72, 3) := by decide +kernel
theorem d_LA_law_577 : decode code 577 = .ok (.if_icmp .eq 97, 3) := by decide +kernel
theorem d_LA_law_580 : decode code 580 = .ok (.iconst 0, 1) := by decide +kernel
theorem d_LA_law_581 : decode code 581 = .ok (.ireturn, 1) := by decide +kernel
theorem d_LA_law_582 : decode code 582 = .ok (.aload_n 1, 1) := by decide +kernel
theorem d_LA_law_583 : decode code 583 = .ok (.aload_n 0, 1) := by decide +kernel
theorem d_LA_law_584 : decode code 584 = .ok (.iload_n 3, 1) := by decide +kernel
theorem d_LA_law_585 : decode code 585 = .ok (.iconst 1, 1) := by decide +kernel
theorem d_LA_law_586 : decode code 586 = .ok (.iadd, 1) := by decide +kernel
theorem d_LA_law_587 : decode code 587 = .ok (.iaload, 1) := by decide +kernel
theorem d_LA_law_588 : decode code 588 = .ok (.aload_n 0, 1) := by decide +kernel
theorem d_LA_law_589 : decode code 589 = .ok (.iload_n 3, 1) := by decide +kernel
theorem d_LA_law_590 : decode code 590 = .ok (.iconst 2, 1) := by decide +kernel
theorem d_LA_law_591 : decode code 591 = .ok (.iadd, 1) := by decide +kernel
theorem d_LA_law_592 : decode code 592 = .ok (.iaload, 1) := by decide +kernel
theorem d_LA_law_593 : decode code 593 = .ok (.aload_n 0, 1) := by decide +kernel
theorem d_LA_law_594 : decode code 594 = .ok (.iload_n 3, 1) := by decide +kernel
theorem d_LA_law_595 : decode code 595 = .ok (.iconst 3, 1) := by decide +kernel
theorem d_LA_law_596 : decode code 596 = .ok (.iadd, 1) := by decide +kernel
theorem d_LA_law_597 : decode code 597 = .ok (.iaload, 1) := by decide +kernel
theorem d_LA_law_598 : decode code 598 = .ok (.ifCond .eq 7, 3) := by decide +kernel
theorem d_LA_law_601 : decode code 601 = .ok (.iconst 1, 1) := by decide +kernel
theorem d_LA_law_602 : decode code 602 = .ok (.goto 4, 3) := by decide +kernel
theorem d_LA_law_605 : decode code 605 = .ok (.iconst 0, 1) := by decide +kernel
theorem d_LA_law_606 : decode code 606 = .ok (.invokevirtual 73, 3) := by decide +kernel
theorem d_LA_law_609 : decode code 609 = .ok (.aload_n 2, 1) := by decide +kernel
theorem d_LA_law_610 : decode code 610 = .ok (.aload_n 0, 1) := by decide +kernel
theorem d_LA_law_611 : decode code 611 = .ok (.iload_n 3, 1) := by decide +kernel
theorem d_LA_law_612 : decode code 612 = .ok (.iconst 1, 1) := by decide +kernel
theorem d_LA_law_613 : decode code 613 = .ok (.iadd, 1) := by decide +kernel
theorem d_LA_law_614 : decode code 614 = .ok (.iaload, 1) := by decide +kernel
theorem d_LA_law_615 : decode code 615 = .ok (.aload_n 0, 1) := by decide +kernel
theorem d_LA_law_616 : decode code 616 = .ok (.iload_n 3, 1) := by decide +kernel
theorem d_LA_law_617 : decode code 617 = .ok (.iconst 2, 1) := by decide +kernel
theorem d_LA_law_618 : decode code 618 = .ok (.iadd, 1) := by decide +kernel
theorem d_LA_law_619 : decode code 619 = .ok (.iaload, 1) := by decide +kernel
theorem d_LA_law_620 : decode code 620 = .ok (.aload_n 0, 1) := by decide +kernel
theorem d_LA_law_621 : decode code 621 = .ok (.iload_n 3, 1) := by decide +kernel
theorem d_LA_law_622 : decode code 622 = .ok (.iconst 3, 1) := by decide +kernel
theorem d_LA_law_623 : decode code 623 = .ok (.iadd, 1) := by decide +kernel
theorem d_LA_law_624 : decode code 624 = .ok (.iaload, 1) := by decide +kernel
theorem d_LA_law_625 : decode code 625 = .ok (.ifCond .eq 7, 3) := by decide +kernel
theorem d_LA_law_628 : decode code 628 = .ok (.iconst 1, 1) := by decide +kernel
theorem d_LA_law_629 : decode code 629 = .ok (.goto 4, 3) := by decide +kernel
theorem d_LA_law_632 : decode code 632 = .ok (.iconst 0, 1) := by decide +kernel
theorem d_LA_law_633 : decode code 633 = .ok (.invokevirtual 77, 3) := by decide +kernel
theorem d_LA_law_636 : decode code 636 = .ok (.if_icmp .eq 38, 3) := by decide +kernel
theorem d_LA_law_639 : decode code 639 = .ok (.iconst 0, 1) := by decide +kernel
theorem d_LA_law_640 : decode code 640 = .ok (.ireturn, 1) := by decide +kernel
theorem d_LA_law_641 : decode code 641 = .ok (.aload_n 1, 1) := by decide +kernel
theorem d_LA_law_642 : decode code 642 = .ok (.aload_n 0, 1) := by decide +kernel
theorem d_LA_law_643 : decode code 643 = .ok (.iload_n 3, 1) := by decide +kernel
theorem d_LA_law_644 : decode code 644 = .ok (.iconst 1, 1) := by decide +kernel
theorem d_LA_law_645 : decode code 645 = .ok (.iadd, 1) := by decide +kernel
theorem d_LA_law_646 : decode code 646 = .ok (.iaload, 1) := by decide +kernel
theorem d_LA_law_647 : decode code 647 = .ok (.aload_n 0, 1) := by decide +kernel
theorem d_LA_law_648 : decode code 648 = .ok (.iload_n 3, 1) := by decide +kernel
theorem d_LA_law_649 : decode code 649 = .ok (.iconst 2, 1) := by decide +kernel
theorem d_LA_law_650 : decode code 650 = .ok (.iadd, 1) := by decide +kernel
theorem d_LA_law_651 : decode code 651 = .ok (.iaload, 1) := by decide +kernel
theorem d_LA_law_652 : decode code 652 = .ok (.invokevirtual 78, 3) := by decide +kernel
theorem d_LA_law_655 : decode code 655 = .ok (.aload_n 2, 1) := by decide +kernel
theorem d_LA_law_656 : decode code 656 = .ok (.aload_n 0, 1) := by decide +kernel
theorem d_LA_law_657 : decode code 657 = .ok (.iload_n 3, 1) := by decide +kernel
theorem d_LA_law_658 : decode code 658 = .ok (.iconst 1, 1) := by decide +kernel
theorem d_LA_law_659 : decode code 659 = .ok (.iadd, 1) := by decide +kernel
theorem d_LA_law_660 : decode code 660 = .ok (.iaload, 1) := by decide +kernel
theorem d_LA_law_661 : decode code 661 = .ok (.aload_n 0, 1) := by decide +kernel
theorem d_LA_law_662 : decode code 662 = .ok (.iload_n 3, 1) := by decide +kernel
theorem d_LA_law_663 : decode code 663 = .ok (.iconst 2, 1) := by decide +kernel
theorem d_LA_law_664 : decode code 664 = .ok (.iadd, 1) := by decide +kernel
theorem d_LA_law_665 : decode code 665 = .ok (.iaload, 1) := by decide +kernel
theorem d_LA_law_666 : decode code 666 = .ok (.invokevirtual 81, 3) := by decide +kernel
theorem d_LA_law_669 : decode code 669 = .ok (.if_icmp .eq 5, 3) := by decide +kernel
theorem d_LA_law_672 : decode code 672 = .ok (.iconst 0, 1) := by decide +kernel
theorem d_LA_law_673 : decode code 673 = .ok (.ireturn, 1) := by decide +kernel
theorem d_LA_law_674 : decode code 674 = .ok (.iinc 3 5, 3) := by decide +kernel
theorem d_LA_law_677 : decode code 677 = .ok (.goto (-649), 3) := by decide +kernel
theorem d_LA_law_680 : decode code 680 = .ok (.iconst 1, 1) := by decide +kernel
theorem d_LA_law_681 : decode code 681 = .ok (.ireturn, 1) := by decide +kernel
