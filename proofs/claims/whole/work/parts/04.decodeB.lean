theorem dX6_init_0 : decode cX6_init 0 = .ok (.aload_n 0, 1) := by decide +kernel
theorem dX6_init_1 : decode cX6_init 1 = .ok (.invokespecial 3, 3) := by decide +kernel
theorem dX6_init_4 : decode cX6_init 4 = .ok (.aload_n 0, 1) := by decide +kernel
theorem dX6_init_5 : decode cX6_init 5 = .ok (.sipush 200, 3) := by decide +kernel
theorem dX6_init_8 : decode cX6_init 8 = .ok (.newarray .double, 2) := by decide +kernel
theorem dX6_init_10 : decode cX6_init 10 = .ok (.putfield 9, 3) := by decide +kernel
theorem dX6_init_13 : decode cX6_init 13 = .ok (.aload_n 0, 1) := by decide +kernel
theorem dX6_init_14 : decode cX6_init 14 = .ok (.sipush 200, 3) := by decide +kernel
theorem dX6_init_17 : decode cX6_init 17 = .ok (.newarray .boolean, 2) := by decide +kernel
theorem dX6_init_19 : decode cX6_init 19 = .ok (.putfield 15, 3) := by decide +kernel
theorem dX6_init_22 : decode cX6_init 22 = .ok (.aload_n 0, 1) := by decide +kernel
theorem dX6_init_23 : decode cX6_init 23 = .ok (.bipush 12, 2) := by decide +kernel
theorem dX6_init_25 : decode cX6_init 25 = .ok (.newarray .boolean, 2) := by decide +kernel
theorem dX6_init_27 : decode cX6_init 27 = .ok (.putfield 19, 3) := by decide +kernel
theorem dX6_init_30 : decode cX6_init 30 = .ok (.aload_n 0, 1) := by decide +kernel
theorem dX6_init_31 : decode cX6_init 31 = .ok (.bipush 48, 2) := by decide +kernel
theorem dX6_init_33 : decode cX6_init 33 = .ok (.newarray .int, 2) := by decide +kernel
theorem dX6_init_35 : decode cX6_init 35 = .ok (.putfield 22, 3) := by decide +kernel
theorem dX6_init_38 : decode cX6_init 38 = .ok (.aload_n 0, 1) := by decide +kernel
theorem dX6_init_39 : decode cX6_init 39 = .ok (.sipush 200, 3) := by decide +kernel
theorem dX6_init_42 : decode cX6_init 42 = .ok (.newarray .double, 2) := by decide +kernel
theorem dX6_init_44 : decode cX6_init 44 = .ok (.putfield 26, 3) := by decide +kernel
theorem dX6_init_47 : decode cX6_init 47 = .ok (.aload_n 0, 1) := by decide +kernel
theorem dX6_init_48 : decode cX6_init 48 = .ok (.sipush 200, 3) := by decide +kernel
theorem dX6_init_51 : decode cX6_init 51 = .ok (.newarray .boolean, 2) := by decide +kernel
theorem dX6_init_53 : decode cX6_init 53 = .ok (.putfield 29, 3) := by decide +kernel
theorem dX6_init_56 : decode cX6_init 56 = .ok (.aload_n 0, 1) := by decide +kernel
theorem dX6_init_57 : decode cX6_init 57 = .ok (.ldc 32, 2) := by decide +kernel
theorem dX6_init_59 : decode cX6_init 59 = .ok (.newarray .double, 2) := by decide +kernel
theorem dX6_init_61 : decode cX6_init 61 = .ok (.putfield 33, 3) := by decide +kernel
theorem dX6_init_64 : decode cX6_init 64 = .ok (.aload_n 0, 1) := by decide +kernel
theorem dX6_init_65 : decode cX6_init 65 = .ok (.ldc 32, 2) := by decide +kernel
theorem dX6_init_67 : decode cX6_init 67 = .ok (.newarray .boolean, 2) := by decide +kernel
theorem dX6_init_69 : decode cX6_init 69 = .ok (.putfield 36, 3) := by decide +kernel
theorem dX6_init_72 : decode cX6_init 72 = .ok (.aload_n 0, 1) := by decide +kernel
theorem dX6_init_73 : decode cX6_init 73 = .ok (.sipush 6144, 3) := by decide +kernel
theorem dX6_init_76 : decode cX6_init 76 = .ok (.newarray .boolean, 2) := by decide +kernel
theorem dX6_init_78 : decode cX6_init 78 = .ok (.putfield 39, 3) := by decide +kernel
theorem dX6_init_81 : decode cX6_init 81 = .ok (.aload_n 0, 1) := by decide +kernel
theorem dX6_init_82 : decode cX6_init 82 = .ok (.sipush 24576, 3) := by decide +kernel
theorem dX6_init_85 : decode cX6_init 85 = .ok (.newarray .int, 2) := by decide +kernel
theorem dX6_init_87 : decode cX6_init 87 = .ok (.putfield 42, 3) := by decide +kernel
theorem dX6_init_90 : decode cX6_init 90 = .ok (.aload_n 0, 1) := by decide +kernel
theorem dX6_init_91 : decode cX6_init 91 = .ok (.bipush 30, 2) := by decide +kernel
theorem dX6_init_93 : decode cX6_init 93 = .ok (.newarray .int, 2) := by decide +kernel
theorem dX6_init_95 : decode cX6_init 95 = .ok (.putfield 45, 3) := by decide +kernel
theorem dX6_init_98 : decode cX6_init 98 = .ok (.aload_n 0, 1) := by decide +kernel
theorem dX6_init_99 : decode cX6_init 99 = .ok (.bipush 10, 2) := by decide +kernel
theorem dX6_init_101 : decode cX6_init 101 = .ok (.newarray .int, 2) := by decide +kernel
theorem dX6_init_103 : decode cX6_init 103 = .ok (.putfield 48, 3) := by decide +kernel
theorem dX6_init_106 : decode cX6_init 106 = .ok (.aload_n 0, 1) := by decide +kernel
theorem dX6_init_107 : decode cX6_init 107 = .ok (.bipush 10, 2) := by decide +kernel
theorem dX6_init_109 : decode cX6_init 109 = .ok (.newarray .int, 2) := by decide +kernel
theorem dX6_init_111 : decode cX6_init 111 = .ok (.putfield 51, 3) := by decide +kernel
theorem dX6_init_114 : decode cX6_init 114 = .ok (.aload_n 0, 1) := by decide +kernel
theorem dX6_init_115 : decode cX6_init 115 = .ok (.bipush 10, 2) := by decide +kernel
theorem dX6_init_117 : decode cX6_init 117 = .ok (.newarray .boolean, 2) := by decide +kernel
theorem dX6_init_119 : decode cX6_init 119 = .ok (.putfield 54, 3) := by decide +kernel
theorem dX6_init_122 : decode cX6_init 122 = .ok (.iconst 0, 1) := by decide +kernel
theorem dX6_init_123 : decode cX6_init 123 = .ok (.istore_n 1, 1) := by decide +kernel
theorem dX6_init_124 : decode cX6_init 124 = .ok (.iload_n 1, 1) := by decide +kernel
theorem dX6_init_125 : decode cX6_init 125 = .ok (.sipush 200, 3) := by decide +kernel
theorem dX6_init_128 : decode cX6_init 128 = .ok (.if_icmp .ge 16, 3) := by decide +kernel
theorem dX6_init_131 : decode cX6_init 131 = .ok (.aload_n 0, 1) := by decide +kernel
theorem dX6_init_132 : decode cX6_init 132 = .ok (.getfield 15, 3) := by decide +kernel
theorem dX6_init_135 : decode cX6_init 135 = .ok (.iload_n 1, 1) := by decide +kernel
theorem dX6_init_136 : decode cX6_init 136 = .ok (.iconst 1, 1) := by decide +kernel
theorem dX6_init_137 : decode cX6_init 137 = .ok (.bastore, 1) := by decide +kernel
theorem dX6_init_138 : decode cX6_init 138 = .ok (.iinc 1 1, 3) := by decide +kernel
theorem dX6_init_141 : decode cX6_init 141 = .ok (.goto (-17), 3) := by decide +kernel
theorem dX6_init_144 : decode cX6_init 144 = .ok (.iconst 0, 1) := by decide +kernel
theorem dX6_init_145 : decode cX6_init 145 = .ok (.istore_n 1, 1) := by decide +kernel
theorem dX6_init_146 : decode cX6_init 146 = .ok (.iload_n 1, 1) := by decide +kernel
theorem dX6_init_147 : decode cX6_init 147 = .ok (.bipush 12, 2) := by decide +kernel
theorem dX6_init_149 : decode cX6_init 149 = .ok (.if_icmp .ge 18, 3) := by decide +kernel
theorem dX6_init_152 : decode cX6_init 152 = .ok (.aload_n 0, 1) := by decide +kernel
theorem dX6_init_153 : decode cX6_init 153 = .ok (.getfield 22, 3) := by decide +kernel
theorem dX6_init_156 : decode cX6_init 156 = .ok (.iconst 4, 1) := by decide +kernel
theorem dX6_init_157 : decode cX6_init 157 = .ok (.iload_n 1, 1) := by decide +kernel
theorem dX6_init_158 : decode cX6_init 158 = .ok (.imul, 1) := by decide +kernel
theorem dX6_init_159 : decode cX6_init 159 = .ok (.iconst (-1), 1) := by decide +kernel
theorem dX6_init_160 : decode cX6_init 160 = .ok (.iastore, 1) := by decide +kernel
theorem dX6_init_161 : decode cX6_init 161 = .ok (.iinc 1 1, 3) := by decide +kernel
theorem dX6_init_164 : decode cX6_init 164 = .ok (.goto (-18), 3) := by decide +kernel
theorem dX6_init_167 : decode cX6_init 167 = .ok (.return_, 1) := by decide +kernel
theorem dX6_isIn_0 : decode cX6_isIn 0 = .ok (.iload_n 0, 1) := by decide +kernel
theorem dX6_isIn_1 : decode cX6_isIn 1 = .ok (.iload_n 1, 1) := by decide +kernel
theorem dX6_isIn_2 : decode cX6_isIn 2 = .ok (.if_icmp .lt 12, 3) := by decide +kernel
theorem dX6_isIn_5 : decode cX6_isIn 5 = .ok (.iload_n 0, 1) := by decide +kernel
theorem dX6_isIn_6 : decode cX6_isIn 6 = .ok (.iload_n 2, 1) := by decide +kernel
theorem dX6_isIn_7 : decode cX6_isIn 7 = .ok (.if_icmp .gt 7, 3) := by decide +kernel
theorem dX6_isIn_10 : decode cX6_isIn 10 = .ok (.iconst 1, 1) := by decide +kernel
theorem dX6_isIn_11 : decode cX6_isIn 11 = .ok (.goto 4, 3) := by decide +kernel
theorem dX6_isIn_14 : decode cX6_isIn 14 = .ok (.iconst 0, 1) := by decide +kernel
theorem dX6_isIn_15 : decode cX6_isIn 15 = .ok (.ireturn, 1) := by decide +kernel
theorem dX6_isZero_0 : decode cX6_isZero 0 = .ok (.dload_n 0, 1) := by decide +kernel
theorem dX6_isZero_1 : decode cX6_isZero 1 = .ok (.dconst 0, 1) := by decide +kernel
theorem dX6_isZero_2 : decode cX6_isZero 2 = .ok (.dcmp .l, 1) := by decide +kernel
theorem dX6_isZero_3 : decode cX6_isZero 3 = .ok (.ifCond .ne 7, 3) := by decide +kernel
theorem dX6_isZero_6 : decode cX6_isZero 6 = .ok (.iconst 1, 1) := by decide +kernel
theorem dX6_isZero_7 : decode cX6_isZero 7 = .ok (.goto 4, 3) := by decide +kernel
theorem dX6_isZero_10 : decode cX6_isZero 10 = .ok (.iconst 0, 1) := by decide +kernel
theorem dX6_isZero_11 : decode cX6_isZero 11 = .ok (.ireturn, 1) := by decide +kernel
theorem dX6_isInfinite_0 : decode cX6_isInfinite 0 = .ok (.dload_n 0, 1) := by decide +kernel
theorem dX6_isInfinite_1 : decode cX6_isInfinite 1 = .ok (.ldc2_w 57, 3) := by decide +kernel
theorem dX6_isInfinite_4 : decode cX6_isInfinite 4 = .ok (.dcmp .l, 1) := by decide +kernel
theorem dX6_isInfinite_5 : decode cX6_isInfinite 5 = .ok (.ifCond .eq 11, 3) := by decide +kernel
theorem dX6_isInfinite_8 : decode cX6_isInfinite 8 = .ok (.dload_n 0, 1) := by decide +kernel
theorem dX6_isInfinite_9 : decode cX6_isInfinite 9 = .ok (.ldc2_w 59, 3) := by decide +kernel
theorem dX6_isInfinite_12 : decode cX6_isInfinite 12 = .ok (.dcmp .l, 1) := by decide +kernel
theorem dX6_isInfinite_13 : decode cX6_isInfinite 13 = .ok (.ifCond .ne 7, 3) := by decide +kernel
theorem dX6_isInfinite_16 : decode cX6_isInfinite 16 = .ok (.iconst 1, 1) := by decide +kernel
theorem dX6_isInfinite_17 : decode cX6_isInfinite 17 = .ok (.goto 4, 3) := by decide +kernel
theorem dX6_isInfinite_20 : decode cX6_isInfinite 20 = .ok (.iconst 0, 1) := by decide +kernel
theorem dX6_isInfinite_21 : decode cX6_isInfinite 21 = .ok (.ireturn, 1) := by decide +kernel
theorem dX6_hasMinus_0 : decode cX6_hasMinus 0 = .ok (.dload_n 0, 1) := by decide +kernel
theorem dX6_hasMinus_1 : decode cX6_hasMinus 1 = .ok (.invokestatic 61, 3) := by decide +kernel
theorem dX6_hasMinus_4 : decode cX6_hasMinus 4 = .ok (.ifCond .eq 19, 3) := by decide +kernel
theorem dX6_hasMinus_7 : decode cX6_hasMinus 7 = .ok (.dconst 1, 1) := by decide +kernel
theorem dX6_hasMinus_8 : decode cX6_hasMinus 8 = .ok (.dload_n 0, 1) := by decide +kernel
theorem dX6_hasMinus_9 : decode cX6_hasMinus 9 = .ok (.ddiv, 1) := by decide +kernel
theorem dX6_hasMinus_10 : decode cX6_hasMinus 10 = .ok (.dconst 0, 1) := by decide +kernel
theorem dX6_hasMinus_11 : decode cX6_hasMinus 11 = .ok (.dcmp .g, 1) := by decide +kernel
theorem dX6_hasMinus_12 : decode cX6_hasMinus 12 = .ok (.ifCond .ge 7, 3) := by decide +kernel
theorem dX6_hasMinus_15 : decode cX6_hasMinus 15 = .ok (.iconst 1, 1) := by decide +kernel
theorem dX6_hasMinus_16 : decode cX6_hasMinus 16 = .ok (.goto 18, 3) := by decide +kernel
theorem dX6_hasMinus_19 : decode cX6_hasMinus 19 = .ok (.iconst 0, 1) := by decide +kernel
theorem dX6_hasMinus_20 : decode cX6_hasMinus 20 = .ok (.goto 14, 3) := by decide +kernel
theorem dX6_hasMinus_23 : decode cX6_hasMinus 23 = .ok (.dload_n 0, 1) := by decide +kernel
theorem dX6_hasMinus_24 : decode cX6_hasMinus 24 = .ok (.dconst 0, 1) := by decide +kernel
theorem dX6_hasMinus_25 : decode cX6_hasMinus 25 = .ok (.dcmp .g, 1) := by decide +kernel
theorem dX6_hasMinus_26 : decode cX6_hasMinus 26 = .ok (.ifCond .ge 7, 3) := by decide +kernel
theorem dX6_hasMinus_29 : decode cX6_hasMinus 29 = .ok (.iconst 1, 1) := by decide +kernel
theorem dX6_hasMinus_30 : decode cX6_hasMinus 30 = .ok (.goto 4, 3) := by decide +kernel
theorem dX6_hasMinus_33 : decode cX6_hasMinus 33 = .ok (.iconst 0, 1) := by decide +kernel
theorem dX6_hasMinus_34 : decode cX6_hasMinus 34 = .ok (.ireturn, 1) := by decide +kernel
theorem dX6_zero_0 : decode cX6_zero 0 = .ok (.iload_n 0, 1) := by decide +kernel
theorem dX6_zero_1 : decode cX6_zero 1 = .ok (.ifCond .eq 9, 3) := by decide +kernel
theorem dX6_zero_4 : decode cX6_zero 4 = .ok (.ldc2_w 65, 3) := by decide +kernel
theorem dX6_zero_7 : decode cX6_zero 7 = .ok (.goto 4, 3) := by decide +kernel
theorem dX6_zero_10 : decode cX6_zero 10 = .ok (.dconst 0, 1) := by decide +kernel
theorem dX6_zero_11 : decode cX6_zero 11 = .ok (.dreturn, 1) := by decide +kernel
theorem dX6_brought_0 : decode cX6_brought 0 = .ok (.iload_n 2, 1) := by decide +kernel
theorem dX6_brought_1 : decode cX6_brought 1 = .ok (.ifCond .eq 9, 3) := by decide +kernel
theorem dX6_brought_4 : decode cX6_brought 4 = .ok (.dload_n 0, 1) := by decide +kernel
theorem dX6_brought_5 : decode cX6_brought 5 = .ok (.d2f, 1) := by decide +kernel
theorem dX6_brought_6 : decode cX6_brought 6 = .ok (.f2d, 1) := by decide +kernel
theorem dX6_brought_7 : decode cX6_brought 7 = .ok (.goto 4, 3) := by decide +kernel
theorem dX6_brought_10 : decode cX6_brought 10 = .ok (.dload_n 0, 1) := by decide +kernel
theorem dX6_brought_11 : decode cX6_brought 11 = .ok (.dreturn, 1) := by decide +kernel
theorem dX6_isLower_0 : decode cX6_isLower 0 = .ok (.dload_n 0, 1) := by decide +kernel
theorem dX6_isLower_1 : decode cX6_isLower 1 = .ok (.dload_n 2, 1) := by decide +kernel
theorem dX6_isLower_2 : decode cX6_isLower 2 = .ok (.dcmp .g, 1) := by decide +kernel
theorem dX6_isLower_3 : decode cX6_isLower 3 = .ok (.ifCond .lt 31, 3) := by decide +kernel
theorem dX6_isLower_6 : decode cX6_isLower 6 = .ok (.dload_n 0, 1) := by decide +kernel
theorem dX6_isLower_7 : decode cX6_isLower 7 = .ok (.invokestatic 61, 3) := by decide +kernel
theorem dX6_isLower_10 : decode cX6_isLower 10 = .ok (.ifCond .eq 28, 3) := by decide +kernel
theorem dX6_isLower_13 : decode cX6_isLower 13 = .ok (.dload_n 2, 1) := by decide +kernel
theorem dX6_isLower_14 : decode cX6_isLower 14 = .ok (.invokestatic 61, 3) := by decide +kernel
theorem dX6_isLower_17 : decode cX6_isLower 17 = .ok (.ifCond .eq 21, 3) := by decide +kernel
theorem dX6_isLower_20 : decode cX6_isLower 20 = .ok (.dload_n 0, 1) := by decide +kernel
theorem dX6_isLower_21 : decode cX6_isLower 21 = .ok (.invokestatic 67, 3) := by decide +kernel
theorem dX6_isLower_24 : decode cX6_isLower 24 = .ok (.ifCond .eq 14, 3) := by decide +kernel
theorem dX6_isLower_27 : decode cX6_isLower 27 = .ok (.dload_n 2, 1) := by decide +kernel
theorem dX6_isLower_28 : decode cX6_isLower 28 = .ok (.invokestatic 67, 3) := by decide +kernel
theorem dX6_isLower_31 : decode cX6_isLower 31 = .ok (.ifCond .ne 7, 3) := by decide +kernel
theorem dX6_isLower_34 : decode cX6_isLower 34 = .ok (.iconst 1, 1) := by decide +kernel
theorem dX6_isLower_35 : decode cX6_isLower 35 = .ok (.goto 4, 3) := by decide +kernel
theorem dX6_isLower_38 : decode cX6_isLower 38 = .ok (.iconst 0, 1) := by decide +kernel
theorem dX6_isLower_39 : decode cX6_isLower 39 = .ok (.ireturn, 1) := by decide +kernel
theorem dX6_isSo_0 : decode cX6_isSo 0 = .ok (.iload_n 0, 1) := by decide +kernel
theorem dX6_isSo_1 : decode cX6_isSo 1 = .ok (.bipush 6, 2) := by decide +kernel
theorem dX6_isSo_3 : decode cX6_isSo 3 = .ok (.irem, 1) := by decide +kernel
theorem dX6_isSo_4 : decode cX6_isSo 4 = .ok (.istore 7, 2) := by decide +kernel
theorem dX6_isSo_6 : decode cX6_isSo 6 = .ok (.iload_n 3, 1) := by decide +kernel
theorem dX6_isSo_7 : decode cX6_isSo 7 = .ok (.ifCond .ne 8, 3) := by decide +kernel
theorem dX6_isSo_10 : decode cX6_isSo 10 = .ok (.iload 6, 2) := by decide +kernel
theorem dX6_isSo_12 : decode cX6_isSo 12 = .ok (.ifCond .eq 19, 3) := by decide +kernel
theorem dX6_isSo_15 : decode cX6_isSo 15 = .ok (.iload 7, 2) := by decide +kernel
theorem dX6_isSo_17 : decode cX6_isSo 17 = .ok (.iconst 5, 1) := by decide +kernel
theorem dX6_isSo_18 : decode cX6_isSo 18 = .ok (.if_icmp .ne 7, 3) := by decide +kernel
theorem dX6_isSo_21 : decode cX6_isSo 21 = .ok (.iconst 1, 1) := by decide +kernel
theorem dX6_isSo_22 : decode cX6_isSo 22 = .ok (.goto 4, 3) := by decide +kernel
theorem dX6_isSo_25 : decode cX6_isSo 25 = .ok (.iconst 0, 1) := by decide +kernel
theorem dX6_isSo_26 : decode cX6_isSo 26 = .ok (.istore 8, 2) := by decide +kernel
theorem dX6_isSo_28 : decode cX6_isSo 28 = .ok (.goto 121, 3) := by decide +kernel
theorem dX6_isSo_31 : decode cX6_isSo 31 = .ok (.iload 7, 2) := by decide +kernel
theorem dX6_isSo_33 : decode cX6_isSo 33 = .ok (.ifCond .ne 18, 3) := by decide +kernel
theorem dX6_isSo_36 : decode cX6_isSo 36 = .ok (.dload_n 1, 1) := by decide +kernel
theorem dX6_isSo_37 : decode cX6_isSo 37 = .ok (.dload 4, 2) := by decide +kernel
theorem dX6_isSo_39 : decode cX6_isSo 39 = .ok (.dcmp .g, 1) := by decide +kernel
theorem dX6_isSo_40 : decode cX6_isSo 40 = .ok (.ifCond .ge 7, 3) := by decide +kernel
theorem dX6_isSo_43 : decode cX6_isSo 43 = .ok (.iconst 1, 1) := by decide +kernel
theorem dX6_isSo_44 : decode cX6_isSo 44 = .ok (.goto 103, 3) := by decide +kernel
theorem dX6_isSo_47 : decode cX6_isSo 47 = .ok (.iconst 0, 1) := by decide +kernel
theorem dX6_isSo_48 : decode cX6_isSo 48 = .ok (.goto 99, 3) := by decide +kernel
theorem dX6_isSo_51 : decode cX6_isSo 51 = .ok (.iload 7, 2) := by decide +kernel
theorem dX6_isSo_53 : decode cX6_isSo 53 = .ok (.iconst 1, 1) := by decide +kernel
theorem dX6_isSo_54 : decode cX6_isSo 54 = .ok (.if_icmp .ne 18, 3) := by decide +kernel
theorem dX6_isSo_57 : decode cX6_isSo 57 = .ok (.dload_n 1, 1) := by decide +kernel
theorem dX6_isSo_58 : decode cX6_isSo 58 = .ok (.dload 4, 2) := by decide +kernel
theorem dX6_isSo_60 : decode cX6_isSo 60 = .ok (.dcmp .g, 1) := by decide +kernel
theorem dX6_isSo_61 : decode cX6_isSo 61 = .ok (.ifCond .gt 7, 3) := by decide +kernel
theorem dX6_isSo_64 : decode cX6_isSo 64 = .ok (.iconst 1, 1) := by decide +kernel
theorem dX6_isSo_65 : decode cX6_isSo 65 = .ok (.goto 82, 3) := by decide +kernel
theorem dX6_isSo_68 : decode cX6_isSo 68 = .ok (.iconst 0, 1) := by decide +kernel
theorem dX6_isSo_69 : decode cX6_isSo 69 = .ok (.goto 78, 3) := by decide +kernel
theorem dX6_isSo_72 : decode cX6_isSo 72 = .ok (.iload 7, 2) := by decide +kernel
theorem dX6_isSo_74 : decode cX6_isSo 74 = .ok (.iconst 2, 1) := by decide +kernel
theorem dX6_isSo_75 : decode cX6_isSo 75 = .ok (.if_icmp .ne 18, 3) := by decide +kernel
theorem dX6_isSo_78 : decode cX6_isSo 78 = .ok (.dload_n 1, 1) := by decide +kernel
theorem dX6_isSo_79 : decode cX6_isSo 79 = .ok (.dload 4, 2) := by decide +kernel
theorem dX6_isSo_81 : decode cX6_isSo 81 = .ok (.dcmp .l, 1) := by decide +kernel
theorem dX6_isSo_82 : decode cX6_isSo 82 = .ok (.ifCond .le 7, 3) := by decide +kernel
theorem dX6_isSo_85 : decode cX6_isSo 85 = .ok (.iconst 1, 1) := by decide +kernel
theorem dX6_isSo_86 : decode cX6_isSo 86 = .ok (.goto 61, 3) := by decide +kernel
theorem dX6_isSo_89 : decode cX6_isSo 89 = .ok (.iconst 0, 1) := by decide +kernel
theorem dX6_isSo_90 : decode cX6_isSo 90 = .ok (.goto 57, 3) := by decide +kernel
theorem dX6_isSo_93 : decode cX6_isSo 93 = .ok (.iload 7, 2) := by decide +kernel
theorem dX6_isSo_95 : decode cX6_isSo 95 = .ok (.iconst 3, 1) := by decide +kernel
theorem dX6_isSo_96 : decode cX6_isSo 96 = .ok (.if_icmp .ne 18, 3) := by decide +kernel
theorem dX6_isSo_99 : decode cX6_isSo 99 = .ok (.dload_n 1, 1) := by decide +kernel
theorem dX6_isSo_100 : decode cX6_isSo 100 = .ok (.dload 4, 2) := by decide +kernel
theorem dX6_isSo_102 : decode cX6_isSo 102 = .ok (.dcmp .l, 1) := by decide +kernel
theorem dX6_isSo_103 : decode cX6_isSo 103 = .ok (.ifCond .lt 7, 3) := by decide +kernel
theorem dX6_isSo_106 : decode cX6_isSo 106 = .ok (.iconst 1, 1) := by decide +kernel
theorem dX6_isSo_107 : decode cX6_isSo 107 = .ok (.goto 40, 3) := by decide +kernel
theorem dX6_isSo_110 : decode cX6_isSo 110 = .ok (.iconst 0, 1) := by decide +kernel
theorem dX6_isSo_111 : decode cX6_isSo 111 = .ok (.goto 36, 3) := by decide +kernel
theorem dX6_isSo_114 : decode cX6_isSo 114 = .ok (.iload 7, 2) := by decide +kernel
theorem dX6_isSo_116 : decode cX6_isSo 116 = .ok (.iconst 4, 1) := by decide +kernel
theorem dX6_isSo_117 : decode cX6_isSo 117 = .ok (.if_icmp .ne 18, 3) := by decide +kernel
theorem dX6_isSo_120 : decode cX6_isSo 120 = .ok (.dload_n 1, 1) := by decide +kernel
theorem dX6_isSo_121 : decode cX6_isSo 121 = .ok (.dload 4, 2) := by decide +kernel
theorem dX6_isSo_123 : decode cX6_isSo 123 = .ok (.dcmp .l, 1) := by decide +kernel
theorem dX6_isSo_124 : decode cX6_isSo 124 = .ok (.ifCond .ne 7, 3) := by decide +kernel
theorem dX6_isSo_127 : decode cX6_isSo 127 = .ok (.iconst 1, 1) := by decide +kernel
theorem dX6_isSo_128 : decode cX6_isSo 128 = .ok (.goto 19, 3) := by decide +kernel
theorem dX6_isSo_131 : decode cX6_isSo 131 = .ok (.iconst 0, 1) := by decide +kernel
theorem dX6_isSo_132 : decode cX6_isSo 132 = .ok (.goto 15, 3) := by decide +kernel
theorem dX6_isSo_135 : decode cX6_isSo 135 = .ok (.dload_n 1, 1) := by decide +kernel
theorem dX6_isSo_136 : decode cX6_isSo 136 = .ok (.dload 4, 2) := by decide +kernel
theorem dX6_isSo_138 : decode cX6_isSo 138 = .ok (.dcmp .l, 1) := by decide +kernel
theorem dX6_isSo_139 : decode cX6_isSo 139 = .ok (.ifCond .eq 7, 3) := by decide +kernel
theorem dX6_isSo_142 : decode cX6_isSo 142 = .ok (.iconst 1, 1) := by decide +kernel
theorem dX6_isSo_143 : decode cX6_isSo 143 = .ok (.goto 4, 3) := by decide +kernel
theorem dX6_isSo_146 : decode cX6_isSo 146 = .ok (.iconst 0, 1) := by decide +kernel
theorem dX6_isSo_147 : decode cX6_isSo 147 = .ok (.istore 8, 2) := by decide +kernel
theorem dX6_isSo_149 : decode cX6_isSo 149 = .ok (.iload_n 0, 1) := by decide +kernel
theorem dX6_isSo_150 : decode cX6_isSo 150 = .ok (.bipush 6, 2) := by decide +kernel
theorem dX6_isSo_152 : decode cX6_isSo 152 = .ok (.if_icmp .ge 8, 3) := by decide +kernel
theorem dX6_isSo_155 : decode cX6_isSo 155 = .ok (.iload 8, 2) := by decide +kernel
theorem dX6_isSo_157 : decode cX6_isSo 157 = .ok (.goto 13, 3) := by decide +kernel
theorem dX6_isSo_160 : decode cX6_isSo 160 = .ok (.iload 8, 2) := by decide +kernel
theorem dX6_isSo_162 : decode cX6_isSo 162 = .ok (.ifCond .ne 7, 3) := by decide +kernel
theorem dX6_isSo_165 : decode cX6_isSo 165 = .ok (.iconst 1, 1) := by decide +kernel
theorem dX6_isSo_166 : decode cX6_isSo 166 = .ok (.goto 4, 3) := by decide +kernel
theorem dX6_isSo_169 : decode cX6_isSo 169 = .ok (.iconst 0, 1) := by decide +kernel
theorem dX6_isSo_170 : decode cX6_isSo 170 = .ok (.ireturn, 1) := by decide +kernel
theorem dX6_whole_0 : decode cX6_whole 0 = .ok (.dload_n 0, 1) := by decide +kernel
theorem dX6_whole_1 : decode cX6_whole 1 = .ok (.ldc2_w 70, 3) := by decide +kernel
theorem dX6_whole_4 : decode cX6_whole 4 = .ok (.dcmp .l, 1) := by decide +kernel
theorem dX6_whole_5 : decode cX6_whole 5 = .ok (.ifCond .ge 11, 3) := by decide +kernel
theorem dX6_whole_8 : decode cX6_whole 8 = .ok (.dload_n 0, 1) := by decide +kernel
theorem dX6_whole_9 : decode cX6_whole 9 = .ok (.ldc2_w 72, 3) := by decide +kernel
theorem dX6_whole_12 : decode cX6_whole 12 = .ok (.dcmp .g, 1) := by decide +kernel
theorem dX6_whole_13 : decode cX6_whole 13 = .ok (.ifCond .gt 5, 3) := by decide +kernel
theorem dX6_whole_16 : decode cX6_whole 16 = .ok (.dload_n 0, 1) := by decide +kernel
theorem dX6_whole_17 : decode cX6_whole 17 = .ok (.dreturn, 1) := by decide +kernel
theorem dX6_whole_18 : decode cX6_whole 18 = .ok (.dload_n 0, 1) := by decide +kernel
theorem dX6_whole_19 : decode cX6_whole 19 = .ok (.d2l, 1) := by decide +kernel
theorem dX6_whole_20 : decode cX6_whole 20 = .ok (.lstore_n 3, 1) := by decide +kernel
theorem dX6_whole_21 : decode cX6_whole 21 = .ok (.dload_n 0, 1) := by decide +kernel
theorem dX6_whole_22 : decode cX6_whole 22 = .ok (.lload_n 3, 1) := by decide +kernel
theorem dX6_whole_23 : decode cX6_whole 23 = .ok (.l2d, 1) := by decide +kernel
theorem dX6_whole_24 : decode cX6_whole 24 = .ok (.dsub, 1) := by decide +kernel
theorem dX6_whole_25 : decode cX6_whole 25 = .ok (.dstore 5, 2) := by decide +kernel
theorem dX6_whole_27 : decode cX6_whole 27 = .ok (.iload_n 2, 1) := by decide +kernel
theorem dX6_whole_28 : decode cX6_whole 28 = .ok (.ifCond .ne 21, 3) := by decide +kernel
theorem dX6_whole_31 : decode cX6_whole 31 = .ok (.lload_n 3, 1) := by decide +kernel
theorem dX6_whole_32 : decode cX6_whole 32 = .ok (.dload 5, 2) := by decide +kernel
theorem dX6_whole_34 : decode cX6_whole 34 = .ok (.dconst 0, 1) := by decide +kernel
theorem dX6_whole_35 : decode cX6_whole 35 = .ok (.dcmp .g, 1) := by decide +kernel
theorem dX6_whole_36 : decode cX6_whole 36 = .ok (.ifCond .ge 7, 3) := by decide +kernel
theorem dX6_whole_39 : decode cX6_whole 39 = .ok (.lconst 1, 1) := by decide +kernel
theorem dX6_whole_40 : decode cX6_whole 40 = .ok (.goto 4, 3) := by decide +kernel
theorem dX6_whole_43 : decode cX6_whole 43 = .ok (.lconst 0, 1) := by decide +kernel
theorem dX6_whole_44 : decode cX6_whole 44 = .ok (.lsub, 1) := by decide +kernel
theorem dX6_whole_45 : decode cX6_whole 45 = .ok (.lstore_n 3, 1) := by decide +kernel
theorem dX6_whole_46 : decode cX6_whole 46 = .ok (.goto 101, 3) := by decide +kernel
theorem dX6_whole_49 : decode cX6_whole 49 = .ok (.iload_n 2, 1) := by decide +kernel
theorem dX6_whole_50 : decode cX6_whole 50 = .ok (.iconst 1, 1) := by decide +kernel
theorem dX6_whole_51 : decode cX6_whole 51 = .ok (.if_icmp .ne 21, 3) := by decide +kernel
theorem dX6_whole_54 : decode cX6_whole 54 = .ok (.lload_n 3, 1) := by decide +kernel
theorem dX6_whole_55 : decode cX6_whole 55 = .ok (.dload 5, 2) := by decide +kernel
theorem dX6_whole_57 : decode cX6_whole 57 = .ok (.dconst 0, 1) := by decide +kernel
theorem dX6_whole_58 : decode cX6_whole 58 = .ok (.dcmp .l, 1) := by decide +kernel
theorem dX6_whole_59 : decode cX6_whole 59 = .ok (.ifCond .le 7, 3) := by decide +kernel
theorem dX6_whole_62 : decode cX6_whole 62 = .ok (.lconst 1, 1) := by decide +kernel
theorem dX6_whole_63 : decode cX6_whole 63 = .ok (.goto 4, 3) := by decide +kernel
theorem dX6_whole_66 : decode cX6_whole 66 = .ok (.lconst 0, 1) := by decide +kernel
theorem dX6_whole_67 : decode cX6_whole 67 = .ok (.ladd, 1) := by decide +kernel
theorem dX6_whole_68 : decode cX6_whole 68 = .ok (.lstore_n 3, 1) := by decide +kernel
theorem dX6_whole_69 : decode cX6_whole 69 = .ok (.goto 78, 3) := by decide +kernel
theorem dX6_whole_72 : decode cX6_whole 72 = .ok (.lload_n 3, 1) := by decide +kernel
theorem dX6_whole_73 : decode cX6_whole 73 = .ok (.lconst 1, 1) := by decide +kernel
theorem dX6_whole_74 : decode cX6_whole 74 = .ok (.land, 1) := by decide +kernel
theorem dX6_whole_75 : decode cX6_whole 75 = .ok (.lconst 1, 1) := by decide +kernel
theorem dX6_whole_76 : decode cX6_whole 76 = .ok (.lcmp, 1) := by decide +kernel
theorem dX6_whole_77 : decode cX6_whole 77 = .ok (.ifCond .ne 7, 3) := by decide +kernel
theorem dX6_whole_80 : decode cX6_whole 80 = .ok (.iconst 1, 1) := by decide +kernel
theorem dX6_whole_81 : decode cX6_whole 81 = .ok (.goto 4, 3) := by decide +kernel
theorem dX6_whole_84 : decode cX6_whole 84 = .ok (.iconst 0, 1) := by decide +kernel
theorem dX6_whole_85 : decode cX6_whole 85 = .ok (.istore 7, 2) := by decide +kernel
theorem dX6_whole_87 : decode cX6_whole 87 = .ok (.lload_n 3, 1) := by decide +kernel
theorem dX6_whole_88 : decode cX6_whole 88 = .ok (.dload 5, 2) := by decide +kernel
theorem dX6_whole_90 : decode cX6_whole 90 = .ok (.ldc2_w 74, 3) := by decide +kernel
theorem dX6_whole_93 : decode cX6_whole 93 = .ok (.dcmp .l, 1) := by decide +kernel
theorem dX6_whole_94 : decode cX6_whole 94 = .ok (.ifCond .gt 17, 3) := by decide +kernel
theorem dX6_whole_97 : decode cX6_whole 97 = .ok (.dload 5, 2) := by decide +kernel
theorem dX6_whole_99 : decode cX6_whole 99 = .ok (.ldc2_w 74, 3) := by decide +kernel
theorem dX6_whole_102 : decode cX6_whole 102 = .ok (.dcmp .l, 1) := by decide +kernel
theorem dX6_whole_103 : decode cX6_whole 103 = .ok (.ifCond .ne 12, 3) := by decide +kernel
theorem dX6_whole_106 : decode cX6_whole 106 = .ok (.iload 7, 2) := by decide +kernel
theorem dX6_whole_108 : decode cX6_whole 108 = .ok (.ifCond .eq 7, 3) := by decide +kernel
theorem dX6_whole_111 : decode cX6_whole 111 = .ok (.lconst 1, 1) := by decide +kernel
theorem dX6_whole_112 : decode cX6_whole 112 = .ok (.goto 33, 3) := by decide +kernel
theorem dX6_whole_115 : decode cX6_whole 115 = .ok (.dload 5, 2) := by decide +kernel
theorem dX6_whole_117 : decode cX6_whole 117 = .ok (.ldc2_w 76, 3) := by decide +kernel
theorem dX6_whole_120 : decode cX6_whole 120 = .ok (.dcmp .g, 1) := by decide +kernel
theorem dX6_whole_121 : decode cX6_whole 121 = .ok (.ifCond .lt 17, 3) := by decide +kernel
theorem dX6_whole_124 : decode cX6_whole 124 = .ok (.dload 5, 2) := by decide +kernel
theorem dX6_whole_126 : decode cX6_whole 126 = .ok (.ldc2_w 76, 3) := by decide +kernel
theorem dX6_whole_129 : decode cX6_whole 129 = .ok (.dcmp .l, 1) := by decide +kernel
theorem dX6_whole_130 : decode cX6_whole 130 = .ok (.ifCond .ne 14, 3) := by decide +kernel
theorem dX6_whole_133 : decode cX6_whole 133 = .ok (.iload 7, 2) := by decide +kernel
theorem dX6_whole_135 : decode cX6_whole 135 = .ok (.ifCond .eq 9, 3) := by decide +kernel
theorem dX6_whole_138 : decode cX6_whole 138 = .ok (.ldc2_w 78, 3) := by decide +kernel
theorem dX6_whole_141 : decode cX6_whole 141 = .ok (.goto 4, 3) := by decide +kernel
theorem dX6_whole_144 : decode cX6_whole 144 = .ok (.lconst 0, 1) := by decide +kernel
theorem dX6_whole_145 : decode cX6_whole 145 = .ok (.ladd, 1) := by decide +kernel
theorem dX6_whole_146 : decode cX6_whole 146 = .ok (.lstore_n 3, 1) := by decide +kernel
theorem dX6_whole_147 : decode cX6_whole 147 = .ok (.lload_n 3, 1) := by decide +kernel
theorem dX6_whole_148 : decode cX6_whole 148 = .ok (.lconst 0, 1) := by decide +kernel
theorem dX6_whole_149 : decode cX6_whole 149 = .ok (.lcmp, 1) := by decide +kernel
theorem dX6_whole_150 : decode cX6_whole 150 = .ok (.ifCond .ne 13, 3) := by decide +kernel
theorem dX6_whole_153 : decode cX6_whole 153 = .ok (.dload_n 0, 1) := by decide +kernel
theorem dX6_whole_154 : decode cX6_whole 154 = .ok (.invokestatic 67, 3) := by decide +kernel
theorem dX6_whole_157 : decode cX6_whole 157 = .ok (.invokestatic 80, 3) := by decide +kernel
theorem dX6_whole_160 : decode cX6_whole 160 = .ok (.goto 5, 3) := by decide +kernel
theorem dX6_whole_163 : decode cX6_whole 163 = .ok (.lload_n 3, 1) := by decide +kernel
theorem dX6_whole_164 : decode cX6_whole 164 = .ok (.l2d, 1) := by decide +kernel
theorem dX6_whole_165 : decode cX6_whole 165 = .ok (.dreturn, 1) := by decide +kernel
theorem dX6_sum_0 : decode cX6_sum 0 = .ok (.iload 4, 2) := by decide +kernel
theorem dX6_sum_2 : decode cX6_sum 2 = .ok (.ifCond .eq 12, 3) := by decide +kernel
theorem dX6_sum_5 : decode cX6_sum 5 = .ok (.dload_n 0, 1) := by decide +kernel
theorem dX6_sum_6 : decode cX6_sum 6 = .ok (.d2f, 1) := by decide +kernel
theorem dX6_sum_7 : decode cX6_sum 7 = .ok (.dload_n 2, 1) := by decide +kernel
theorem dX6_sum_8 : decode cX6_sum 8 = .ok (.d2f, 1) := by decide +kernel
theorem dX6_sum_9 : decode cX6_sum 9 = .ok (.fadd, 1) := by decide +kernel
theorem dX6_sum_10 : decode cX6_sum 10 = .ok (.f2d, 1) := by decide +kernel
theorem dX6_sum_11 : decode cX6_sum 11 = .ok (.goto 6, 3) := by decide +kernel
theorem dX6_sum_14 : decode cX6_sum 14 = .ok (.dload_n 0, 1) := by decide +kernel
theorem dX6_sum_15 : decode cX6_sum 15 = .ok (.dload_n 2, 1) := by decide +kernel
theorem dX6_sum_16 : decode cX6_sum 16 = .ok (.dadd, 1) := by decide +kernel
theorem dX6_sum_17 : decode cX6_sum 17 = .ok (.dreturn, 1) := by decide +kernel
theorem dX6_product_0 : decode cX6_product 0 = .ok (.iload 4, 2) := by decide +kernel
theorem dX6_product_2 : decode cX6_product 2 = .ok (.ifCond .eq 12, 3) := by decide +kernel
theorem dX6_product_5 : decode cX6_product 5 = .ok (.dload_n 0, 1) := by decide +kernel
theorem dX6_product_6 : decode cX6_product 6 = .ok (.d2f, 1) := by decide +kernel
theorem dX6_product_7 : decode cX6_product 7 = .ok (.dload_n 2, 1) := by decide +kernel
theorem dX6_product_8 : decode cX6_product 8 = .ok (.d2f, 1) := by decide +kernel
theorem dX6_product_9 : decode cX6_product 9 = .ok (.fmul, 1) := by decide +kernel
theorem dX6_product_10 : decode cX6_product 10 = .ok (.f2d, 1) := by decide +kernel
theorem dX6_product_11 : decode cX6_product 11 = .ok (.goto 6, 3) := by decide +kernel
theorem dX6_product_14 : decode cX6_product 14 = .ok (.dload_n 0, 1) := by decide +kernel
theorem dX6_product_15 : decode cX6_product 15 = .ok (.dload_n 2, 1) := by decide +kernel
theorem dX6_product_16 : decode cX6_product 16 = .ok (.dmul, 1) := by decide +kernel
theorem dX6_product_17 : decode cX6_product 17 = .ok (.dreturn, 1) := by decide +kernel
theorem dX6_quotient_0 : decode cX6_quotient 0 = .ok (.iload 4, 2) := by decide +kernel
theorem dX6_quotient_2 : decode cX6_quotient 2 = .ok (.ifCond .eq 12, 3) := by decide +kernel
theorem dX6_quotient_5 : decode cX6_quotient 5 = .ok (.dload_n 0, 1) := by decide +kernel
theorem dX6_quotient_6 : decode cX6_quotient 6 = .ok (.d2f, 1) := by decide +kernel
theorem dX6_quotient_7 : decode cX6_quotient 7 = .ok (.dload_n 2, 1) := by decide +kernel
theorem dX6_quotient_8 : decode cX6_quotient 8 = .ok (.d2f, 1) := by decide +kernel
theorem dX6_quotient_9 : decode cX6_quotient 9 = .ok (.fdiv, 1) := by decide +kernel
theorem dX6_quotient_10 : decode cX6_quotient 10 = .ok (.f2d, 1) := by decide +kernel
theorem dX6_quotient_11 : decode cX6_quotient 11 = .ok (.goto 6, 3) := by decide +kernel
theorem dX6_quotient_14 : decode cX6_quotient 14 = .ok (.dload_n 0, 1) := by decide +kernel
theorem dX6_quotient_15 : decode cX6_quotient 15 = .ok (.dload_n 2, 1) := by decide +kernel
theorem dX6_quotient_16 : decode cX6_quotient 16 = .ok (.ddiv, 1) := by decide +kernel
theorem dX6_quotient_17 : decode cX6_quotient 17 = .ok (.dreturn, 1) := by decide +kernel
theorem dX6_power_0 : decode cX6_power 0 = .ok (.iload_n 0, 1) := by decide +kernel
theorem dX6_power_1 : decode cX6_power 1 = .ok (.i2d, 1) := by decide +kernel
theorem dX6_power_2 : decode cX6_power 2 = .ok (.dstore_n 2, 1) := by decide +kernel
theorem dX6_power_3 : decode cX6_power 3 = .ok (.iconst 0, 1) := by decide +kernel
theorem dX6_power_4 : decode cX6_power 4 = .ok (.istore 4, 2) := by decide +kernel
theorem dX6_power_6 : decode cX6_power 6 = .ok (.iload 4, 2) := by decide +kernel
theorem dX6_power_8 : decode cX6_power 8 = .ok (.iload_n 1, 1) := by decide +kernel
theorem dX6_power_9 : decode cX6_power 9 = .ok (.if_icmp .ge 15, 3) := by decide +kernel
theorem dX6_power_12 : decode cX6_power 12 = .ok (.dload_n 2, 1) := by decide +kernel
theorem dX6_power_13 : decode cX6_power 13 = .ok (.ldc2_w 84, 3) := by decide +kernel
theorem dX6_power_16 : decode cX6_power 16 = .ok (.dmul, 1) := by decide +kernel
theorem dX6_power_17 : decode cX6_power 17 = .ok (.dstore_n 2, 1) := by decide +kernel
theorem dX6_power_18 : decode cX6_power 18 = .ok (.iinc 4 1, 3) := by decide +kernel
theorem dX6_power_21 : decode cX6_power 21 = .ok (.goto (-15), 3) := by decide +kernel
theorem dX6_power_24 : decode cX6_power 24 = .ok (.iconst 0, 1) := by decide +kernel
theorem dX6_power_25 : decode cX6_power 25 = .ok (.istore 4, 2) := by decide +kernel
theorem dX6_power_27 : decode cX6_power 27 = .ok (.iload 4, 2) := by decide +kernel
theorem dX6_power_29 : decode cX6_power 29 = .ok (.iload_n 1, 1) := by decide +kernel
theorem dX6_power_30 : decode cX6_power 30 = .ok (.if_icmp .le 15, 3) := by decide +kernel
theorem dX6_power_33 : decode cX6_power 33 = .ok (.dload_n 2, 1) := by decide +kernel
theorem dX6_power_34 : decode cX6_power 34 = .ok (.ldc2_w 84, 3) := by decide +kernel
theorem dX6_power_37 : decode cX6_power 37 = .ok (.ddiv, 1) := by decide +kernel
theorem dX6_power_38 : decode cX6_power 38 = .ok (.dstore_n 2, 1) := by decide +kernel
theorem dX6_power_39 : decode cX6_power 39 = .ok (.iinc 4 (-1), 3) := by decide +kernel
theorem dX6_power_42 : decode cX6_power 42 = .ok (.goto (-15), 3) := by decide +kernel
theorem dX6_power_45 : decode cX6_power 45 = .ok (.dload_n 2, 1) := by decide +kernel
theorem dX6_power_46 : decode cX6_power 46 = .ok (.dreturn, 1) := by decide +kernel
theorem dX6_gives_0 : decode cX6_gives 0 = .ok (.aload_n 0, 1) := by decide +kernel
theorem dX6_gives_1 : decode cX6_gives 1 = .ok (.dload_n 1, 1) := by decide +kernel
theorem dX6_gives_2 : decode cX6_gives 2 = .ok (.putfield 86, 3) := by decide +kernel
theorem dX6_gives_5 : decode cX6_gives 5 = .ok (.aload_n 0, 1) := by decide +kernel
theorem dX6_gives_6 : decode cX6_gives 6 = .ok (.iconst 0, 1) := by decide +kernel
theorem dX6_gives_7 : decode cX6_gives 7 = .ok (.putfield 90, 3) := by decide +kernel
theorem dX6_gives_10 : decode cX6_gives 10 = .ok (.return_, 1) := by decide +kernel
theorem dX6_givesNothing_0 : decode cX6_givesNothing 0 = .ok (.aload_n 0, 1) := by decide +kernel
theorem dX6_givesNothing_1 : decode cX6_givesNothing 1 = .ok (.dconst 0, 1) := by decide +kernel
theorem dX6_givesNothing_2 : decode cX6_givesNothing 2 = .ok (.putfield 86, 3) := by decide +kernel
theorem dX6_givesNothing_5 : decode cX6_givesNothing 5 = .ok (.aload_n 0, 1) := by decide +kernel
theorem dX6_givesNothing_6 : decode cX6_givesNothing 6 = .ok (.iconst 1, 1) := by decide +kernel
theorem dX6_givesNothing_7 : decode cX6_givesNothing 7 = .ok (.putfield 90, 3) := by decide +kernel
theorem dX6_givesNothing_10 : decode cX6_givesNothing 10 = .ok (.return_, 1) := by decide +kernel
theorem dX6_at_0 : decode cX6_at 0 = .ok (.iload_n 0, 1) := by decide +kernel
theorem dX6_at_1 : decode cX6_at 1 = .ok (.bipush 16, 2) := by decide +kernel
theorem dX6_at_3 : decode cX6_at 3 = .ok (.if_icmp .lt 14, 3) := by decide +kernel
theorem dX6_at_6 : decode cX6_at 6 = .ok (.sipush 192, 3) := by decide +kernel
theorem dX6_at_9 : decode cX6_at 9 = .ok (.iload_n 0, 1) := by decide +kernel
theorem dX6_at_10 : decode cX6_at 10 = .ok (.iadd, 1) := by decide +kernel
theorem dX6_at_11 : decode cX6_at 11 = .ok (.bipush 16, 2) := by decide +kernel
theorem dX6_at_13 : decode cX6_at 13 = .ok (.isub, 1) := by decide +kernel
theorem dX6_at_14 : decode cX6_at 14 = .ok (.goto 9, 3) := by decide +kernel
theorem dX6_at_17 : decode cX6_at 17 = .ok (.bipush 16, 2) := by decide +kernel
theorem dX6_at_19 : decode cX6_at 19 = .ok (.iload_n 0, 1) := by decide +kernel
theorem dX6_at_20 : decode cX6_at 20 = .ok (.imul, 1) := by decide +kernel
theorem dX6_at_21 : decode cX6_at 21 = .ok (.iload_n 1, 1) := by decide +kernel
theorem dX6_at_22 : decode cX6_at 22 = .ok (.iadd, 1) := by decide +kernel
theorem dX6_at_23 : decode cX6_at 23 = .ok (.ireturn, 1) := by decide +kernel
theorem dX6_single_0 : decode cX6_single 0 = .ok (.iload_n 1, 1) := by decide +kernel
theorem dX6_single_1 : decode cX6_single 1 = .ok (.tableswitch 173 0 7 #[47, 55, 75, 87, 99, 111, 141, 157], 47) := by decide +kernel
theorem dX6_single_48 : decode cX6_single 48 = .ok (.aload_n 0, 1) := by decide +kernel
theorem dX6_single_49 : decode cX6_single 49 = .ok (.dload_n 2, 1) := by decide +kernel
theorem dX6_single_50 : decode cX6_single 50 = .ok (.invokevirtual 94, 3) := by decide +kernel
theorem dX6_single_53 : decode cX6_single 53 = .ok (.goto 127, 3) := by decide +kernel
theorem dX6_single_56 : decode cX6_single 56 = .ok (.aload_n 0, 1) := by decide +kernel
theorem dX6_single_57 : decode cX6_single 57 = .ok (.dload_n 2, 1) := by decide +kernel
theorem dX6_single_58 : decode cX6_single 58 = .ok (.invokestatic 67, 3) := by decide +kernel
theorem dX6_single_61 : decode cX6_single 61 = .ok (.ifCond .eq 8, 3) := by decide +kernel
theorem dX6_single_64 : decode cX6_single 64 = .ok (.dload_n 2, 1) := by decide +kernel
theorem dX6_single_65 : decode cX6_single 65 = .ok (.dneg, 1) := by decide +kernel
theorem dX6_single_66 : decode cX6_single 66 = .ok (.goto 4, 3) := by decide +kernel
theorem dX6_single_69 : decode cX6_single 69 = .ok (.dload_n 2, 1) := by decide +kernel
theorem dX6_single_70 : decode cX6_single 70 = .ok (.invokevirtual 94, 3) := by decide +kernel
theorem dX6_single_73 : decode cX6_single 73 = .ok (.goto 107, 3) := by decide +kernel
theorem dX6_single_76 : decode cX6_single 76 = .ok (.aload_n 0, 1) := by decide +kernel
theorem dX6_single_77 : decode cX6_single 77 = .ok (.dload_n 2, 1) := by decide +kernel
theorem dX6_single_78 : decode cX6_single 78 = .ok (.iconst 0, 1) := by decide +kernel
theorem dX6_single_79 : decode cX6_single 79 = .ok (.invokestatic 98, 3) := by decide +kernel
theorem dX6_single_82 : decode cX6_single 82 = .ok (.invokevirtual 94, 3) := by decide +kernel
theorem dX6_single_85 : decode cX6_single 85 = .ok (.goto 95, 3) := by decide +kernel
theorem dX6_single_88 : decode cX6_single 88 = .ok (.aload_n 0, 1) := by decide +kernel
theorem dX6_single_89 : decode cX6_single 89 = .ok (.dload_n 2, 1) := by decide +kernel
theorem dX6_single_90 : decode cX6_single 90 = .ok (.iconst 1, 1) := by decide +kernel
theorem dX6_single_91 : decode cX6_single 91 = .ok (.invokestatic 98, 3) := by decide +kernel
theorem dX6_single_94 : decode cX6_single 94 = .ok (.invokevirtual 94, 3) := by decide +kernel
theorem dX6_single_97 : decode cX6_single 97 = .ok (.goto 83, 3) := by decide +kernel
theorem dX6_single_100 : decode cX6_single 100 = .ok (.aload_n 0, 1) := by decide +kernel
theorem dX6_single_101 : decode cX6_single 101 = .ok (.dload_n 2, 1) := by decide +kernel
theorem dX6_single_102 : decode cX6_single 102 = .ok (.iconst 2, 1) := by decide +kernel
theorem dX6_single_103 : decode cX6_single 103 = .ok (.invokestatic 98, 3) := by decide +kernel
theorem dX6_single_106 : decode cX6_single 106 = .ok (.invokevirtual 94, 3) := by decide +kernel
theorem dX6_single_109 : decode cX6_single 109 = .ok (.goto 71, 3) := by decide +kernel
theorem dX6_single_112 : decode cX6_single 112 = .ok (.aload_n 0, 1) := by decide +kernel
theorem dX6_single_113 : decode cX6_single 113 = .ok (.dload_n 2, 1) := by decide +kernel
theorem dX6_single_114 : decode cX6_single 114 = .ok (.dconst 0, 1) := by decide +kernel
theorem dX6_single_115 : decode cX6_single 115 = .ok (.dcmp .l, 1) := by decide +kernel
theorem dX6_single_116 : decode cX6_single 116 = .ok (.ifCond .le 7, 3) := by decide +kernel
theorem dX6_single_119 : decode cX6_single 119 = .ok (.dconst 1, 1) := by decide +kernel
theorem dX6_single_120 : decode cX6_single 120 = .ok (.goto 16, 3) := by decide +kernel
theorem dX6_single_123 : decode cX6_single 123 = .ok (.dload_n 2, 1) := by decide +kernel
theorem dX6_single_124 : decode cX6_single 124 = .ok (.dconst 0, 1) := by decide +kernel
theorem dX6_single_125 : decode cX6_single 125 = .ok (.dcmp .g, 1) := by decide +kernel
theorem dX6_single_126 : decode cX6_single 126 = .ok (.ifCond .ge 9, 3) := by decide +kernel
theorem dX6_single_129 : decode cX6_single 129 = .ok (.ldc2_w 102, 3) := by decide +kernel
theorem dX6_single_132 : decode cX6_single 132 = .ok (.goto 4, 3) := by decide +kernel
theorem dX6_single_135 : decode cX6_single 135 = .ok (.dload_n 2, 1) := by decide +kernel
theorem dX6_single_136 : decode cX6_single 136 = .ok (.invokevirtual 94, 3) := by decide +kernel
theorem dX6_single_139 : decode cX6_single 139 = .ok (.goto 41, 3) := by decide +kernel
theorem dX6_single_142 : decode cX6_single 142 = .ok (.aload_n 0, 1) := by decide +kernel
theorem dX6_single_143 : decode cX6_single 143 = .ok (.dload_n 2, 1) := by decide +kernel
theorem dX6_single_144 : decode cX6_single 144 = .ok (.ldc2_w 84, 3) := by decide +kernel
theorem dX6_single_147 : decode cX6_single 147 = .ok (.iload 4, 2) := by decide +kernel
theorem dX6_single_149 : decode cX6_single 149 = .ok (.invokestatic 104, 3) := by decide +kernel
theorem dX6_single_152 : decode cX6_single 152 = .ok (.invokevirtual 94, 3) := by decide +kernel
theorem dX6_single_155 : decode cX6_single 155 = .ok (.goto 25, 3) := by decide +kernel
theorem dX6_single_158 : decode cX6_single 158 = .ok (.aload_n 0, 1) := by decide +kernel
theorem dX6_single_159 : decode cX6_single 159 = .ok (.ldc2_w 84, 3) := by decide +kernel
theorem dX6_single_162 : decode cX6_single 162 = .ok (.dload_n 2, 1) := by decide +kernel
theorem dX6_single_163 : decode cX6_single 163 = .ok (.iload 4, 2) := by decide +kernel
theorem dX6_single_165 : decode cX6_single 165 = .ok (.invokestatic 108, 3) := by decide +kernel
theorem dX6_single_168 : decode cX6_single 168 = .ok (.invokevirtual 94, 3) := by decide +kernel
theorem dX6_single_171 : decode cX6_single 171 = .ok (.goto 9, 3) := by decide +kernel
theorem dX6_single_174 : decode cX6_single 174 = .ok (.aload_n 0, 1) := by decide +kernel
theorem dX6_single_175 : decode cX6_single 175 = .ok (.dload_n 2, 1) := by decide +kernel
theorem dX6_single_176 : decode cX6_single 176 = .ok (.dneg, 1) := by decide +kernel
theorem dX6_single_177 : decode cX6_single 177 = .ok (.invokevirtual 94, 3) := by decide +kernel
theorem dX6_single_180 : decode cX6_single 180 = .ok (.return_, 1) := by decide +kernel
theorem dX6_difference_0 : decode cX6_difference 0 = .ok (.dload_n 1, 1) := by decide +kernel
theorem dX6_difference_1 : decode cX6_difference 1 = .ok (.invokestatic 111, 3) := by decide +kernel
theorem dX6_difference_4 : decode cX6_difference 4 = .ok (.ifCond .eq 16, 3) := by decide +kernel
theorem dX6_difference_7 : decode cX6_difference 7 = .ok (.dload_n 1, 1) := by decide +kernel
theorem dX6_difference_8 : decode cX6_difference 8 = .ok (.dload_n 3, 1) := by decide +kernel
theorem dX6_difference_9 : decode cX6_difference 9 = .ok (.dcmp .l, 1) := by decide +kernel
theorem dX6_difference_10 : decode cX6_difference 10 = .ok (.ifCond .ne 10, 3) := by decide +kernel
theorem dX6_difference_13 : decode cX6_difference 13 = .ok (.aload_n 0, 1) := by decide +kernel
theorem dX6_difference_14 : decode cX6_difference 14 = .ok (.invokevirtual 114, 3) := by decide +kernel
theorem dX6_difference_17 : decode cX6_difference 17 = .ok (.goto 15, 3) := by decide +kernel
theorem dX6_difference_20 : decode cX6_difference 20 = .ok (.aload_n 0, 1) := by decide +kernel
theorem dX6_difference_21 : decode cX6_difference 21 = .ok (.dload_n 1, 1) := by decide +kernel
theorem dX6_difference_22 : decode cX6_difference 22 = .ok (.dload_n 3, 1) := by decide +kernel
theorem dX6_difference_23 : decode cX6_difference 23 = .ok (.dneg, 1) := by decide +kernel
theorem dX6_difference_24 : decode cX6_difference 24 = .ok (.iload 5, 2) := by decide +kernel
theorem dX6_difference_26 : decode cX6_difference 26 = .ok (.invokestatic 117, 3) := by decide +kernel
theorem dX6_difference_29 : decode cX6_difference 29 = .ok (.invokevirtual 94, 3) := by decide +kernel
theorem dX6_difference_32 : decode cX6_difference 32 = .ok (.return_, 1) := by decide +kernel
theorem dX6_both_0 : decode cX6_both 0 = .ok (.iload_n 1, 1) := by decide +kernel
theorem dX6_both_1 : decode cX6_both 1 = .ok (.lookupswitch 214 #[(9, 51), (11, 83), (12, 123), (13, 163), (26, 188)], 51) := by decide +kernel
theorem dX6_both_52 : decode cX6_both 52 = .ok (.dload_n 2, 1) := by decide +kernel
theorem dX6_both_53 : decode cX6_both 53 = .ok (.invokestatic 111, 3) := by decide +kernel
theorem dX6_both_56 : decode cX6_both 56 = .ok (.ifCond .eq 22, 3) := by decide +kernel
theorem dX6_both_59 : decode cX6_both 59 = .ok (.dload 4, 2) := by decide +kernel
theorem dX6_both_61 : decode cX6_both 61 = .ok (.invokestatic 111, 3) := by decide +kernel
theorem dX6_both_64 : decode cX6_both 64 = .ok (.ifCond .eq 14, 3) := by decide +kernel
theorem dX6_both_67 : decode cX6_both 67 = .ok (.dload_n 2, 1) := by decide +kernel
theorem dX6_both_68 : decode cX6_both 68 = .ok (.dload 4, 2) := by decide +kernel
theorem dX6_both_70 : decode cX6_both 70 = .ok (.dcmp .l, 1) := by decide +kernel
theorem dX6_both_71 : decode cX6_both 71 = .ok (.ifCond .eq 7, 3) := by decide +kernel
theorem dX6_both_74 : decode cX6_both 74 = .ok (.iconst 1, 1) := by decide +kernel
theorem dX6_both_75 : decode cX6_both 75 = .ok (.goto 4, 3) := by decide +kernel
theorem dX6_both_78 : decode cX6_both 78 = .ok (.iconst 0, 1) := by decide +kernel
theorem dX6_both_79 : decode cX6_both 79 = .ok (.istore 7, 2) := by decide +kernel
theorem dX6_both_81 : decode cX6_both 81 = .ok (.goto 137, 3) := by decide +kernel
theorem dX6_both_84 : decode cX6_both 84 = .ok (.dload_n 2, 1) := by decide +kernel
theorem dX6_both_85 : decode cX6_both 85 = .ok (.invokestatic 61, 3) := by decide +kernel
theorem dX6_both_88 : decode cX6_both 88 = .ok (.ifCond .eq 11, 3) := by decide +kernel
theorem dX6_both_91 : decode cX6_both 91 = .ok (.dload 4, 2) := by decide +kernel
theorem dX6_both_93 : decode cX6_both 93 = .ok (.invokestatic 111, 3) := by decide +kernel
theorem dX6_both_96 : decode cX6_both 96 = .ok (.ifCond .ne 18, 3) := by decide +kernel
theorem dX6_both_99 : decode cX6_both 99 = .ok (.dload_n 2, 1) := by decide +kernel
theorem dX6_both_100 : decode cX6_both 100 = .ok (.invokestatic 111, 3) := by decide +kernel
theorem dX6_both_103 : decode cX6_both 103 = .ok (.ifCond .eq 15, 3) := by decide +kernel
theorem dX6_both_106 : decode cX6_both 106 = .ok (.dload 4, 2) := by decide +kernel
theorem dX6_both_108 : decode cX6_both 108 = .ok (.invokestatic 61, 3) := by decide +kernel
theorem dX6_both_111 : decode cX6_both 111 = .ok (.ifCond .eq 7, 3) := by decide +kernel
theorem dX6_both_114 : decode cX6_both 114 = .ok (.iconst 1, 1) := by decide +kernel
theorem dX6_both_115 : decode cX6_both 115 = .ok (.goto 4, 3) := by decide +kernel
theorem dX6_both_118 : decode cX6_both 118 = .ok (.iconst 0, 1) := by decide +kernel
theorem dX6_both_119 : decode cX6_both 119 = .ok (.istore 7, 2) := by decide +kernel
theorem dX6_both_121 : decode cX6_both 121 = .ok (.goto 97, 3) := by decide +kernel
theorem dX6_both_124 : decode cX6_both 124 = .ok (.dload_n 2, 1) := by decide +kernel
theorem dX6_both_125 : decode cX6_both 125 = .ok (.invokestatic 61, 3) := by decide +kernel
theorem dX6_both_128 : decode cX6_both 128 = .ok (.ifCond .eq 11, 3) := by decide +kernel
theorem dX6_both_131 : decode cX6_both 131 = .ok (.dload 4, 2) := by decide +kernel
theorem dX6_both_133 : decode cX6_both 133 = .ok (.invokestatic 61, 3) := by decide +kernel
theorem dX6_both_136 : decode cX6_both 136 = .ok (.ifCond .ne 18, 3) := by decide +kernel
theorem dX6_both_139 : decode cX6_both 139 = .ok (.dload_n 2, 1) := by decide +kernel
theorem dX6_both_140 : decode cX6_both 140 = .ok (.invokestatic 111, 3) := by decide +kernel
theorem dX6_both_143 : decode cX6_both 143 = .ok (.ifCond .eq 15, 3) := by decide +kernel
theorem dX6_both_146 : decode cX6_both 146 = .ok (.dload 4, 2) := by decide +kernel
theorem dX6_both_148 : decode cX6_both 148 = .ok (.invokestatic 111, 3) := by decide +kernel
theorem dX6_both_151 : decode cX6_both 151 = .ok (.ifCond .eq 7, 3) := by decide +kernel
theorem dX6_both_154 : decode cX6_both 154 = .ok (.iconst 1, 1) := by decide +kernel
theorem dX6_both_155 : decode cX6_both 155 = .ok (.goto 4, 3) := by decide +kernel
theorem dX6_both_158 : decode cX6_both 158 = .ok (.iconst 0, 1) := by decide +kernel
theorem dX6_both_159 : decode cX6_both 159 = .ok (.istore 7, 2) := by decide +kernel
theorem dX6_both_161 : decode cX6_both 161 = .ok (.goto 57, 3) := by decide +kernel
theorem dX6_both_164 : decode cX6_both 164 = .ok (.dload 4, 2) := by decide +kernel
theorem dX6_both_166 : decode cX6_both 166 = .ok (.invokestatic 61, 3) := by decide +kernel
theorem dX6_both_169 : decode cX6_both 169 = .ok (.ifCond .ne 10, 3) := by decide +kernel
theorem dX6_both_172 : decode cX6_both 172 = .ok (.dload_n 2, 1) := by decide +kernel
theorem dX6_both_173 : decode cX6_both 173 = .ok (.invokestatic 111, 3) := by decide +kernel
theorem dX6_both_176 : decode cX6_both 176 = .ok (.ifCond .eq 7, 3) := by decide +kernel
theorem dX6_both_179 : decode cX6_both 179 = .ok (.iconst 1, 1) := by decide +kernel
theorem dX6_both_180 : decode cX6_both 180 = .ok (.goto 4, 3) := by decide +kernel
theorem dX6_both_183 : decode cX6_both 183 = .ok (.iconst 0, 1) := by decide +kernel
theorem dX6_both_184 : decode cX6_both 184 = .ok (.istore 7, 2) := by decide +kernel
theorem dX6_both_186 : decode cX6_both 186 = .ok (.goto 32, 3) := by decide +kernel
theorem dX6_both_189 : decode cX6_both 189 = .ok (.dload 4, 2) := by decide +kernel
theorem dX6_both_191 : decode cX6_both 191 = .ok (.invokestatic 61, 3) := by decide +kernel
theorem dX6_both_194 : decode cX6_both 194 = .ok (.ifCond .ne 11, 3) := by decide +kernel
theorem dX6_both_197 : decode cX6_both 197 = .ok (.dload 4, 2) := by decide +kernel
theorem dX6_both_199 : decode cX6_both 199 = .ok (.invokestatic 111, 3) := by decide +kernel
theorem dX6_both_202 : decode cX6_both 202 = .ok (.ifCond .eq 7, 3) := by decide +kernel
theorem dX6_both_205 : decode cX6_both 205 = .ok (.iconst 1, 1) := by decide +kernel
theorem dX6_both_206 : decode cX6_both 206 = .ok (.goto 4, 3) := by decide +kernel
theorem dX6_both_209 : decode cX6_both 209 = .ok (.iconst 0, 1) := by decide +kernel
theorem dX6_both_210 : decode cX6_both 210 = .ok (.istore 7, 2) := by decide +kernel
theorem dX6_both_212 : decode cX6_both 212 = .ok (.goto 6, 3) := by decide +kernel
theorem dX6_both_215 : decode cX6_both 215 = .ok (.iconst 0, 1) := by decide +kernel
theorem dX6_both_216 : decode cX6_both 216 = .ok (.istore 7, 2) := by decide +kernel
theorem dX6_both_218 : decode cX6_both 218 = .ok (.iload 7, 2) := by decide +kernel
theorem dX6_both_220 : decode cX6_both 220 = .ok (.ifCond .eq 8, 3) := by decide +kernel
theorem dX6_both_223 : decode cX6_both 223 = .ok (.aload_n 0, 1) := by decide +kernel
theorem dX6_both_224 : decode cX6_both 224 = .ok (.invokevirtual 114, 3) := by decide +kernel
theorem dX6_both_227 : decode cX6_both 227 = .ok (.return_, 1) := by decide +kernel
theorem dX6_both_228 : decode cX6_both 228 = .ok (.iload_n 1, 1) := by decide +kernel
theorem dX6_both_229 : decode cX6_both 229 = .ok (.tableswitch 196 9 16 #[47, 62, 74, 89, 104, 127, 149, 171], 47) := by decide +kernel
theorem dX6_both_276 : decode cX6_both 276 = .ok (.aload_n 0, 1) := by decide +kernel
theorem dX6_both_277 : decode cX6_both 277 = .ok (.dload_n 2, 1) := by decide +kernel
theorem dX6_both_278 : decode cX6_both 278 = .ok (.dload 4, 2) := by decide +kernel
theorem dX6_both_280 : decode cX6_both 280 = .ok (.iload 6, 2) := by decide +kernel
theorem dX6_both_282 : decode cX6_both 282 = .ok (.invokestatic 117, 3) := by decide +kernel
theorem dX6_both_285 : decode cX6_both 285 = .ok (.invokevirtual 94, 3) := by decide +kernel
theorem dX6_both_288 : decode cX6_both 288 = .ok (.goto 160, 3) := by decide +kernel
theorem dX6_both_291 : decode cX6_both 291 = .ok (.aload_n 0, 1) := by decide +kernel
theorem dX6_both_292 : decode cX6_both 292 = .ok (.dload_n 2, 1) := by decide +kernel
theorem dX6_both_293 : decode cX6_both 293 = .ok (.dload 4, 2) := by decide +kernel
theorem dX6_both_295 : decode cX6_both 295 = .ok (.iload 6, 2) := by decide +kernel
theorem dX6_both_297 : decode cX6_both 297 = .ok (.invokevirtual 120, 3) := by decide +kernel
theorem dX6_both_300 : decode cX6_both 300 = .ok (.goto 148, 3) := by decide +kernel
theorem dX6_both_303 : decode cX6_both 303 = .ok (.aload_n 0, 1) := by decide +kernel
theorem dX6_both_304 : decode cX6_both 304 = .ok (.dload_n 2, 1) := by decide +kernel
theorem dX6_both_305 : decode cX6_both 305 = .ok (.dload 4, 2) := by decide +kernel
theorem dX6_both_307 : decode cX6_both 307 = .ok (.iload 6, 2) := by decide +kernel
theorem dX6_both_309 : decode cX6_both 309 = .ok (.invokestatic 108, 3) := by decide +kernel
theorem dX6_both_312 : decode cX6_both 312 = .ok (.invokevirtual 94, 3) := by decide +kernel
theorem dX6_both_315 : decode cX6_both 315 = .ok (.goto 133, 3) := by decide +kernel
theorem dX6_both_318 : decode cX6_both 318 = .ok (.aload_n 0, 1) := by decide +kernel
theorem dX6_both_319 : decode cX6_both 319 = .ok (.dload_n 2, 1) := by decide +kernel
theorem dX6_both_320 : decode cX6_both 320 = .ok (.dload 4, 2) := by decide +kernel
theorem dX6_both_322 : decode cX6_both 322 = .ok (.iload 6, 2) := by decide +kernel
theorem dX6_both_324 : decode cX6_both 324 = .ok (.invokestatic 104, 3) := by decide +kernel
theorem dX6_both_327 : decode cX6_both 327 = .ok (.invokevirtual 94, 3) := by decide +kernel
theorem dX6_both_330 : decode cX6_both 330 = .ok (.goto 118, 3) := by decide +kernel
theorem dX6_both_333 : decode cX6_both 333 = .ok (.aload_n 0, 1) := by decide +kernel
theorem dX6_both_334 : decode cX6_both 334 = .ok (.dload 4, 2) := by decide +kernel
theorem dX6_both_336 : decode cX6_both 336 = .ok (.invokestatic 111, 3) := by decide +kernel
theorem dX6_both_339 : decode cX6_both 339 = .ok (.ifCond .eq 7, 3) := by decide +kernel
theorem dX6_both_342 : decode cX6_both 342 = .ok (.dload_n 2, 1) := by decide +kernel
theorem dX6_both_343 : decode cX6_both 343 = .ok (.goto 7, 3) := by decide +kernel
theorem dX6_both_346 : decode cX6_both 346 = .ok (.dload_n 2, 1) := by decide +kernel
theorem dX6_both_347 : decode cX6_both 347 = .ok (.dload 4, 2) := by decide +kernel
theorem dX6_both_349 : decode cX6_both 349 = .ok (.drem, 1) := by decide +kernel
theorem dX6_both_350 : decode cX6_both 350 = .ok (.invokevirtual 94, 3) := by decide +kernel
theorem dX6_both_353 : decode cX6_both 353 = .ok (.goto 95, 3) := by decide +kernel
theorem dX6_both_356 : decode cX6_both 356 = .ok (.aload_n 0, 1) := by decide +kernel
theorem dX6_both_357 : decode cX6_both 357 = .ok (.dload 4, 2) := by decide +kernel
theorem dX6_both_359 : decode cX6_both 359 = .ok (.dload_n 2, 1) := by decide +kernel
theorem dX6_both_360 : decode cX6_both 360 = .ok (.invokestatic 124, 3) := by decide +kernel
theorem dX6_both_363 : decode cX6_both 363 = .ok (.ifCond .eq 8, 3) := by decide +kernel
theorem dX6_both_366 : decode cX6_both 366 = .ok (.dload 4, 2) := by decide +kernel
theorem dX6_both_368 : decode cX6_both 368 = .ok (.goto 4, 3) := by decide +kernel
theorem dX6_both_371 : decode cX6_both 371 = .ok (.dload_n 2, 1) := by decide +kernel
theorem dX6_both_372 : decode cX6_both 372 = .ok (.invokevirtual 94, 3) := by decide +kernel
theorem dX6_both_375 : decode cX6_both 375 = .ok (.goto 73, 3) := by decide +kernel
theorem dX6_both_378 : decode cX6_both 378 = .ok (.aload_n 0, 1) := by decide +kernel
theorem dX6_both_379 : decode cX6_both 379 = .ok (.dload_n 2, 1) := by decide +kernel
theorem dX6_both_380 : decode cX6_both 380 = .ok (.dload 4, 2) := by decide +kernel
theorem dX6_both_382 : decode cX6_both 382 = .ok (.invokestatic 124, 3) := by decide +kernel
theorem dX6_both_385 : decode cX6_both 385 = .ok (.ifCond .eq 8, 3) := by decide +kernel
theorem dX6_both_388 : decode cX6_both 388 = .ok (.dload 4, 2) := by decide +kernel
theorem dX6_both_390 : decode cX6_both 390 = .ok (.goto 4, 3) := by decide +kernel
theorem dX6_both_393 : decode cX6_both 393 = .ok (.dload_n 2, 1) := by decide +kernel
theorem dX6_both_394 : decode cX6_both 394 = .ok (.invokevirtual 94, 3) := by decide +kernel
theorem dX6_both_397 : decode cX6_both 397 = .ok (.goto 51, 3) := by decide +kernel
theorem dX6_both_400 : decode cX6_both 400 = .ok (.aload_n 0, 1) := by decide +kernel
theorem dX6_both_401 : decode cX6_both 401 = .ok (.dload_n 2, 1) := by decide +kernel
theorem dX6_both_402 : decode cX6_both 402 = .ok (.invokestatic 67, 3) := by decide +kernel
theorem dX6_both_405 : decode cX6_both 405 = .ok (.dload 4, 2) := by decide +kernel
theorem dX6_both_407 : decode cX6_both 407 = .ok (.invokestatic 67, 3) := by decide +kernel
theorem dX6_both_410 : decode cX6_both 410 = .ok (.if_icmp .ne 7, 3) := by decide +kernel
theorem dX6_both_413 : decode cX6_both 413 = .ok (.dload_n 2, 1) := by decide +kernel
theorem dX6_both_414 : decode cX6_both 414 = .ok (.goto 5, 3) := by decide +kernel
theorem dX6_both_417 : decode cX6_both 417 = .ok (.dload_n 2, 1) := by decide +kernel
theorem dX6_both_418 : decode cX6_both 418 = .ok (.dneg, 1) := by decide +kernel
theorem dX6_both_419 : decode cX6_both 419 = .ok (.invokevirtual 94, 3) := by decide +kernel
theorem dX6_both_422 : decode cX6_both 422 = .ok (.goto 26, 3) := by decide +kernel
theorem dX6_both_425 : decode cX6_both 425 = .ok (.aload_n 0, 1) := by decide +kernel
theorem dX6_both_426 : decode cX6_both 426 = .ok (.dload_n 2, 1) := by decide +kernel
theorem dX6_both_427 : decode cX6_both 427 = .ok (.dload 4, 2) := by decide +kernel
theorem dX6_both_429 : decode cX6_both 429 = .ok (.iload 6, 2) := by decide +kernel
theorem dX6_both_431 : decode cX6_both 431 = .ok (.invokestatic 104, 3) := by decide +kernel
theorem dX6_both_434 : decode cX6_both 434 = .ok (.iconst 2, 1) := by decide +kernel
theorem dX6_both_435 : decode cX6_both 435 = .ok (.invokestatic 98, 3) := by decide +kernel
theorem dX6_both_438 : decode cX6_both 438 = .ok (.dload 4, 2) := by decide +kernel
theorem dX6_both_440 : decode cX6_both 440 = .ok (.iload 6, 2) := by decide +kernel
theorem dX6_both_442 : decode cX6_both 442 = .ok (.invokestatic 108, 3) := by decide +kernel
theorem dX6_both_445 : decode cX6_both 445 = .ok (.invokevirtual 94, 3) := by decide +kernel
theorem dX6_both_448 : decode cX6_both 448 = .ok (.return_, 1) := by decide +kernel
theorem dX6_x_0 : decode cX6_x 0 = .ok (.aload_n 0, 1) := by decide +kernel
theorem dX6_x_1 : decode cX6_x 1 = .ok (.getfield 26, 3) := by decide +kernel
theorem dX6_x_4 : decode cX6_x 4 = .ok (.aload_n 0, 1) := by decide +kernel
theorem dX6_x_5 : decode cX6_x 5 = .ok (.getfield 22, 3) := by decide +kernel
theorem dX6_x_8 : decode cX6_x 8 = .ok (.iconst 4, 1) := by decide +kernel
theorem dX6_x_9 : decode cX6_x 9 = .ok (.iload_n 1, 1) := by decide +kernel
theorem dX6_x_10 : decode cX6_x 10 = .ok (.imul, 1) := by decide +kernel
theorem dX6_x_11 : decode cX6_x 11 = .ok (.iconst 1, 1) := by decide +kernel
theorem dX6_x_12 : decode cX6_x 12 = .ok (.iadd, 1) := by decide +kernel
theorem dX6_x_13 : decode cX6_x 13 = .ok (.iaload, 1) := by decide +kernel
theorem dX6_x_14 : decode cX6_x 14 = .ok (.iload_n 2, 1) := by decide +kernel
theorem dX6_x_15 : decode cX6_x 15 = .ok (.invokestatic 128, 3) := by decide +kernel
theorem dX6_x_18 : decode cX6_x 18 = .ok (.daload, 1) := by decide +kernel
theorem dX6_x_19 : decode cX6_x 19 = .ok (.aload_n 0, 1) := by decide +kernel
theorem dX6_x_20 : decode cX6_x 20 = .ok (.getfield 19, 3) := by decide +kernel
theorem dX6_x_23 : decode cX6_x 23 = .ok (.iload_n 1, 1) := by decide +kernel
theorem dX6_x_24 : decode cX6_x 24 = .ok (.baload, 1) := by decide +kernel
theorem dX6_x_25 : decode cX6_x 25 = .ok (.invokestatic 132, 3) := by decide +kernel
theorem dX6_x_28 : decode cX6_x 28 = .ok (.dreturn, 1) := by decide +kernel
theorem dX6_noX_0 : decode cX6_noX 0 = .ok (.aload_n 0, 1) := by decide +kernel
theorem dX6_noX_1 : decode cX6_noX 1 = .ok (.getfield 29, 3) := by decide +kernel
theorem dX6_noX_4 : decode cX6_noX 4 = .ok (.aload_n 0, 1) := by decide +kernel
theorem dX6_noX_5 : decode cX6_noX 5 = .ok (.getfield 22, 3) := by decide +kernel
theorem dX6_noX_8 : decode cX6_noX 8 = .ok (.iconst 4, 1) := by decide +kernel
theorem dX6_noX_9 : decode cX6_noX 9 = .ok (.iload_n 1, 1) := by decide +kernel
theorem dX6_noX_10 : decode cX6_noX 10 = .ok (.imul, 1) := by decide +kernel
theorem dX6_noX_11 : decode cX6_noX 11 = .ok (.iconst 1, 1) := by decide +kernel
theorem dX6_noX_12 : decode cX6_noX 12 = .ok (.iadd, 1) := by decide +kernel
theorem dX6_noX_13 : decode cX6_noX 13 = .ok (.iaload, 1) := by decide +kernel
theorem dX6_noX_14 : decode cX6_noX 14 = .ok (.iload_n 2, 1) := by decide +kernel
theorem dX6_noX_15 : decode cX6_noX 15 = .ok (.invokestatic 128, 3) := by decide +kernel
theorem dX6_noX_18 : decode cX6_noX 18 = .ok (.baload, 1) := by decide +kernel
theorem dX6_noX_19 : decode cX6_noX 19 = .ok (.ireturn, 1) := by decide +kernel
theorem dX6_y_0 : decode cX6_y 0 = .ok (.aload_n 0, 1) := by decide +kernel
theorem dX6_y_1 : decode cX6_y 1 = .ok (.getfield 26, 3) := by decide +kernel
theorem dX6_y_4 : decode cX6_y 4 = .ok (.aload_n 0, 1) := by decide +kernel
theorem dX6_y_5 : decode cX6_y 5 = .ok (.getfield 22, 3) := by decide +kernel
theorem dX6_y_8 : decode cX6_y 8 = .ok (.iconst 4, 1) := by decide +kernel
theorem dX6_y_9 : decode cX6_y 9 = .ok (.iload_n 1, 1) := by decide +kernel
theorem dX6_y_10 : decode cX6_y 10 = .ok (.imul, 1) := by decide +kernel
theorem dX6_y_11 : decode cX6_y 11 = .ok (.iconst 2, 1) := by decide +kernel
theorem dX6_y_12 : decode cX6_y 12 = .ok (.iadd, 1) := by decide +kernel
theorem dX6_y_13 : decode cX6_y 13 = .ok (.iaload, 1) := by decide +kernel
theorem dX6_y_14 : decode cX6_y 14 = .ok (.iload_n 2, 1) := by decide +kernel
theorem dX6_y_15 : decode cX6_y 15 = .ok (.invokestatic 128, 3) := by decide +kernel
theorem dX6_y_18 : decode cX6_y 18 = .ok (.daload, 1) := by decide +kernel
theorem dX6_y_19 : decode cX6_y 19 = .ok (.aload_n 0, 1) := by decide +kernel
theorem dX6_y_20 : decode cX6_y 20 = .ok (.getfield 19, 3) := by decide +kernel
theorem dX6_y_23 : decode cX6_y 23 = .ok (.iload_n 1, 1) := by decide +kernel
theorem dX6_y_24 : decode cX6_y 24 = .ok (.baload, 1) := by decide +kernel
theorem dX6_y_25 : decode cX6_y 25 = .ok (.invokestatic 132, 3) := by decide +kernel
theorem dX6_y_28 : decode cX6_y 28 = .ok (.dreturn, 1) := by decide +kernel
theorem dX6_noY_0 : decode cX6_noY 0 = .ok (.aload_n 0, 1) := by decide +kernel
theorem dX6_noY_1 : decode cX6_noY 1 = .ok (.getfield 29, 3) := by decide +kernel
theorem dX6_noY_4 : decode cX6_noY 4 = .ok (.aload_n 0, 1) := by decide +kernel
theorem dX6_noY_5 : decode cX6_noY 5 = .ok (.getfield 22, 3) := by decide +kernel
theorem dX6_noY_8 : decode cX6_noY 8 = .ok (.iconst 4, 1) := by decide +kernel
theorem dX6_noY_9 : decode cX6_noY 9 = .ok (.iload_n 1, 1) := by decide +kernel
theorem dX6_noY_10 : decode cX6_noY 10 = .ok (.imul, 1) := by decide +kernel
theorem dX6_noY_11 : decode cX6_noY 11 = .ok (.iconst 2, 1) := by decide +kernel
theorem dX6_noY_12 : decode cX6_noY 12 = .ok (.iadd, 1) := by decide +kernel
theorem dX6_noY_13 : decode cX6_noY 13 = .ok (.iaload, 1) := by decide +kernel
theorem dX6_noY_14 : decode cX6_noY 14 = .ok (.iload_n 2, 1) := by decide +kernel
theorem dX6_noY_15 : decode cX6_noY 15 = .ok (.invokestatic 128, 3) := by decide +kernel
theorem dX6_noY_18 : decode cX6_noY 18 = .ok (.baload, 1) := by decide +kernel
theorem dX6_noY_19 : decode cX6_noY 19 = .ok (.ireturn, 1) := by decide +kernel
theorem dX6_compares_0 : decode cX6_compares 0 = .ok (.aload_n 0, 1) := by decide +kernel
theorem dX6_compares_1 : decode cX6_compares 1 = .ok (.getfield 22, 3) := by decide +kernel
theorem dX6_compares_4 : decode cX6_compares 4 = .ok (.iconst 4, 1) := by decide +kernel
theorem dX6_compares_5 : decode cX6_compares 5 = .ok (.iload_n 1, 1) := by decide +kernel
theorem dX6_compares_6 : decode cX6_compares 6 = .ok (.imul, 1) := by decide +kernel
theorem dX6_compares_7 : decode cX6_compares 7 = .ok (.iconst 3, 1) := by decide +kernel
theorem dX6_compares_8 : decode cX6_compares 8 = .ok (.iadd, 1) := by decide +kernel
theorem dX6_compares_9 : decode cX6_compares 9 = .ok (.iaload, 1) := by decide +kernel
theorem dX6_compares_10 : decode cX6_compares 10 = .ok (.aload_n 0, 1) := by decide +kernel
theorem dX6_compares_11 : decode cX6_compares 11 = .ok (.iload_n 1, 1) := by decide +kernel
theorem dX6_compares_12 : decode cX6_compares 12 = .ok (.iload_n 2, 1) := by decide +kernel
theorem dX6_compares_13 : decode cX6_compares 13 = .ok (.invokevirtual 136, 3) := by decide +kernel
theorem dX6_compares_16 : decode cX6_compares 16 = .ok (.aload_n 0, 1) := by decide +kernel
theorem dX6_compares_17 : decode cX6_compares 17 = .ok (.iload_n 1, 1) := by decide +kernel
theorem dX6_compares_18 : decode cX6_compares 18 = .ok (.iload_n 2, 1) := by decide +kernel
theorem dX6_compares_19 : decode cX6_compares 19 = .ok (.invokevirtual 140, 3) := by decide +kernel
theorem dX6_compares_22 : decode cX6_compares 22 = .ok (.aload_n 0, 1) := by decide +kernel
theorem dX6_compares_23 : decode cX6_compares 23 = .ok (.iload_n 1, 1) := by decide +kernel
theorem dX6_compares_24 : decode cX6_compares 24 = .ok (.iload_n 2, 1) := by decide +kernel
theorem dX6_compares_25 : decode cX6_compares 25 = .ok (.invokevirtual 144, 3) := by decide +kernel
theorem dX6_compares_28 : decode cX6_compares 28 = .ok (.aload_n 0, 1) := by decide +kernel
theorem dX6_compares_29 : decode cX6_compares 29 = .ok (.iload_n 1, 1) := by decide +kernel
theorem dX6_compares_30 : decode cX6_compares 30 = .ok (.iload_n 2, 1) := by decide +kernel
theorem dX6_compares_31 : decode cX6_compares 31 = .ok (.invokevirtual 147, 3) := by decide +kernel
theorem dX6_compares_34 : decode cX6_compares 34 = .ok (.invokestatic 150, 3) := by decide +kernel
theorem dX6_compares_37 : decode cX6_compares 37 = .ok (.ireturn, 1) := by decide +kernel
theorem dX6_rank_0 : decode cX6_rank 0 = .ok (.iconst 0, 1) := by decide +kernel
theorem dX6_rank_1 : decode cX6_rank 1 = .ok (.istore 5, 2) := by decide +kernel
theorem dX6_rank_3 : decode cX6_rank 3 = .ok (.aload_n 0, 1) := by decide +kernel
theorem dX6_rank_4 : decode cX6_rank 4 = .ok (.iload_n 1, 1) := by decide +kernel
theorem dX6_rank_5 : decode cX6_rank 5 = .ok (.iload 4, 2) := by decide +kernel
theorem dX6_rank_7 : decode cX6_rank 7 = .ok (.invokevirtual 136, 3) := by decide +kernel
theorem dX6_rank_10 : decode cX6_rank 10 = .ok (.dstore 6, 2) := by decide +kernel
theorem dX6_rank_12 : decode cX6_rank 12 = .ok (.iload_n 2, 1) := by decide +kernel
theorem dX6_rank_13 : decode cX6_rank 13 = .ok (.istore 8, 2) := by decide +kernel
theorem dX6_rank_15 : decode cX6_rank 15 = .ok (.iload 8, 2) := by decide +kernel
theorem dX6_rank_17 : decode cX6_rank 17 = .ok (.iload_n 3, 1) := by decide +kernel
theorem dX6_rank_18 : decode cX6_rank 18 = .ok (.if_icmp .gt 65, 3) := by decide +kernel
theorem dX6_rank_21 : decode cX6_rank 21 = .ok (.aload_n 0, 1) := by decide +kernel
theorem dX6_rank_22 : decode cX6_rank 22 = .ok (.iload_n 1, 1) := by decide +kernel
theorem dX6_rank_23 : decode cX6_rank 23 = .ok (.iload 8, 2) := by decide +kernel
theorem dX6_rank_25 : decode cX6_rank 25 = .ok (.invokevirtual 140, 3) := by decide +kernel
theorem dX6_rank_28 : decode cX6_rank 28 = .ok (.ifCond .ne 49, 3) := by decide +kernel
theorem dX6_rank_31 : decode cX6_rank 31 = .ok (.aload_n 0, 1) := by decide +kernel
theorem dX6_rank_32 : decode cX6_rank 32 = .ok (.iload_n 1, 1) := by decide +kernel
theorem dX6_rank_33 : decode cX6_rank 33 = .ok (.iload 8, 2) := by decide +kernel
theorem dX6_rank_35 : decode cX6_rank 35 = .ok (.invokevirtual 136, 3) := by decide +kernel
theorem dX6_rank_38 : decode cX6_rank 38 = .ok (.dstore 9, 2) := by decide +kernel
theorem dX6_rank_40 : decode cX6_rank 40 = .ok (.iload 5, 2) := by decide +kernel
theorem dX6_rank_42 : decode cX6_rank 42 = .ok (.dload 9, 2) := by decide +kernel
theorem dX6_rank_44 : decode cX6_rank 44 = .ok (.dload 6, 2) := by decide +kernel
theorem dX6_rank_46 : decode cX6_rank 46 = .ok (.invokestatic 124, 3) := by decide +kernel
theorem dX6_rank_49 : decode cX6_rank 49 = .ok (.ifCond .ne 20, 3) := by decide +kernel
theorem dX6_rank_52 : decode cX6_rank 52 = .ok (.iload 8, 2) := by decide +kernel
theorem dX6_rank_54 : decode cX6_rank 54 = .ok (.iload 4, 2) := by decide +kernel
theorem dX6_rank_56 : decode cX6_rank 56 = .ok (.if_icmp .ge 17, 3) := by decide +kernel
theorem dX6_rank_59 : decode cX6_rank 59 = .ok (.dload 6, 2) := by decide +kernel
theorem dX6_rank_61 : decode cX6_rank 61 = .ok (.dload 9, 2) := by decide +kernel
theorem dX6_rank_63 : decode cX6_rank 63 = .ok (.invokestatic 124, 3) := by decide +kernel
theorem dX6_rank_66 : decode cX6_rank 66 = .ok (.ifCond .ne 7, 3) := by decide +kernel
theorem dX6_rank_69 : decode cX6_rank 69 = .ok (.iconst 1, 1) := by decide +kernel
theorem dX6_rank_70 : decode cX6_rank 70 = .ok (.goto 4, 3) := by decide +kernel
theorem dX6_rank_73 : decode cX6_rank 73 = .ok (.iconst 0, 1) := by decide +kernel
theorem dX6_rank_74 : decode cX6_rank 74 = .ok (.iadd, 1) := by decide +kernel
theorem dX6_rank_75 : decode cX6_rank 75 = .ok (.istore 5, 2) := by decide +kernel
theorem dX6_rank_77 : decode cX6_rank 77 = .ok (.iinc 8 1, 3) := by decide +kernel
theorem dX6_rank_80 : decode cX6_rank 80 = .ok (.goto (-65), 3) := by decide +kernel
theorem dX6_rank_83 : decode cX6_rank 83 = .ok (.iload 5, 2) := by decide +kernel
theorem dX6_rank_85 : decode cX6_rank 85 = .ok (.ireturn, 1) := by decide +kernel
theorem dX6_ranked_0 : decode cX6_ranked 0 = .ok (.aload_n 0, 1) := by decide +kernel
theorem dX6_ranked_1 : decode cX6_ranked 1 = .ok (.invokevirtual 114, 3) := by decide +kernel
theorem dX6_ranked_4 : decode cX6_ranked 4 = .ok (.iload_n 2, 1) := by decide +kernel
theorem dX6_ranked_5 : decode cX6_ranked 5 = .ok (.istore 5, 2) := by decide +kernel
theorem dX6_ranked_7 : decode cX6_ranked 7 = .ok (.iload 5, 2) := by decide +kernel
theorem dX6_ranked_9 : decode cX6_ranked 9 = .ok (.iload_n 3, 1) := by decide +kernel
theorem dX6_ranked_10 : decode cX6_ranked 10 = .ok (.if_icmp .gt 44, 3) := by decide +kernel
theorem dX6_ranked_13 : decode cX6_ranked 13 = .ok (.aload_n 0, 1) := by decide +kernel
theorem dX6_ranked_14 : decode cX6_ranked 14 = .ok (.iload_n 1, 1) := by decide +kernel
theorem dX6_ranked_15 : decode cX6_ranked 15 = .ok (.iload 5, 2) := by decide +kernel
theorem dX6_ranked_17 : decode cX6_ranked 17 = .ok (.invokevirtual 140, 3) := by decide +kernel
theorem dX6_ranked_20 : decode cX6_ranked 20 = .ok (.ifCond .ne 28, 3) := by decide +kernel
theorem dX6_ranked_23 : decode cX6_ranked 23 = .ok (.aload_n 0, 1) := by decide +kernel
theorem dX6_ranked_24 : decode cX6_ranked 24 = .ok (.iload_n 1, 1) := by decide +kernel
theorem dX6_ranked_25 : decode cX6_ranked 25 = .ok (.iload_n 2, 1) := by decide +kernel
theorem dX6_ranked_26 : decode cX6_ranked 26 = .ok (.iload_n 3, 1) := by decide +kernel
theorem dX6_ranked_27 : decode cX6_ranked 27 = .ok (.iload 5, 2) := by decide +kernel
theorem dX6_ranked_29 : decode cX6_ranked 29 = .ok (.invokevirtual 154, 3) := by decide +kernel
theorem dX6_ranked_32 : decode cX6_ranked 32 = .ok (.iload 4, 2) := by decide +kernel
theorem dX6_ranked_34 : decode cX6_ranked 34 = .ok (.if_icmp .ne 14, 3) := by decide +kernel
theorem dX6_ranked_37 : decode cX6_ranked 37 = .ok (.aload_n 0, 1) := by decide +kernel
theorem dX6_ranked_38 : decode cX6_ranked 38 = .ok (.aload_n 0, 1) := by decide +kernel
theorem dX6_ranked_39 : decode cX6_ranked 39 = .ok (.iload_n 1, 1) := by decide +kernel
theorem dX6_ranked_40 : decode cX6_ranked 40 = .ok (.iload 5, 2) := by decide +kernel
theorem dX6_ranked_42 : decode cX6_ranked 42 = .ok (.invokevirtual 136, 3) := by decide +kernel
theorem dX6_ranked_45 : decode cX6_ranked 45 = .ok (.invokevirtual 94, 3) := by decide +kernel
theorem dX6_ranked_48 : decode cX6_ranked 48 = .ok (.iinc 5 1, 3) := by decide +kernel
theorem dX6_ranked_51 : decode cX6_ranked 51 = .ok (.goto (-44), 3) := by decide +kernel
theorem dX6_ranked_54 : decode cX6_ranked 54 = .ok (.return_, 1) := by decide +kernel
theorem dX6_manyX_0 : decode cX6_manyX 0 = .ok (.iconst 0, 1) := by decide +kernel
theorem dX6_manyX_1 : decode cX6_manyX 1 = .ok (.istore 4, 2) := by decide +kernel
theorem dX6_manyX_3 : decode cX6_manyX 3 = .ok (.iload_n 2, 1) := by decide +kernel
theorem dX6_manyX_4 : decode cX6_manyX 4 = .ok (.istore 5, 2) := by decide +kernel
theorem dX6_manyX_6 : decode cX6_manyX 6 = .ok (.iload 5, 2) := by decide +kernel
theorem dX6_manyX_8 : decode cX6_manyX 8 = .ok (.iload_n 3, 1) := by decide +kernel
theorem dX6_manyX_9 : decode cX6_manyX 9 = .ok (.if_icmp .gt 29, 3) := by decide +kernel
theorem dX6_manyX_12 : decode cX6_manyX 12 = .ok (.iload 4, 2) := by decide +kernel
theorem dX6_manyX_14 : decode cX6_manyX 14 = .ok (.aload_n 0, 1) := by decide +kernel
theorem dX6_manyX_15 : decode cX6_manyX 15 = .ok (.iload_n 1, 1) := by decide +kernel
theorem dX6_manyX_16 : decode cX6_manyX 16 = .ok (.iload 5, 2) := by decide +kernel
theorem dX6_manyX_18 : decode cX6_manyX 18 = .ok (.invokevirtual 140, 3) := by decide +kernel
theorem dX6_manyX_21 : decode cX6_manyX 21 = .ok (.ifCond .eq 7, 3) := by decide +kernel
theorem dX6_manyX_24 : decode cX6_manyX 24 = .ok (.iconst 0, 1) := by decide +kernel
theorem dX6_manyX_25 : decode cX6_manyX 25 = .ok (.goto 4, 3) := by decide +kernel
theorem dX6_manyX_28 : decode cX6_manyX 28 = .ok (.iconst 1, 1) := by decide +kernel
theorem dX6_manyX_29 : decode cX6_manyX 29 = .ok (.iadd, 1) := by decide +kernel
theorem dX6_manyX_30 : decode cX6_manyX 30 = .ok (.istore 4, 2) := by decide +kernel
theorem dX6_manyX_32 : decode cX6_manyX 32 = .ok (.iinc 5 1, 3) := by decide +kernel
theorem dX6_manyX_35 : decode cX6_manyX 35 = .ok (.goto (-29), 3) := by decide +kernel
theorem dX6_manyX_38 : decode cX6_manyX 38 = .ok (.iload 4, 2) := by decide +kernel
theorem dX6_manyX_40 : decode cX6_manyX 40 = .ok (.ireturn, 1) := by decide +kernel
theorem dX6_lessThan_0 : decode cX6_lessThan 0 = .ok (.iconst 0, 1) := by decide +kernel
theorem dX6_lessThan_1 : decode cX6_lessThan 1 = .ok (.istore_n 3, 1) := by decide +kernel
theorem dX6_lessThan_2 : decode cX6_lessThan 2 = .ok (.iconst 0, 1) := by decide +kernel
theorem dX6_lessThan_3 : decode cX6_lessThan 3 = .ok (.istore 4, 2) := by decide +kernel
theorem dX6_lessThan_5 : decode cX6_lessThan 5 = .ok (.iload 4, 2) := by decide +kernel
theorem dX6_lessThan_7 : decode cX6_lessThan 7 = .ok (.bipush 16, 2) := by decide +kernel
theorem dX6_lessThan_9 : decode cX6_lessThan 9 = .ok (.if_icmp .ge 44, 3) := by decide +kernel
theorem dX6_lessThan_12 : decode cX6_lessThan 12 = .ok (.iload_n 3, 1) := by decide +kernel
theorem dX6_lessThan_13 : decode cX6_lessThan 13 = .ok (.aload_n 0, 1) := by decide +kernel
theorem dX6_lessThan_14 : decode cX6_lessThan 14 = .ok (.iload_n 1, 1) := by decide +kernel
theorem dX6_lessThan_15 : decode cX6_lessThan 15 = .ok (.iload 4, 2) := by decide +kernel
theorem dX6_lessThan_17 : decode cX6_lessThan 17 = .ok (.invokevirtual 140, 3) := by decide +kernel
theorem dX6_lessThan_20 : decode cX6_lessThan 20 = .ok (.ifCond .ne 24, 3) := by decide +kernel
theorem dX6_lessThan_23 : decode cX6_lessThan 23 = .ok (.aload_n 0, 1) := by decide +kernel
theorem dX6_lessThan_24 : decode cX6_lessThan 24 = .ok (.iload_n 1, 1) := by decide +kernel
theorem dX6_lessThan_25 : decode cX6_lessThan 25 = .ok (.iload 4, 2) := by decide +kernel
theorem dX6_lessThan_27 : decode cX6_lessThan 27 = .ok (.invokevirtual 136, 3) := by decide +kernel
theorem dX6_lessThan_30 : decode cX6_lessThan 30 = .ok (.aload_n 0, 1) := by decide +kernel
theorem dX6_lessThan_31 : decode cX6_lessThan 31 = .ok (.iload_n 1, 1) := by decide +kernel
theorem dX6_lessThan_32 : decode cX6_lessThan 32 = .ok (.iload_n 2, 1) := by decide +kernel
theorem dX6_lessThan_33 : decode cX6_lessThan 33 = .ok (.invokevirtual 136, 3) := by decide +kernel
theorem dX6_lessThan_36 : decode cX6_lessThan 36 = .ok (.dcmp .g, 1) := by decide +kernel
theorem dX6_lessThan_37 : decode cX6_lessThan 37 = .ok (.ifCond .ge 7, 3) := by decide +kernel
theorem dX6_lessThan_40 : decode cX6_lessThan 40 = .ok (.iconst 1, 1) := by decide +kernel
theorem dX6_lessThan_41 : decode cX6_lessThan 41 = .ok (.goto 4, 3) := by decide +kernel
theorem dX6_lessThan_44 : decode cX6_lessThan 44 = .ok (.iconst 0, 1) := by decide +kernel
theorem dX6_lessThan_45 : decode cX6_lessThan 45 = .ok (.iadd, 1) := by decide +kernel
theorem dX6_lessThan_46 : decode cX6_lessThan 46 = .ok (.istore_n 3, 1) := by decide +kernel
theorem dX6_lessThan_47 : decode cX6_lessThan 47 = .ok (.iinc 4 1, 3) := by decide +kernel
theorem dX6_lessThan_50 : decode cX6_lessThan 50 = .ok (.goto (-45), 3) := by decide +kernel
theorem dX6_lessThan_53 : decode cX6_lessThan 53 = .ok (.iload_n 3, 1) := by decide +kernel
theorem dX6_lessThan_54 : decode cX6_lessThan 54 = .ok (.ireturn, 1) := by decide +kernel
theorem dX6_manySo_0 : decode cX6_manySo 0 = .ok (.iconst 0, 1) := by decide +kernel
theorem dX6_manySo_1 : decode cX6_manySo 1 = .ok (.istore_n 3, 1) := by decide +kernel
theorem dX6_manySo_2 : decode cX6_manySo 2 = .ok (.iconst 0, 1) := by decide +kernel
theorem dX6_manySo_3 : decode cX6_manySo 3 = .ok (.istore 4, 2) := by decide +kernel
theorem dX6_manySo_5 : decode cX6_manySo 5 = .ok (.iload 4, 2) := by decide +kernel
theorem dX6_manySo_7 : decode cX6_manySo 7 = .ok (.iload_n 2, 1) := by decide +kernel
theorem dX6_manySo_8 : decode cX6_manySo 8 = .ok (.if_icmp .gt 27, 3) := by decide +kernel
theorem dX6_manySo_11 : decode cX6_manySo 11 = .ok (.iload_n 3, 1) := by decide +kernel
theorem dX6_manySo_12 : decode cX6_manySo 12 = .ok (.aload_n 0, 1) := by decide +kernel
theorem dX6_manySo_13 : decode cX6_manySo 13 = .ok (.iload_n 1, 1) := by decide +kernel
theorem dX6_manySo_14 : decode cX6_manySo 14 = .ok (.iload 4, 2) := by decide +kernel
theorem dX6_manySo_16 : decode cX6_manySo 16 = .ok (.invokevirtual 158, 3) := by decide +kernel
theorem dX6_manySo_19 : decode cX6_manySo 19 = .ok (.ifCond .eq 7, 3) := by decide +kernel
theorem dX6_manySo_22 : decode cX6_manySo 22 = .ok (.iconst 1, 1) := by decide +kernel
theorem dX6_manySo_23 : decode cX6_manySo 23 = .ok (.goto 4, 3) := by decide +kernel
theorem dX6_manySo_26 : decode cX6_manySo 26 = .ok (.iconst 0, 1) := by decide +kernel
theorem dX6_manySo_27 : decode cX6_manySo 27 = .ok (.iadd, 1) := by decide +kernel
theorem dX6_manySo_28 : decode cX6_manySo 28 = .ok (.istore_n 3, 1) := by decide +kernel
theorem dX6_manySo_29 : decode cX6_manySo 29 = .ok (.iinc 4 1, 3) := by decide +kernel
theorem dX6_manySo_32 : decode cX6_manySo 32 = .ok (.goto (-27), 3) := by decide +kernel
theorem dX6_manySo_35 : decode cX6_manySo 35 = .ok (.iload_n 3, 1) := by decide +kernel
theorem dX6_manySo_36 : decode cX6_manySo 36 = .ok (.ireturn, 1) := by decide +kernel
theorem dX6_reckon_0 : decode cX6_reckon 0 = .ok (.aload_n 0, 1) := by decide +kernel
theorem dX6_reckon_1 : decode cX6_reckon 1 = .ok (.getfield 22, 3) := by decide +kernel
theorem dX6_reckon_4 : decode cX6_reckon 4 = .ok (.iconst 4, 1) := by decide +kernel
theorem dX6_reckon_5 : decode cX6_reckon 5 = .ok (.iload_n 1, 1) := by decide +kernel
theorem dX6_reckon_6 : decode cX6_reckon 6 = .ok (.imul, 1) := by decide +kernel
theorem dX6_reckon_7 : decode cX6_reckon 7 = .ok (.iaload, 1) := by decide +kernel
theorem dX6_reckon_8 : decode cX6_reckon 8 = .ok (.istore_n 3, 1) := by decide +kernel
theorem dX6_reckon_9 : decode cX6_reckon 9 = .ok (.aload_n 0, 1) := by decide +kernel
theorem dX6_reckon_10 : decode cX6_reckon 10 = .ok (.getfield 19, 3) := by decide +kernel
theorem dX6_reckon_13 : decode cX6_reckon 13 = .ok (.iload_n 1, 1) := by decide +kernel
theorem dX6_reckon_14 : decode cX6_reckon 14 = .ok (.baload, 1) := by decide +kernel
theorem dX6_reckon_15 : decode cX6_reckon 15 = .ok (.istore 4, 2) := by decide +kernel
theorem dX6_reckon_17 : decode cX6_reckon 17 = .ok (.aload_n 0, 1) := by decide +kernel
theorem dX6_reckon_18 : decode cX6_reckon 18 = .ok (.iload_n 1, 1) := by decide +kernel
theorem dX6_reckon_19 : decode cX6_reckon 19 = .ok (.iload_n 2, 1) := by decide +kernel
theorem dX6_reckon_20 : decode cX6_reckon 20 = .ok (.invokevirtual 140, 3) := by decide +kernel
theorem dX6_reckon_23 : decode cX6_reckon 23 = .ok (.istore 5, 2) := by decide +kernel
theorem dX6_reckon_25 : decode cX6_reckon 25 = .ok (.iload_n 3, 1) := by decide +kernel
theorem dX6_reckon_26 : decode cX6_reckon 26 = .ok (.bipush 16, 2) := by decide +kernel
theorem dX6_reckon_28 : decode cX6_reckon 28 = .ok (.if_icmp .le 9, 3) := by decide +kernel
theorem dX6_reckon_31 : decode cX6_reckon 31 = .ok (.iload_n 3, 1) := by decide +kernel
theorem dX6_reckon_32 : decode cX6_reckon 32 = .ok (.bipush 26, 2) := by decide +kernel
theorem dX6_reckon_34 : decode cX6_reckon 34 = .ok (.if_icmp .ne 72, 3) := by decide +kernel
theorem dX6_reckon_37 : decode cX6_reckon 37 = .ok (.iload 5, 2) := by decide +kernel
theorem dX6_reckon_39 : decode cX6_reckon 39 = .ok (.ifCond .ne 18, 3) := by decide +kernel
theorem dX6_reckon_42 : decode cX6_reckon 42 = .ok (.iload_n 3, 1) := by decide +kernel
theorem dX6_reckon_43 : decode cX6_reckon 43 = .ok (.bipush 9, 2) := by decide +kernel
theorem dX6_reckon_45 : decode cX6_reckon 45 = .ok (.if_icmp .lt 19, 3) := by decide +kernel
theorem dX6_reckon_48 : decode cX6_reckon 48 = .ok (.aload_n 0, 1) := by decide +kernel
theorem dX6_reckon_49 : decode cX6_reckon 49 = .ok (.iload_n 1, 1) := by decide +kernel
theorem dX6_reckon_50 : decode cX6_reckon 50 = .ok (.iload_n 2, 1) := by decide +kernel
theorem dX6_reckon_51 : decode cX6_reckon 51 = .ok (.invokevirtual 147, 3) := by decide +kernel
theorem dX6_reckon_54 : decode cX6_reckon 54 = .ok (.ifCond .eq 10, 3) := by decide +kernel
theorem dX6_reckon_57 : decode cX6_reckon 57 = .ok (.aload_n 0, 1) := by decide +kernel
theorem dX6_reckon_58 : decode cX6_reckon 58 = .ok (.invokevirtual 114, 3) := by decide +kernel
theorem dX6_reckon_61 : decode cX6_reckon 61 = .ok (.goto 44, 3) := by decide +kernel
theorem dX6_reckon_64 : decode cX6_reckon 64 = .ok (.iload_n 3, 1) := by decide +kernel
theorem dX6_reckon_65 : decode cX6_reckon 65 = .ok (.bipush 8, 2) := by decide +kernel
theorem dX6_reckon_67 : decode cX6_reckon 67 = .ok (.if_icmp .gt 19, 3) := by decide +kernel
theorem dX6_reckon_70 : decode cX6_reckon 70 = .ok (.aload_n 0, 1) := by decide +kernel
theorem dX6_reckon_71 : decode cX6_reckon 71 = .ok (.iload_n 3, 1) := by decide +kernel
theorem dX6_reckon_72 : decode cX6_reckon 72 = .ok (.aload_n 0, 1) := by decide +kernel
theorem dX6_reckon_73 : decode cX6_reckon 73 = .ok (.iload_n 1, 1) := by decide +kernel
theorem dX6_reckon_74 : decode cX6_reckon 74 = .ok (.iload_n 2, 1) := by decide +kernel
theorem dX6_reckon_75 : decode cX6_reckon 75 = .ok (.invokevirtual 136, 3) := by decide +kernel
theorem dX6_reckon_78 : decode cX6_reckon 78 = .ok (.iload 4, 2) := by decide +kernel
theorem dX6_reckon_80 : decode cX6_reckon 80 = .ok (.invokevirtual 161, 3) := by decide +kernel
theorem dX6_reckon_83 : decode cX6_reckon 83 = .ok (.goto 22, 3) := by decide +kernel
theorem dX6_reckon_86 : decode cX6_reckon 86 = .ok (.aload_n 0, 1) := by decide +kernel
theorem dX6_reckon_87 : decode cX6_reckon 87 = .ok (.iload_n 3, 1) := by decide +kernel
theorem dX6_reckon_88 : decode cX6_reckon 88 = .ok (.aload_n 0, 1) := by decide +kernel
theorem dX6_reckon_89 : decode cX6_reckon 89 = .ok (.iload_n 1, 1) := by decide +kernel
theorem dX6_reckon_90 : decode cX6_reckon 90 = .ok (.iload_n 2, 1) := by decide +kernel
theorem dX6_reckon_91 : decode cX6_reckon 91 = .ok (.invokevirtual 136, 3) := by decide +kernel
theorem dX6_reckon_94 : decode cX6_reckon 94 = .ok (.aload_n 0, 1) := by decide +kernel
theorem dX6_reckon_95 : decode cX6_reckon 95 = .ok (.iload_n 1, 1) := by decide +kernel
theorem dX6_reckon_96 : decode cX6_reckon 96 = .ok (.iload_n 2, 1) := by decide +kernel
theorem dX6_reckon_97 : decode cX6_reckon 97 = .ok (.invokevirtual 144, 3) := by decide +kernel
theorem dX6_reckon_100 : decode cX6_reckon 100 = .ok (.iload 4, 2) := by decide +kernel
theorem dX6_reckon_102 : decode cX6_reckon 102 = .ok (.invokevirtual 165, 3) := by decide +kernel
theorem dX6_reckon_105 : decode cX6_reckon 105 = .ok (.return_, 1) := by decide +kernel
theorem dX6_reckon_106 : decode cX6_reckon 106 = .ok (.iload_n 3, 1) := by decide +kernel
theorem dX6_reckon_107 : decode cX6_reckon 107 = .ok (.tableswitch 291 17 24 #[45, 79, 126, 173, 192, 203, 215, 241], 45) := by decide +kernel
theorem dX6_reckon_152 : decode cX6_reckon 152 = .ok (.iload 5, 2) := by decide +kernel
theorem dX6_reckon_154 : decode cX6_reckon 154 = .ok (.ifCond .ne 12, 3) := by decide +kernel
theorem dX6_reckon_157 : decode cX6_reckon 157 = .ok (.aload_n 0, 1) := by decide +kernel
theorem dX6_reckon_158 : decode cX6_reckon 158 = .ok (.iload_n 1, 1) := by decide +kernel
theorem dX6_reckon_159 : decode cX6_reckon 159 = .ok (.iload_n 2, 1) := by decide +kernel
theorem dX6_reckon_160 : decode cX6_reckon 160 = .ok (.invokevirtual 158, 3) := by decide +kernel
theorem dX6_reckon_163 : decode cX6_reckon 163 = .ok (.ifCond .ne 10, 3) := by decide +kernel
theorem dX6_reckon_166 : decode cX6_reckon 166 = .ok (.aload_n 0, 1) := by decide +kernel
theorem dX6_reckon_167 : decode cX6_reckon 167 = .ok (.invokevirtual 114, 3) := by decide +kernel
theorem dX6_reckon_170 : decode cX6_reckon 170 = .ok (.goto 239, 3) := by decide +kernel
theorem dX6_reckon_173 : decode cX6_reckon 173 = .ok (.aload_n 0, 1) := by decide +kernel
theorem dX6_reckon_174 : decode cX6_reckon 174 = .ok (.aload_n 0, 1) := by decide +kernel
theorem dX6_reckon_175 : decode cX6_reckon 175 = .ok (.iload_n 1, 1) := by decide +kernel
theorem dX6_reckon_176 : decode cX6_reckon 176 = .ok (.iload_n 2, 1) := by decide +kernel
theorem dX6_reckon_177 : decode cX6_reckon 177 = .ok (.invokevirtual 136, 3) := by decide +kernel
theorem dX6_reckon_180 : decode cX6_reckon 180 = .ok (.invokevirtual 94, 3) := by decide +kernel
theorem dX6_reckon_183 : decode cX6_reckon 183 = .ok (.goto 226, 3) := by decide +kernel
theorem dX6_reckon_186 : decode cX6_reckon 186 = .ok (.iload 5, 2) := by decide +kernel
theorem dX6_reckon_188 : decode cX6_reckon 188 = .ok (.ifCond .ne 16, 3) := by decide +kernel
theorem dX6_reckon_191 : decode cX6_reckon 191 = .ok (.aload_n 0, 1) := by decide +kernel
theorem dX6_reckon_192 : decode cX6_reckon 192 = .ok (.aload_n 0, 1) := by decide +kernel
theorem dX6_reckon_193 : decode cX6_reckon 193 = .ok (.iload_n 1, 1) := by decide +kernel
theorem dX6_reckon_194 : decode cX6_reckon 194 = .ok (.iload_n 2, 1) := by decide +kernel
theorem dX6_reckon_195 : decode cX6_reckon 195 = .ok (.invokevirtual 136, 3) := by decide +kernel
theorem dX6_reckon_198 : decode cX6_reckon 198 = .ok (.invokevirtual 94, 3) := by decide +kernel
theorem dX6_reckon_201 : decode cX6_reckon 201 = .ok (.goto 208, 3) := by decide +kernel
theorem dX6_reckon_204 : decode cX6_reckon 204 = .ok (.aload_n 0, 1) := by decide +kernel
theorem dX6_reckon_205 : decode cX6_reckon 205 = .ok (.iload_n 1, 1) := by decide +kernel
theorem dX6_reckon_206 : decode cX6_reckon 206 = .ok (.iload_n 2, 1) := by decide +kernel
theorem dX6_reckon_207 : decode cX6_reckon 207 = .ok (.invokevirtual 147, 3) := by decide +kernel
theorem dX6_reckon_210 : decode cX6_reckon 210 = .ok (.ifCond .eq 10, 3) := by decide +kernel
theorem dX6_reckon_213 : decode cX6_reckon 213 = .ok (.aload_n 0, 1) := by decide +kernel
theorem dX6_reckon_214 : decode cX6_reckon 214 = .ok (.invokevirtual 114, 3) := by decide +kernel
theorem dX6_reckon_217 : decode cX6_reckon 217 = .ok (.goto 192, 3) := by decide +kernel
theorem dX6_reckon_220 : decode cX6_reckon 220 = .ok (.aload_n 0, 1) := by decide +kernel
theorem dX6_reckon_221 : decode cX6_reckon 221 = .ok (.aload_n 0, 1) := by decide +kernel
theorem dX6_reckon_222 : decode cX6_reckon 222 = .ok (.iload_n 1, 1) := by decide +kernel
theorem dX6_reckon_223 : decode cX6_reckon 223 = .ok (.iload_n 2, 1) := by decide +kernel
theorem dX6_reckon_224 : decode cX6_reckon 224 = .ok (.invokevirtual 144, 3) := by decide +kernel
theorem dX6_reckon_227 : decode cX6_reckon 227 = .ok (.invokevirtual 94, 3) := by decide +kernel
theorem dX6_reckon_230 : decode cX6_reckon 230 = .ok (.goto 179, 3) := by decide +kernel
theorem dX6_reckon_233 : decode cX6_reckon 233 = .ok (.iload_n 2, 1) := by decide +kernel
theorem dX6_reckon_234 : decode cX6_reckon 234 = .ok (.ifCond .eq 24, 3) := by decide +kernel
theorem dX6_reckon_237 : decode cX6_reckon 237 = .ok (.iload_n 2, 1) := by decide +kernel
theorem dX6_reckon_238 : decode cX6_reckon 238 = .ok (.bipush 15, 2) := by decide +kernel
theorem dX6_reckon_240 : decode cX6_reckon 240 = .ok (.if_icmp .eq 18, 3) := by decide +kernel
theorem dX6_reckon_243 : decode cX6_reckon 243 = .ok (.aload_n 0, 1) := by decide +kernel
theorem dX6_reckon_244 : decode cX6_reckon 244 = .ok (.iload_n 1, 1) := by decide +kernel
theorem dX6_reckon_245 : decode cX6_reckon 245 = .ok (.iload_n 2, 1) := by decide +kernel
theorem dX6_reckon_246 : decode cX6_reckon 246 = .ok (.iconst 1, 1) := by decide +kernel
theorem dX6_reckon_247 : decode cX6_reckon 247 = .ok (.isub, 1) := by decide +kernel
theorem dX6_reckon_248 : decode cX6_reckon 248 = .ok (.iload_n 2, 1) := by decide +kernel
theorem dX6_reckon_249 : decode cX6_reckon 249 = .ok (.iconst 1, 1) := by decide +kernel
theorem dX6_reckon_250 : decode cX6_reckon 250 = .ok (.iadd, 1) := by decide +kernel
theorem dX6_reckon_251 : decode cX6_reckon 251 = .ok (.invokevirtual 169, 3) := by decide +kernel
theorem dX6_reckon_254 : decode cX6_reckon 254 = .ok (.iconst 3, 1) := by decide +kernel
theorem dX6_reckon_255 : decode cX6_reckon 255 = .ok (.if_icmp .ge 10, 3) := by decide +kernel
theorem dX6_reckon_258 : decode cX6_reckon 258 = .ok (.aload_n 0, 1) := by decide +kernel
theorem dX6_reckon_259 : decode cX6_reckon 259 = .ok (.invokevirtual 114, 3) := by decide +kernel
theorem dX6_reckon_262 : decode cX6_reckon 262 = .ok (.goto 147, 3) := by decide +kernel
theorem dX6_reckon_265 : decode cX6_reckon 265 = .ok (.aload_n 0, 1) := by decide +kernel
theorem dX6_reckon_266 : decode cX6_reckon 266 = .ok (.iload_n 1, 1) := by decide +kernel
theorem dX6_reckon_267 : decode cX6_reckon 267 = .ok (.iload_n 2, 1) := by decide +kernel
theorem dX6_reckon_268 : decode cX6_reckon 268 = .ok (.iconst 1, 1) := by decide +kernel
theorem dX6_reckon_269 : decode cX6_reckon 269 = .ok (.isub, 1) := by decide +kernel
theorem dX6_reckon_270 : decode cX6_reckon 270 = .ok (.iload_n 2, 1) := by decide +kernel
theorem dX6_reckon_271 : decode cX6_reckon 271 = .ok (.iconst 1, 1) := by decide +kernel
theorem dX6_reckon_272 : decode cX6_reckon 272 = .ok (.iadd, 1) := by decide +kernel
theorem dX6_reckon_273 : decode cX6_reckon 273 = .ok (.iconst 1, 1) := by decide +kernel
theorem dX6_reckon_274 : decode cX6_reckon 274 = .ok (.invokevirtual 173, 3) := by decide +kernel
theorem dX6_reckon_277 : decode cX6_reckon 277 = .ok (.goto 132, 3) := by decide +kernel
theorem dX6_reckon_280 : decode cX6_reckon 280 = .ok (.aload_n 0, 1) := by decide +kernel
theorem dX6_reckon_281 : decode cX6_reckon 281 = .ok (.iload_n 1, 1) := by decide +kernel
theorem dX6_reckon_282 : decode cX6_reckon 282 = .ok (.iconst 0, 1) := by decide +kernel
theorem dX6_reckon_283 : decode cX6_reckon 283 = .ok (.iload_n 2, 1) := by decide +kernel
theorem dX6_reckon_284 : decode cX6_reckon 284 = .ok (.aload_n 0, 1) := by decide +kernel
theorem dX6_reckon_285 : decode cX6_reckon 285 = .ok (.iload_n 1, 1) := by decide +kernel
theorem dX6_reckon_286 : decode cX6_reckon 286 = .ok (.iconst 0, 1) := by decide +kernel
theorem dX6_reckon_287 : decode cX6_reckon 287 = .ok (.iload_n 2, 1) := by decide +kernel
theorem dX6_reckon_288 : decode cX6_reckon 288 = .ok (.invokevirtual 169, 3) := by decide +kernel
theorem dX6_reckon_291 : decode cX6_reckon 291 = .ok (.iconst 1, 1) := by decide +kernel
theorem dX6_reckon_292 : decode cX6_reckon 292 = .ok (.isub, 1) := by decide +kernel
theorem dX6_reckon_293 : decode cX6_reckon 293 = .ok (.invokevirtual 173, 3) := by decide +kernel
theorem dX6_reckon_296 : decode cX6_reckon 296 = .ok (.goto 113, 3) := by decide +kernel
theorem dX6_reckon_299 : decode cX6_reckon 299 = .ok (.aload_n 0, 1) := by decide +kernel
theorem dX6_reckon_300 : decode cX6_reckon 300 = .ok (.iload_n 1, 1) := by decide +kernel
theorem dX6_reckon_301 : decode cX6_reckon 301 = .ok (.iconst 0, 1) := by decide +kernel
theorem dX6_reckon_302 : decode cX6_reckon 302 = .ok (.iload_n 2, 1) := by decide +kernel
theorem dX6_reckon_303 : decode cX6_reckon 303 = .ok (.iconst 0, 1) := by decide +kernel
theorem dX6_reckon_304 : decode cX6_reckon 304 = .ok (.invokevirtual 173, 3) := by decide +kernel
theorem dX6_reckon_307 : decode cX6_reckon 307 = .ok (.goto 102, 3) := by decide +kernel
theorem dX6_reckon_310 : decode cX6_reckon 310 = .ok (.aload_n 0, 1) := by decide +kernel
theorem dX6_reckon_311 : decode cX6_reckon 311 = .ok (.iload_n 1, 1) := by decide +kernel
theorem dX6_reckon_312 : decode cX6_reckon 312 = .ok (.iconst 0, 1) := by decide +kernel
theorem dX6_reckon_313 : decode cX6_reckon 313 = .ok (.bipush 15, 2) := by decide +kernel
theorem dX6_reckon_315 : decode cX6_reckon 315 = .ok (.iload_n 2, 1) := by decide +kernel
theorem dX6_reckon_316 : decode cX6_reckon 316 = .ok (.invokevirtual 173, 3) := by decide +kernel
theorem dX6_reckon_319 : decode cX6_reckon 319 = .ok (.goto 90, 3) := by decide +kernel
theorem dX6_reckon_322 : decode cX6_reckon 322 = .ok (.iload 5, 2) := by decide +kernel
theorem dX6_reckon_324 : decode cX6_reckon 324 = .ok (.ifCond .eq 10, 3) := by decide +kernel
theorem dX6_reckon_327 : decode cX6_reckon 327 = .ok (.aload_n 0, 1) := by decide +kernel
theorem dX6_reckon_328 : decode cX6_reckon 328 = .ok (.invokevirtual 114, 3) := by decide +kernel
theorem dX6_reckon_331 : decode cX6_reckon 331 = .ok (.goto 78, 3) := by decide +kernel
theorem dX6_reckon_334 : decode cX6_reckon 334 = .ok (.aload_n 0, 1) := by decide +kernel
theorem dX6_reckon_335 : decode cX6_reckon 335 = .ok (.aload_n 0, 1) := by decide +kernel
theorem dX6_reckon_336 : decode cX6_reckon 336 = .ok (.iload_n 1, 1) := by decide +kernel
theorem dX6_reckon_337 : decode cX6_reckon 337 = .ok (.iload_n 2, 1) := by decide +kernel
theorem dX6_reckon_338 : decode cX6_reckon 338 = .ok (.invokevirtual 177, 3) := by decide +kernel
theorem dX6_reckon_341 : decode cX6_reckon 341 = .ok (.i2d, 1) := by decide +kernel
theorem dX6_reckon_342 : decode cX6_reckon 342 = .ok (.invokevirtual 94, 3) := by decide +kernel
theorem dX6_reckon_345 : decode cX6_reckon 345 = .ok (.goto 64, 3) := by decide +kernel
theorem dX6_reckon_348 : decode cX6_reckon 348 = .ok (.iload 5, 2) := by decide +kernel
theorem dX6_reckon_350 : decode cX6_reckon 350 = .ok (.ifCond .ne 18, 3) := by decide +kernel
theorem dX6_reckon_353 : decode cX6_reckon 353 = .ok (.iload_n 2, 1) := by decide +kernel
theorem dX6_reckon_354 : decode cX6_reckon 354 = .ok (.ifCond .eq 14, 3) := by decide +kernel
theorem dX6_reckon_357 : decode cX6_reckon 357 = .ok (.aload_n 0, 1) := by decide +kernel
theorem dX6_reckon_358 : decode cX6_reckon 358 = .ok (.iload_n 1, 1) := by decide +kernel
theorem dX6_reckon_359 : decode cX6_reckon 359 = .ok (.iload_n 2, 1) := by decide +kernel
theorem dX6_reckon_360 : decode cX6_reckon 360 = .ok (.iconst 1, 1) := by decide +kernel
theorem dX6_reckon_361 : decode cX6_reckon 361 = .ok (.isub, 1) := by decide +kernel
theorem dX6_reckon_362 : decode cX6_reckon 362 = .ok (.invokevirtual 140, 3) := by decide +kernel
theorem dX6_reckon_365 : decode cX6_reckon 365 = .ok (.ifCond .eq 10, 3) := by decide +kernel
theorem dX6_reckon_368 : decode cX6_reckon 368 = .ok (.aload_n 0, 1) := by decide +kernel
theorem dX6_reckon_369 : decode cX6_reckon 369 = .ok (.invokevirtual 114, 3) := by decide +kernel
theorem dX6_reckon_372 : decode cX6_reckon 372 = .ok (.goto 37, 3) := by decide +kernel
theorem dX6_reckon_375 : decode cX6_reckon 375 = .ok (.aload_n 0, 1) := by decide +kernel
theorem dX6_reckon_376 : decode cX6_reckon 376 = .ok (.aload_n 0, 1) := by decide +kernel
theorem dX6_reckon_377 : decode cX6_reckon 377 = .ok (.iload_n 1, 1) := by decide +kernel
theorem dX6_reckon_378 : decode cX6_reckon 378 = .ok (.iload_n 2, 1) := by decide +kernel
theorem dX6_reckon_379 : decode cX6_reckon 379 = .ok (.invokevirtual 136, 3) := by decide +kernel
theorem dX6_reckon_382 : decode cX6_reckon 382 = .ok (.aload_n 0, 1) := by decide +kernel
theorem dX6_reckon_383 : decode cX6_reckon 383 = .ok (.iload_n 1, 1) := by decide +kernel
theorem dX6_reckon_384 : decode cX6_reckon 384 = .ok (.iload_n 2, 1) := by decide +kernel
theorem dX6_reckon_385 : decode cX6_reckon 385 = .ok (.iconst 1, 1) := by decide +kernel
theorem dX6_reckon_386 : decode cX6_reckon 386 = .ok (.isub, 1) := by decide +kernel
theorem dX6_reckon_387 : decode cX6_reckon 387 = .ok (.invokevirtual 136, 3) := by decide +kernel
theorem dX6_reckon_390 : decode cX6_reckon 390 = .ok (.iload 4, 2) := by decide +kernel
theorem dX6_reckon_392 : decode cX6_reckon 392 = .ok (.invokevirtual 120, 3) := by decide +kernel
theorem dX6_reckon_395 : decode cX6_reckon 395 = .ok (.goto 14, 3) := by decide +kernel
theorem dX6_reckon_398 : decode cX6_reckon 398 = .ok (.aload_n 0, 1) := by decide +kernel
theorem dX6_reckon_399 : decode cX6_reckon 399 = .ok (.aload_n 0, 1) := by decide +kernel
theorem dX6_reckon_400 : decode cX6_reckon 400 = .ok (.iload_n 1, 1) := by decide +kernel
theorem dX6_reckon_401 : decode cX6_reckon 401 = .ok (.iload_n 2, 1) := by decide +kernel
theorem dX6_reckon_402 : decode cX6_reckon 402 = .ok (.invokevirtual 180, 3) := by decide +kernel
theorem dX6_reckon_405 : decode cX6_reckon 405 = .ok (.i2d, 1) := by decide +kernel
theorem dX6_reckon_406 : decode cX6_reckon 406 = .ok (.invokevirtual 94, 3) := by decide +kernel
theorem dX6_reckon_409 : decode cX6_reckon 409 = .ok (.return_, 1) := by decide +kernel
theorem dX6_reckonAll_0 : decode cX6_reckonAll 0 = .ok (.sipush 192, 3) := by decide +kernel
theorem dX6_reckonAll_3 : decode cX6_reckonAll 3 = .ok (.istore_n 1, 1) := by decide +kernel
theorem dX6_reckonAll_4 : decode cX6_reckonAll 4 = .ok (.iload_n 1, 1) := by decide +kernel
theorem dX6_reckonAll_5 : decode cX6_reckonAll 5 = .ok (.sipush 200, 3) := by decide +kernel
theorem dX6_reckonAll_8 : decode cX6_reckonAll 8 = .ok (.if_icmp .ge 33, 3) := by decide +kernel
theorem dX6_reckonAll_11 : decode cX6_reckonAll 11 = .ok (.aload_n 0, 1) := by decide +kernel
theorem dX6_reckonAll_12 : decode cX6_reckonAll 12 = .ok (.getfield 26, 3) := by decide +kernel
theorem dX6_reckonAll_15 : decode cX6_reckonAll 15 = .ok (.iload_n 1, 1) := by decide +kernel
theorem dX6_reckonAll_16 : decode cX6_reckonAll 16 = .ok (.aload_n 0, 1) := by decide +kernel
theorem dX6_reckonAll_17 : decode cX6_reckonAll 17 = .ok (.getfield 9, 3) := by decide +kernel
theorem dX6_reckonAll_20 : decode cX6_reckonAll 20 = .ok (.iload_n 1, 1) := by decide +kernel
theorem dX6_reckonAll_21 : decode cX6_reckonAll 21 = .ok (.daload, 1) := by decide +kernel
theorem dX6_reckonAll_22 : decode cX6_reckonAll 22 = .ok (.dastore, 1) := by decide +kernel
theorem dX6_reckonAll_23 : decode cX6_reckonAll 23 = .ok (.aload_n 0, 1) := by decide +kernel
theorem dX6_reckonAll_24 : decode cX6_reckonAll 24 = .ok (.getfield 29, 3) := by decide +kernel
theorem dX6_reckonAll_27 : decode cX6_reckonAll 27 = .ok (.iload_n 1, 1) := by decide +kernel
theorem dX6_reckonAll_28 : decode cX6_reckonAll 28 = .ok (.aload_n 0, 1) := by decide +kernel
theorem dX6_reckonAll_29 : decode cX6_reckonAll 29 = .ok (.getfield 15, 3) := by decide +kernel
theorem dX6_reckonAll_32 : decode cX6_reckonAll 32 = .ok (.iload_n 1, 1) := by decide +kernel
theorem dX6_reckonAll_33 : decode cX6_reckonAll 33 = .ok (.baload, 1) := by decide +kernel
theorem dX6_reckonAll_34 : decode cX6_reckonAll 34 = .ok (.bastore, 1) := by decide +kernel
theorem dX6_reckonAll_35 : decode cX6_reckonAll 35 = .ok (.iinc 1 1, 3) := by decide +kernel
theorem dX6_reckonAll_38 : decode cX6_reckonAll 38 = .ok (.goto (-34), 3) := by decide +kernel
theorem dX6_reckonAll_41 : decode cX6_reckonAll 41 = .ok (.iconst 0, 1) := by decide +kernel
theorem dX6_reckonAll_42 : decode cX6_reckonAll 42 = .ok (.istore_n 1, 1) := by decide +kernel
theorem dX6_reckonAll_43 : decode cX6_reckonAll 43 = .ok (.iload_n 1, 1) := by decide +kernel
theorem dX6_reckonAll_44 : decode cX6_reckonAll 44 = .ok (.bipush 12, 2) := by decide +kernel
theorem dX6_reckonAll_46 : decode cX6_reckonAll 46 = .ok (.if_icmp .ge 94, 3) := by decide +kernel
theorem dX6_reckonAll_49 : decode cX6_reckonAll 49 = .ok (.iconst 0, 1) := by decide +kernel
theorem dX6_reckonAll_50 : decode cX6_reckonAll 50 = .ok (.istore_n 2, 1) := by decide +kernel
theorem dX6_reckonAll_51 : decode cX6_reckonAll 51 = .ok (.iload_n 2, 1) := by decide +kernel
theorem dX6_reckonAll_52 : decode cX6_reckonAll 52 = .ok (.bipush 16, 2) := by decide +kernel
theorem dX6_reckonAll_54 : decode cX6_reckonAll 54 = .ok (.if_icmp .ge 80, 3) := by decide +kernel
theorem dX6_reckonAll_57 : decode cX6_reckonAll 57 = .ok (.bipush 16, 2) := by decide +kernel
theorem dX6_reckonAll_59 : decode cX6_reckonAll 59 = .ok (.iload_n 1, 1) := by decide +kernel
theorem dX6_reckonAll_60 : decode cX6_reckonAll 60 = .ok (.imul, 1) := by decide +kernel
theorem dX6_reckonAll_61 : decode cX6_reckonAll 61 = .ok (.iload_n 2, 1) := by decide +kernel
theorem dX6_reckonAll_62 : decode cX6_reckonAll 62 = .ok (.iadd, 1) := by decide +kernel
theorem dX6_reckonAll_63 : decode cX6_reckonAll 63 = .ok (.istore_n 3, 1) := by decide +kernel
theorem dX6_reckonAll_64 : decode cX6_reckonAll 64 = .ok (.aload_n 0, 1) := by decide +kernel
theorem dX6_reckonAll_65 : decode cX6_reckonAll 65 = .ok (.getfield 22, 3) := by decide +kernel
theorem dX6_reckonAll_68 : decode cX6_reckonAll 68 = .ok (.iconst 4, 1) := by decide +kernel
theorem dX6_reckonAll_69 : decode cX6_reckonAll 69 = .ok (.iload_n 1, 1) := by decide +kernel
theorem dX6_reckonAll_70 : decode cX6_reckonAll 70 = .ok (.imul, 1) := by decide +kernel
theorem dX6_reckonAll_71 : decode cX6_reckonAll 71 = .ok (.iaload, 1) := by decide +kernel
theorem dX6_reckonAll_72 : decode cX6_reckonAll 72 = .ok (.ifCond .ge 30, 3) := by decide +kernel
theorem dX6_reckonAll_75 : decode cX6_reckonAll 75 = .ok (.aload_n 0, 1) := by decide +kernel
theorem dX6_reckonAll_76 : decode cX6_reckonAll 76 = .ok (.getfield 26, 3) := by decide +kernel
theorem dX6_reckonAll_79 : decode cX6_reckonAll 79 = .ok (.iload_n 3, 1) := by decide +kernel
theorem dX6_reckonAll_80 : decode cX6_reckonAll 80 = .ok (.aload_n 0, 1) := by decide +kernel
theorem dX6_reckonAll_81 : decode cX6_reckonAll 81 = .ok (.getfield 9, 3) := by decide +kernel
theorem dX6_reckonAll_84 : decode cX6_reckonAll 84 = .ok (.iload_n 3, 1) := by decide +kernel
theorem dX6_reckonAll_85 : decode cX6_reckonAll 85 = .ok (.daload, 1) := by decide +kernel
theorem dX6_reckonAll_86 : decode cX6_reckonAll 86 = .ok (.dastore, 1) := by decide +kernel
theorem dX6_reckonAll_87 : decode cX6_reckonAll 87 = .ok (.aload_n 0, 1) := by decide +kernel
theorem dX6_reckonAll_88 : decode cX6_reckonAll 88 = .ok (.getfield 29, 3) := by decide +kernel
theorem dX6_reckonAll_91 : decode cX6_reckonAll 91 = .ok (.iload_n 3, 1) := by decide +kernel
theorem dX6_reckonAll_92 : decode cX6_reckonAll 92 = .ok (.aload_n 0, 1) := by decide +kernel
theorem dX6_reckonAll_93 : decode cX6_reckonAll 93 = .ok (.getfield 15, 3) := by decide +kernel
theorem dX6_reckonAll_96 : decode cX6_reckonAll 96 = .ok (.iload_n 3, 1) := by decide +kernel
theorem dX6_reckonAll_97 : decode cX6_reckonAll 97 = .ok (.baload, 1) := by decide +kernel
theorem dX6_reckonAll_98 : decode cX6_reckonAll 98 = .ok (.bastore, 1) := by decide +kernel
theorem dX6_reckonAll_99 : decode cX6_reckonAll 99 = .ok (.goto 29, 3) := by decide +kernel
theorem dX6_reckonAll_102 : decode cX6_reckonAll 102 = .ok (.aload_n 0, 1) := by decide +kernel
theorem dX6_reckonAll_103 : decode cX6_reckonAll 103 = .ok (.iload_n 1, 1) := by decide +kernel
theorem dX6_reckonAll_104 : decode cX6_reckonAll 104 = .ok (.iload_n 2, 1) := by decide +kernel
theorem dX6_reckonAll_105 : decode cX6_reckonAll 105 = .ok (.invokevirtual 183, 3) := by decide +kernel
theorem dX6_reckonAll_108 : decode cX6_reckonAll 108 = .ok (.aload_n 0, 1) := by decide +kernel
theorem dX6_reckonAll_109 : decode cX6_reckonAll 109 = .ok (.getfield 26, 3) := by decide +kernel
theorem dX6_reckonAll_112 : decode cX6_reckonAll 112 = .ok (.iload_n 3, 1) := by decide +kernel
theorem dX6_reckonAll_113 : decode cX6_reckonAll 113 = .ok (.aload_n 0, 1) := by decide +kernel
theorem dX6_reckonAll_114 : decode cX6_reckonAll 114 = .ok (.getfield 86, 3) := by decide +kernel
theorem dX6_reckonAll_117 : decode cX6_reckonAll 117 = .ok (.dastore, 1) := by decide +kernel
theorem dX6_reckonAll_118 : decode cX6_reckonAll 118 = .ok (.aload_n 0, 1) := by decide +kernel
theorem dX6_reckonAll_119 : decode cX6_reckonAll 119 = .ok (.getfield 29, 3) := by decide +kernel
theorem dX6_reckonAll_122 : decode cX6_reckonAll 122 = .ok (.iload_n 3, 1) := by decide +kernel
theorem dX6_reckonAll_123 : decode cX6_reckonAll 123 = .ok (.aload_n 0, 1) := by decide +kernel
theorem dX6_reckonAll_124 : decode cX6_reckonAll 124 = .ok (.getfield 90, 3) := by decide +kernel
theorem dX6_reckonAll_127 : decode cX6_reckonAll 127 = .ok (.bastore, 1) := by decide +kernel
theorem dX6_reckonAll_128 : decode cX6_reckonAll 128 = .ok (.iinc 2 1, 3) := by decide +kernel
theorem dX6_reckonAll_131 : decode cX6_reckonAll 131 = .ok (.goto (-80), 3) := by decide +kernel
theorem dX6_reckonAll_134 : decode cX6_reckonAll 134 = .ok (.iinc 1 1, 3) := by decide +kernel
theorem dX6_reckonAll_137 : decode cX6_reckonAll 137 = .ok (.goto (-94), 3) := by decide +kernel
theorem dX6_reckonAll_140 : decode cX6_reckonAll 140 = .ok (.return_, 1) := by decide +kernel
theorem dX6_changed_0 : decode cX6_changed 0 = .ok (.aload_n 0, 1) := by decide +kernel
theorem dX6_changed_1 : decode cX6_changed 1 = .ok (.dup, 1) := by decide +kernel
theorem dX6_changed_2 : decode cX6_changed 2 = .ok (.getfield 187, 3) := by decide +kernel
theorem dX6_changed_5 : decode cX6_changed 5 = .ok (.iconst 1, 1) := by decide +kernel
theorem dX6_changed_6 : decode cX6_changed 6 = .ok (.iadd, 1) := by decide +kernel
theorem dX6_changed_7 : decode cX6_changed 7 = .ok (.putfield 187, 3) := by decide +kernel
theorem dX6_changed_10 : decode cX6_changed 10 = .ok (.iconst 1, 1) := by decide +kernel
theorem dX6_changed_11 : decode cX6_changed 11 = .ok (.ireturn, 1) := by decide +kernel
theorem dX6_picture_0 : decode cX6_picture 0 = .ok (.iconst 0, 1) := by decide +kernel
theorem dX6_picture_1 : decode cX6_picture 1 = .ok (.istore_n 1, 1) := by decide +kernel
theorem dX6_picture_2 : decode cX6_picture 2 = .ok (.iload_n 1, 1) := by decide +kernel
theorem dX6_picture_3 : decode cX6_picture 3 = .ok (.sipush 200, 3) := by decide +kernel
theorem dX6_picture_6 : decode cX6_picture 6 = .ok (.if_icmp .ge 51, 3) := by decide +kernel
theorem dX6_picture_9 : decode cX6_picture 9 = .ok (.aload_n 0, 1) := by decide +kernel
theorem dX6_picture_10 : decode cX6_picture 10 = .ok (.getfield 33, 3) := by decide +kernel
theorem dX6_picture_13 : decode cX6_picture 13 = .ok (.sipush 200, 3) := by decide +kernel
theorem dX6_picture_16 : decode cX6_picture 16 = .ok (.aload_n 0, 1) := by decide +kernel
theorem dX6_picture_17 : decode cX6_picture 17 = .ok (.getfield 187, 3) := by decide +kernel
theorem dX6_picture_20 : decode cX6_picture 20 = .ok (.imul, 1) := by decide +kernel
theorem dX6_picture_21 : decode cX6_picture 21 = .ok (.iload_n 1, 1) := by decide +kernel
theorem dX6_picture_22 : decode cX6_picture 22 = .ok (.iadd, 1) := by decide +kernel
theorem dX6_picture_23 : decode cX6_picture 23 = .ok (.aload_n 0, 1) := by decide +kernel
theorem dX6_picture_24 : decode cX6_picture 24 = .ok (.getfield 9, 3) := by decide +kernel
theorem dX6_picture_27 : decode cX6_picture 27 = .ok (.iload_n 1, 1) := by decide +kernel
theorem dX6_picture_28 : decode cX6_picture 28 = .ok (.daload, 1) := by decide +kernel
theorem dX6_picture_29 : decode cX6_picture 29 = .ok (.dastore, 1) := by decide +kernel
theorem dX6_picture_30 : decode cX6_picture 30 = .ok (.aload_n 0, 1) := by decide +kernel
theorem dX6_picture_31 : decode cX6_picture 31 = .ok (.getfield 36, 3) := by decide +kernel
theorem dX6_picture_34 : decode cX6_picture 34 = .ok (.sipush 200, 3) := by decide +kernel
theorem dX6_picture_37 : decode cX6_picture 37 = .ok (.aload_n 0, 1) := by decide +kernel
theorem dX6_picture_38 : decode cX6_picture 38 = .ok (.getfield 187, 3) := by decide +kernel
theorem dX6_picture_41 : decode cX6_picture 41 = .ok (.imul, 1) := by decide +kernel
theorem dX6_picture_42 : decode cX6_picture 42 = .ok (.iload_n 1, 1) := by decide +kernel
theorem dX6_picture_43 : decode cX6_picture 43 = .ok (.iadd, 1) := by decide +kernel
theorem dX6_picture_44 : decode cX6_picture 44 = .ok (.aload_n 0, 1) := by decide +kernel
theorem dX6_picture_45 : decode cX6_picture 45 = .ok (.getfield 15, 3) := by decide +kernel
theorem dX6_picture_48 : decode cX6_picture 48 = .ok (.iload_n 1, 1) := by decide +kernel
theorem dX6_picture_49 : decode cX6_picture 49 = .ok (.baload, 1) := by decide +kernel
theorem dX6_picture_50 : decode cX6_picture 50 = .ok (.bastore, 1) := by decide +kernel
theorem dX6_picture_51 : decode cX6_picture 51 = .ok (.iinc 1 1, 3) := by decide +kernel
theorem dX6_picture_54 : decode cX6_picture 54 = .ok (.goto (-52), 3) := by decide +kernel
theorem dX6_picture_57 : decode cX6_picture 57 = .ok (.iconst 0, 1) := by decide +kernel
theorem dX6_picture_58 : decode cX6_picture 58 = .ok (.istore_n 1, 1) := by decide +kernel
theorem dX6_picture_59 : decode cX6_picture 59 = .ok (.iload_n 1, 1) := by decide +kernel
theorem dX6_picture_60 : decode cX6_picture 60 = .ok (.bipush 12, 2) := by decide +kernel
theorem dX6_picture_62 : decode cX6_picture 62 = .ok (.if_icmp .ge 29, 3) := by decide +kernel
theorem dX6_picture_65 : decode cX6_picture 65 = .ok (.aload_n 0, 1) := by decide +kernel
theorem dX6_picture_66 : decode cX6_picture 66 = .ok (.getfield 39, 3) := by decide +kernel
theorem dX6_picture_69 : decode cX6_picture 69 = .ok (.bipush 12, 2) := by decide +kernel
theorem dX6_picture_71 : decode cX6_picture 71 = .ok (.aload_n 0, 1) := by decide +kernel
theorem dX6_picture_72 : decode cX6_picture 72 = .ok (.getfield 187, 3) := by decide +kernel
theorem dX6_picture_75 : decode cX6_picture 75 = .ok (.imul, 1) := by decide +kernel
theorem dX6_picture_76 : decode cX6_picture 76 = .ok (.iload_n 1, 1) := by decide +kernel
theorem dX6_picture_77 : decode cX6_picture 77 = .ok (.iadd, 1) := by decide +kernel
theorem dX6_picture_78 : decode cX6_picture 78 = .ok (.aload_n 0, 1) := by decide +kernel
theorem dX6_picture_79 : decode cX6_picture 79 = .ok (.getfield 19, 3) := by decide +kernel
theorem dX6_picture_82 : decode cX6_picture 82 = .ok (.iload_n 1, 1) := by decide +kernel
theorem dX6_picture_83 : decode cX6_picture 83 = .ok (.baload, 1) := by decide +kernel
theorem dX6_picture_84 : decode cX6_picture 84 = .ok (.bastore, 1) := by decide +kernel
theorem dX6_picture_85 : decode cX6_picture 85 = .ok (.iinc 1 1, 3) := by decide +kernel
theorem dX6_picture_88 : decode cX6_picture 88 = .ok (.goto (-29), 3) := by decide +kernel
theorem dX6_picture_91 : decode cX6_picture 91 = .ok (.iconst 0, 1) := by decide +kernel
theorem dX6_picture_92 : decode cX6_picture 92 = .ok (.istore_n 1, 1) := by decide +kernel
theorem dX6_picture_93 : decode cX6_picture 93 = .ok (.iload_n 1, 1) := by decide +kernel
theorem dX6_picture_94 : decode cX6_picture 94 = .ok (.bipush 48, 2) := by decide +kernel
theorem dX6_picture_96 : decode cX6_picture 96 = .ok (.if_icmp .ge 29, 3) := by decide +kernel
theorem dX6_picture_99 : decode cX6_picture 99 = .ok (.aload_n 0, 1) := by decide +kernel
theorem dX6_picture_100 : decode cX6_picture 100 = .ok (.getfield 42, 3) := by decide +kernel
theorem dX6_picture_103 : decode cX6_picture 103 = .ok (.bipush 48, 2) := by decide +kernel
theorem dX6_picture_105 : decode cX6_picture 105 = .ok (.aload_n 0, 1) := by decide +kernel
theorem dX6_picture_106 : decode cX6_picture 106 = .ok (.getfield 187, 3) := by decide +kernel
theorem dX6_picture_109 : decode cX6_picture 109 = .ok (.imul, 1) := by decide +kernel
theorem dX6_picture_110 : decode cX6_picture 110 = .ok (.iload_n 1, 1) := by decide +kernel
theorem dX6_picture_111 : decode cX6_picture 111 = .ok (.iadd, 1) := by decide +kernel
theorem dX6_picture_112 : decode cX6_picture 112 = .ok (.aload_n 0, 1) := by decide +kernel
theorem dX6_picture_113 : decode cX6_picture 113 = .ok (.getfield 22, 3) := by decide +kernel
theorem dX6_picture_116 : decode cX6_picture 116 = .ok (.iload_n 1, 1) := by decide +kernel
theorem dX6_picture_117 : decode cX6_picture 117 = .ok (.iaload, 1) := by decide +kernel
theorem dX6_picture_118 : decode cX6_picture 118 = .ok (.iastore, 1) := by decide +kernel
theorem dX6_picture_119 : decode cX6_picture 119 = .ok (.iinc 1 1, 3) := by decide +kernel
theorem dX6_picture_122 : decode cX6_picture 122 = .ok (.goto (-29), 3) := by decide +kernel
theorem dX6_picture_125 : decode cX6_picture 125 = .ok (.return_, 1) := by decide +kernel
theorem dX6_back_0 : decode cX6_back 0 = .ok (.aload_n 0, 1) := by decide +kernel
theorem dX6_back_1 : decode cX6_back 1 = .ok (.getfield 187, 3) := by decide +kernel
theorem dX6_back_4 : decode cX6_back 4 = .ok (.ifCond .ne 5, 3) := by decide +kernel
theorem dX6_back_7 : decode cX6_back 7 = .ok (.iconst (-1), 1) := by decide +kernel
theorem dX6_back_8 : decode cX6_back 8 = .ok (.ireturn, 1) := by decide +kernel
theorem dX6_back_9 : decode cX6_back 9 = .ok (.aload_n 0, 1) := by decide +kernel
theorem dX6_back_10 : decode cX6_back 10 = .ok (.dup, 1) := by decide +kernel
theorem dX6_back_11 : decode cX6_back 11 = .ok (.getfield 187, 3) := by decide +kernel
theorem dX6_back_14 : decode cX6_back 14 = .ok (.iconst 1, 1) := by decide +kernel
theorem dX6_back_15 : decode cX6_back 15 = .ok (.isub, 1) := by decide +kernel
theorem dX6_back_16 : decode cX6_back 16 = .ok (.putfield 187, 3) := by decide +kernel
theorem dX6_back_19 : decode cX6_back 19 = .ok (.iconst 0, 1) := by decide +kernel
theorem dX6_back_20 : decode cX6_back 20 = .ok (.istore_n 1, 1) := by decide +kernel
theorem dX6_back_21 : decode cX6_back 21 = .ok (.iload_n 1, 1) := by decide +kernel
theorem dX6_back_22 : decode cX6_back 22 = .ok (.sipush 200, 3) := by decide +kernel
theorem dX6_back_25 : decode cX6_back 25 = .ok (.if_icmp .ge 51, 3) := by decide +kernel
theorem dX6_back_28 : decode cX6_back 28 = .ok (.aload_n 0, 1) := by decide +kernel
theorem dX6_back_29 : decode cX6_back 29 = .ok (.getfield 9, 3) := by decide +kernel
theorem dX6_back_32 : decode cX6_back 32 = .ok (.iload_n 1, 1) := by decide +kernel
theorem dX6_back_33 : decode cX6_back 33 = .ok (.aload_n 0, 1) := by decide +kernel
theorem dX6_back_34 : decode cX6_back 34 = .ok (.getfield 33, 3) := by decide +kernel
theorem dX6_back_37 : decode cX6_back 37 = .ok (.sipush 200, 3) := by decide +kernel
theorem dX6_back_40 : decode cX6_back 40 = .ok (.aload_n 0, 1) := by decide +kernel
theorem dX6_back_41 : decode cX6_back 41 = .ok (.getfield 187, 3) := by decide +kernel
theorem dX6_back_44 : decode cX6_back 44 = .ok (.imul, 1) := by decide +kernel
theorem dX6_back_45 : decode cX6_back 45 = .ok (.iload_n 1, 1) := by decide +kernel
theorem dX6_back_46 : decode cX6_back 46 = .ok (.iadd, 1) := by decide +kernel
theorem dX6_back_47 : decode cX6_back 47 = .ok (.daload, 1) := by decide +kernel
theorem dX6_back_48 : decode cX6_back 48 = .ok (.dastore, 1) := by decide +kernel
theorem dX6_back_49 : decode cX6_back 49 = .ok (.aload_n 0, 1) := by decide +kernel
theorem dX6_back_50 : decode cX6_back 50 = .ok (.getfield 15, 3) := by decide +kernel
theorem dX6_back_53 : decode cX6_back 53 = .ok (.iload_n 1, 1) := by decide +kernel
theorem dX6_back_54 : decode cX6_back 54 = .ok (.aload_n 0, 1) := by decide +kernel
theorem dX6_back_55 : decode cX6_back 55 = .ok (.getfield 36, 3) := by decide +kernel
theorem dX6_back_58 : decode cX6_back 58 = .ok (.sipush 200, 3) := by decide +kernel
theorem dX6_back_61 : decode cX6_back 61 = .ok (.aload_n 0, 1) := by decide +kernel
theorem dX6_back_62 : decode cX6_back 62 = .ok (.getfield 187, 3) := by decide +kernel
theorem dX6_back_65 : decode cX6_back 65 = .ok (.imul, 1) := by decide +kernel
theorem dX6_back_66 : decode cX6_back 66 = .ok (.iload_n 1, 1) := by decide +kernel
theorem dX6_back_67 : decode cX6_back 67 = .ok (.iadd, 1) := by decide +kernel
theorem dX6_back_68 : decode cX6_back 68 = .ok (.baload, 1) := by decide +kernel
theorem dX6_back_69 : decode cX6_back 69 = .ok (.bastore, 1) := by decide +kernel
theorem dX6_back_70 : decode cX6_back 70 = .ok (.iinc 1 1, 3) := by decide +kernel
theorem dX6_back_73 : decode cX6_back 73 = .ok (.goto (-52), 3) := by decide +kernel
theorem dX6_back_76 : decode cX6_back 76 = .ok (.iconst 0, 1) := by decide +kernel
theorem dX6_back_77 : decode cX6_back 77 = .ok (.istore_n 1, 1) := by decide +kernel
theorem dX6_back_78 : decode cX6_back 78 = .ok (.iload_n 1, 1) := by decide +kernel
theorem dX6_back_79 : decode cX6_back 79 = .ok (.bipush 12, 2) := by decide +kernel
theorem dX6_back_81 : decode cX6_back 81 = .ok (.if_icmp .ge 29, 3) := by decide +kernel
theorem dX6_back_84 : decode cX6_back 84 = .ok (.aload_n 0, 1) := by decide +kernel
theorem dX6_back_85 : decode cX6_back 85 = .ok (.getfield 19, 3) := by decide +kernel
theorem dX6_back_88 : decode cX6_back 88 = .ok (.iload_n 1, 1) := by decide +kernel
theorem dX6_back_89 : decode cX6_back 89 = .ok (.aload_n 0, 1) := by decide +kernel
theorem dX6_back_90 : decode cX6_back 90 = .ok (.getfield 39, 3) := by decide +kernel
theorem dX6_back_93 : decode cX6_back 93 = .ok (.bipush 12, 2) := by decide +kernel
theorem dX6_back_95 : decode cX6_back 95 = .ok (.aload_n 0, 1) := by decide +kernel
theorem dX6_back_96 : decode cX6_back 96 = .ok (.getfield 187, 3) := by decide +kernel
theorem dX6_back_99 : decode cX6_back 99 = .ok (.imul, 1) := by decide +kernel
theorem dX6_back_100 : decode cX6_back 100 = .ok (.iload_n 1, 1) := by decide +kernel
theorem dX6_back_101 : decode cX6_back 101 = .ok (.iadd, 1) := by decide +kernel
theorem dX6_back_102 : decode cX6_back 102 = .ok (.baload, 1) := by decide +kernel
theorem dX6_back_103 : decode cX6_back 103 = .ok (.bastore, 1) := by decide +kernel
theorem dX6_back_104 : decode cX6_back 104 = .ok (.iinc 1 1, 3) := by decide +kernel
theorem dX6_back_107 : decode cX6_back 107 = .ok (.goto (-29), 3) := by decide +kernel
theorem dX6_back_110 : decode cX6_back 110 = .ok (.iconst 0, 1) := by decide +kernel
theorem dX6_back_111 : decode cX6_back 111 = .ok (.istore_n 1, 1) := by decide +kernel
theorem dX6_back_112 : decode cX6_back 112 = .ok (.iload_n 1, 1) := by decide +kernel
theorem dX6_back_113 : decode cX6_back 113 = .ok (.bipush 48, 2) := by decide +kernel
theorem dX6_back_115 : decode cX6_back 115 = .ok (.if_icmp .ge 29, 3) := by decide +kernel
theorem dX6_back_118 : decode cX6_back 118 = .ok (.aload_n 0, 1) := by decide +kernel
theorem dX6_back_119 : decode cX6_back 119 = .ok (.getfield 22, 3) := by decide +kernel
theorem dX6_back_122 : decode cX6_back 122 = .ok (.iload_n 1, 1) := by decide +kernel
theorem dX6_back_123 : decode cX6_back 123 = .ok (.aload_n 0, 1) := by decide +kernel
theorem dX6_back_124 : decode cX6_back 124 = .ok (.getfield 42, 3) := by decide +kernel
theorem dX6_back_127 : decode cX6_back 127 = .ok (.bipush 48, 2) := by decide +kernel
theorem dX6_back_129 : decode cX6_back 129 = .ok (.aload_n 0, 1) := by decide +kernel
theorem dX6_back_130 : decode cX6_back 130 = .ok (.getfield 187, 3) := by decide +kernel
theorem dX6_back_133 : decode cX6_back 133 = .ok (.imul, 1) := by decide +kernel
theorem dX6_back_134 : decode cX6_back 134 = .ok (.iload_n 1, 1) := by decide +kernel
theorem dX6_back_135 : decode cX6_back 135 = .ok (.iadd, 1) := by decide +kernel
theorem dX6_back_136 : decode cX6_back 136 = .ok (.iaload, 1) := by decide +kernel
theorem dX6_back_137 : decode cX6_back 137 = .ok (.iastore, 1) := by decide +kernel
theorem dX6_back_138 : decode cX6_back 138 = .ok (.iinc 1 1, 3) := by decide +kernel
theorem dX6_back_141 : decode cX6_back 141 = .ok (.goto (-29), 3) := by decide +kernel
theorem dX6_back_144 : decode cX6_back 144 = .ok (.aload_n 0, 1) := by decide +kernel
theorem dX6_back_145 : decode cX6_back 145 = .ok (.getfield 187, 3) := by decide +kernel
theorem dX6_back_148 : decode cX6_back 148 = .ok (.ireturn, 1) := by decide +kernel
theorem dX6_canSet_0 : decode cX6_canSet 0 = .ok (.iload_n 1, 1) := by decide +kernel
theorem dX6_canSet_1 : decode cX6_canSet 1 = .ok (.iconst 0, 1) := by decide +kernel
theorem dX6_canSet_2 : decode cX6_canSet 2 = .ok (.bipush 11, 2) := by decide +kernel
theorem dX6_canSet_4 : decode cX6_canSet 4 = .ok (.invokestatic 191, 3) := by decide +kernel
theorem dX6_canSet_7 : decode cX6_canSet 7 = .ok (.ifCond .eq 28, 3) := by decide +kernel
theorem dX6_canSet_10 : decode cX6_canSet 10 = .ok (.iload_n 2, 1) := by decide +kernel
theorem dX6_canSet_11 : decode cX6_canSet 11 = .ok (.iconst 0, 1) := by decide +kernel
theorem dX6_canSet_12 : decode cX6_canSet 12 = .ok (.bipush 15, 2) := by decide +kernel
theorem dX6_canSet_14 : decode cX6_canSet 14 = .ok (.invokestatic 191, 3) := by decide +kernel
theorem dX6_canSet_17 : decode cX6_canSet 17 = .ok (.ifCond .eq 18, 3) := by decide +kernel
theorem dX6_canSet_20 : decode cX6_canSet 20 = .ok (.aload_n 0, 1) := by decide +kernel
theorem dX6_canSet_21 : decode cX6_canSet 21 = .ok (.getfield 22, 3) := by decide +kernel
theorem dX6_canSet_24 : decode cX6_canSet 24 = .ok (.iconst 4, 1) := by decide +kernel
theorem dX6_canSet_25 : decode cX6_canSet 25 = .ok (.iload_n 1, 1) := by decide +kernel
theorem dX6_canSet_26 : decode cX6_canSet 26 = .ok (.imul, 1) := by decide +kernel
theorem dX6_canSet_27 : decode cX6_canSet 27 = .ok (.iaload, 1) := by decide +kernel
theorem dX6_canSet_28 : decode cX6_canSet 28 = .ok (.ifCond .ge 7, 3) := by decide +kernel
theorem dX6_canSet_31 : decode cX6_canSet 31 = .ok (.iconst 1, 1) := by decide +kernel
theorem dX6_canSet_32 : decode cX6_canSet 32 = .ok (.goto 4, 3) := by decide +kernel
theorem dX6_canSet_35 : decode cX6_canSet 35 = .ok (.iconst 0, 1) := by decide +kernel
theorem dX6_canSet_36 : decode cX6_canSet 36 = .ok (.ireturn, 1) := by decide +kernel
theorem dX6_put_0 : decode cX6_put 0 = .ok (.aload_n 0, 1) := by decide +kernel
theorem dX6_put_1 : decode cX6_put 1 = .ok (.getfield 9, 3) := by decide +kernel
theorem dX6_put_4 : decode cX6_put 4 = .ok (.iload_n 1, 1) := by decide +kernel
theorem dX6_put_5 : decode cX6_put 5 = .ok (.dload_n 2, 1) := by decide +kernel
theorem dX6_put_6 : decode cX6_put 6 = .ok (.dastore, 1) := by decide +kernel
theorem dX6_put_7 : decode cX6_put 7 = .ok (.aload_n 0, 1) := by decide +kernel
theorem dX6_put_8 : decode cX6_put 8 = .ok (.getfield 15, 3) := by decide +kernel
theorem dX6_put_11 : decode cX6_put 11 = .ok (.iload_n 1, 1) := by decide +kernel
theorem dX6_put_12 : decode cX6_put 12 = .ok (.iconst 0, 1) := by decide +kernel
theorem dX6_put_13 : decode cX6_put 13 = .ok (.bastore, 1) := by decide +kernel
theorem dX6_put_14 : decode cX6_put 14 = .ok (.return_, 1) := by decide +kernel
theorem dX6_putSpecial_0 : decode cX6_putSpecial 0 = .ok (.iload_n 2, 1) := by decide +kernel
theorem dX6_putSpecial_1 : decode cX6_putSpecial 1 = .ok (.tableswitch 106 0 4 #[35, 52, 63, 74, 85], 35) := by decide +kernel
theorem dX6_putSpecial_36 : decode cX6_putSpecial 36 = .ok (.aload_n 0, 1) := by decide +kernel
theorem dX6_putSpecial_37 : decode cX6_putSpecial 37 = .ok (.getfield 9, 3) := by decide +kernel
theorem dX6_putSpecial_40 : decode cX6_putSpecial 40 = .ok (.iload_n 1, 1) := by decide +kernel
theorem dX6_putSpecial_41 : decode cX6_putSpecial 41 = .ok (.dconst 0, 1) := by decide +kernel
theorem dX6_putSpecial_42 : decode cX6_putSpecial 42 = .ok (.dastore, 1) := by decide +kernel
theorem dX6_putSpecial_43 : decode cX6_putSpecial 43 = .ok (.aload_n 0, 1) := by decide +kernel
theorem dX6_putSpecial_44 : decode cX6_putSpecial 44 = .ok (.getfield 15, 3) := by decide +kernel
theorem dX6_putSpecial_47 : decode cX6_putSpecial 47 = .ok (.iload_n 1, 1) := by decide +kernel
theorem dX6_putSpecial_48 : decode cX6_putSpecial 48 = .ok (.iconst 1, 1) := by decide +kernel
theorem dX6_putSpecial_49 : decode cX6_putSpecial 49 = .ok (.bastore, 1) := by decide +kernel
theorem dX6_putSpecial_50 : decode cX6_putSpecial 50 = .ok (.goto 75, 3) := by decide +kernel
theorem dX6_putSpecial_53 : decode cX6_putSpecial 53 = .ok (.aload_n 0, 1) := by decide +kernel
theorem dX6_putSpecial_54 : decode cX6_putSpecial 54 = .ok (.iload_n 1, 1) := by decide +kernel
theorem dX6_putSpecial_55 : decode cX6_putSpecial 55 = .ok (.ldc2_w 57, 3) := by decide +kernel
theorem dX6_putSpecial_58 : decode cX6_putSpecial 58 = .ok (.invokevirtual 195, 3) := by decide +kernel
theorem dX6_putSpecial_61 : decode cX6_putSpecial 61 = .ok (.goto 64, 3) := by decide +kernel
theorem dX6_putSpecial_64 : decode cX6_putSpecial 64 = .ok (.aload_n 0, 1) := by decide +kernel
theorem dX6_putSpecial_65 : decode cX6_putSpecial 65 = .ok (.iload_n 1, 1) := by decide +kernel
theorem dX6_putSpecial_66 : decode cX6_putSpecial 66 = .ok (.ldc2_w 59, 3) := by decide +kernel
theorem dX6_putSpecial_69 : decode cX6_putSpecial 69 = .ok (.invokevirtual 195, 3) := by decide +kernel
theorem dX6_putSpecial_72 : decode cX6_putSpecial 72 = .ok (.goto 53, 3) := by decide +kernel
theorem dX6_putSpecial_75 : decode cX6_putSpecial 75 = .ok (.aload_n 0, 1) := by decide +kernel
theorem dX6_putSpecial_76 : decode cX6_putSpecial 76 = .ok (.iload_n 1, 1) := by decide +kernel
theorem dX6_putSpecial_77 : decode cX6_putSpecial 77 = .ok (.ldc2_w 65, 3) := by decide +kernel
theorem dX6_putSpecial_80 : decode cX6_putSpecial 80 = .ok (.invokevirtual 195, 3) := by decide +kernel
theorem dX6_putSpecial_83 : decode cX6_putSpecial 83 = .ok (.goto 42, 3) := by decide +kernel
theorem dX6_putSpecial_86 : decode cX6_putSpecial 86 = .ok (.aload_n 0, 1) := by decide +kernel
theorem dX6_putSpecial_87 : decode cX6_putSpecial 87 = .ok (.iload_n 1, 1) := by decide +kernel
theorem dX6_putSpecial_88 : decode cX6_putSpecial 88 = .ok (.iload_n 3, 1) := by decide +kernel
theorem dX6_putSpecial_89 : decode cX6_putSpecial 89 = .ok (.ifCond .eq 9, 3) := by decide +kernel
theorem dX6_putSpecial_92 : decode cX6_putSpecial 92 = .ok (.ldc2_w 201, 3) := by decide +kernel
theorem dX6_putSpecial_95 : decode cX6_putSpecial 95 = .ok (.goto 6, 3) := by decide +kernel
theorem dX6_putSpecial_98 : decode cX6_putSpecial 98 = .ok (.ldc2_w 203, 3) := by decide +kernel
theorem dX6_putSpecial_101 : decode cX6_putSpecial 101 = .ok (.invokevirtual 195, 3) := by decide +kernel
theorem dX6_putSpecial_104 : decode cX6_putSpecial 104 = .ok (.goto 21, 3) := by decide +kernel
theorem dX6_putSpecial_107 : decode cX6_putSpecial 107 = .ok (.aload_n 0, 1) := by decide +kernel
theorem dX6_putSpecial_108 : decode cX6_putSpecial 108 = .ok (.iload_n 1, 1) := by decide +kernel
theorem dX6_putSpecial_109 : decode cX6_putSpecial 109 = .ok (.iload_n 3, 1) := by decide +kernel
theorem dX6_putSpecial_110 : decode cX6_putSpecial 110 = .ok (.ifCond .eq 9, 3) := by decide +kernel
theorem dX6_putSpecial_113 : decode cX6_putSpecial 113 = .ok (.ldc2_w 205, 3) := by decide +kernel
theorem dX6_putSpecial_116 : decode cX6_putSpecial 116 = .ok (.goto 6, 3) := by decide +kernel
theorem dX6_putSpecial_119 : decode cX6_putSpecial 119 = .ok (.ldc2_w 207, 3) := by decide +kernel
theorem dX6_putSpecial_122 : decode cX6_putSpecial 122 = .ok (.invokevirtual 195, 3) := by decide +kernel
theorem dX6_putSpecial_125 : decode cX6_putSpecial 125 = .ok (.return_, 1) := by decide +kernel
theorem dX6_set_0 : decode cX6_set 0 = .ok (.aload_n 0, 1) := by decide +kernel
theorem dX6_set_1 : decode cX6_set 1 = .ok (.iload_n 1, 1) := by decide +kernel
theorem dX6_set_2 : decode cX6_set 2 = .ok (.iload_n 2, 1) := by decide +kernel
theorem dX6_set_3 : decode cX6_set 3 = .ok (.invokevirtual 209, 3) := by decide +kernel
theorem dX6_set_6 : decode cX6_set 6 = .ok (.ifCond .eq 17, 3) := by decide +kernel
theorem dX6_set_9 : decode cX6_set 9 = .ok (.iload 4, 2) := by decide +kernel
theorem dX6_set_11 : decode cX6_set 11 = .ok (.sipush (-1000), 3) := by decide +kernel
theorem dX6_set_14 : decode cX6_set 14 = .ok (.sipush 900, 3) := by decide +kernel
theorem dX6_set_17 : decode cX6_set 17 = .ok (.invokestatic 191, 3) := by decide +kernel
theorem dX6_set_20 : decode cX6_set 20 = .ok (.ifCond .ne 5, 3) := by decide +kernel
theorem dX6_set_23 : decode cX6_set 23 = .ok (.iconst 0, 1) := by decide +kernel
theorem dX6_set_24 : decode cX6_set 24 = .ok (.ireturn, 1) := by decide +kernel
theorem dX6_set_25 : decode cX6_set 25 = .ok (.aload_n 0, 1) := by decide +kernel
theorem dX6_set_26 : decode cX6_set 26 = .ok (.invokevirtual 212, 3) := by decide +kernel
theorem dX6_set_29 : decode cX6_set 29 = .ok (.aload_n 0, 1) := by decide +kernel
theorem dX6_set_30 : decode cX6_set 30 = .ok (.bipush 16, 2) := by decide +kernel
theorem dX6_set_32 : decode cX6_set 32 = .ok (.iload_n 1, 1) := by decide +kernel
theorem dX6_set_33 : decode cX6_set 33 = .ok (.imul, 1) := by decide +kernel
theorem dX6_set_34 : decode cX6_set 34 = .ok (.iload_n 2, 1) := by decide +kernel
theorem dX6_set_35 : decode cX6_set 35 = .ok (.iadd, 1) := by decide +kernel
theorem dX6_set_36 : decode cX6_set 36 = .ok (.iload_n 3, 1) := by decide +kernel
theorem dX6_set_37 : decode cX6_set 37 = .ok (.iload 4, 2) := by decide +kernel
theorem dX6_set_39 : decode cX6_set 39 = .ok (.invokestatic 215, 3) := by decide +kernel
theorem dX6_set_42 : decode cX6_set 42 = .ok (.aload_n 0, 1) := by decide +kernel
theorem dX6_set_43 : decode cX6_set 43 = .ok (.getfield 19, 3) := by decide +kernel
theorem dX6_set_46 : decode cX6_set 46 = .ok (.iload_n 1, 1) := by decide +kernel
theorem dX6_set_47 : decode cX6_set 47 = .ok (.baload, 1) := by decide +kernel
theorem dX6_set_48 : decode cX6_set 48 = .ok (.invokestatic 132, 3) := by decide +kernel
theorem dX6_set_51 : decode cX6_set 51 = .ok (.invokevirtual 195, 3) := by decide +kernel
theorem dX6_set_54 : decode cX6_set 54 = .ok (.aload_n 0, 1) := by decide +kernel
theorem dX6_set_55 : decode cX6_set 55 = .ok (.invokevirtual 218, 3) := by decide +kernel
theorem dX6_set_58 : decode cX6_set 58 = .ok (.ireturn, 1) := by decide +kernel
theorem dX6_special_0 : decode cX6_special 0 = .ok (.aload_n 0, 1) := by decide +kernel
theorem dX6_special_1 : decode cX6_special 1 = .ok (.iload_n 1, 1) := by decide +kernel
theorem dX6_special_2 : decode cX6_special 2 = .ok (.iload_n 2, 1) := by decide +kernel
theorem dX6_special_3 : decode cX6_special 3 = .ok (.invokevirtual 209, 3) := by decide +kernel
theorem dX6_special_6 : decode cX6_special 6 = .ok (.ifCond .eq 12, 3) := by decide +kernel
theorem dX6_special_9 : decode cX6_special 9 = .ok (.iload_n 3, 1) := by decide +kernel
theorem dX6_special_10 : decode cX6_special 10 = .ok (.iconst 0, 1) := by decide +kernel
theorem dX6_special_11 : decode cX6_special 11 = .ok (.iconst 5, 1) := by decide +kernel
theorem dX6_special_12 : decode cX6_special 12 = .ok (.invokestatic 191, 3) := by decide +kernel
theorem dX6_special_15 : decode cX6_special 15 = .ok (.ifCond .ne 5, 3) := by decide +kernel
theorem dX6_special_18 : decode cX6_special 18 = .ok (.iconst 0, 1) := by decide +kernel
theorem dX6_special_19 : decode cX6_special 19 = .ok (.ireturn, 1) := by decide +kernel
theorem dX6_special_20 : decode cX6_special 20 = .ok (.aload_n 0, 1) := by decide +kernel
theorem dX6_special_21 : decode cX6_special 21 = .ok (.invokevirtual 212, 3) := by decide +kernel
theorem dX6_special_24 : decode cX6_special 24 = .ok (.aload_n 0, 1) := by decide +kernel
theorem dX6_special_25 : decode cX6_special 25 = .ok (.bipush 16, 2) := by decide +kernel
theorem dX6_special_27 : decode cX6_special 27 = .ok (.iload_n 1, 1) := by decide +kernel
theorem dX6_special_28 : decode cX6_special 28 = .ok (.imul, 1) := by decide +kernel
theorem dX6_special_29 : decode cX6_special 29 = .ok (.iload_n 2, 1) := by decide +kernel
theorem dX6_special_30 : decode cX6_special 30 = .ok (.iadd, 1) := by decide +kernel
theorem dX6_special_31 : decode cX6_special 31 = .ok (.iload_n 3, 1) := by decide +kernel
theorem dX6_special_32 : decode cX6_special 32 = .ok (.aload_n 0, 1) := by decide +kernel
theorem dX6_special_33 : decode cX6_special 33 = .ok (.getfield 19, 3) := by decide +kernel
theorem dX6_special_36 : decode cX6_special 36 = .ok (.iload_n 1, 1) := by decide +kernel
theorem dX6_special_37 : decode cX6_special 37 = .ok (.baload, 1) := by decide +kernel
theorem dX6_special_38 : decode cX6_special 38 = .ok (.invokevirtual 222, 3) := by decide +kernel
theorem dX6_special_41 : decode cX6_special 41 = .ok (.aload_n 0, 1) := by decide +kernel
theorem dX6_special_42 : decode cX6_special 42 = .ok (.invokevirtual 218, 3) := by decide +kernel
theorem dX6_special_45 : decode cX6_special 45 = .ok (.ireturn, 1) := by decide +kernel
theorem dX6_constant_0 : decode cX6_constant 0 = .ok (.iload_n 1, 1) := by decide +kernel
theorem dX6_constant_1 : decode cX6_constant 1 = .ok (.iconst 0, 1) := by decide +kernel
theorem dX6_constant_2 : decode cX6_constant 2 = .ok (.bipush 7, 2) := by decide +kernel
theorem dX6_constant_4 : decode cX6_constant 4 = .ok (.invokestatic 191, 3) := by decide +kernel
theorem dX6_constant_7 : decode cX6_constant 7 = .ok (.ifCond .eq 16, 3) := by decide +kernel
theorem dX6_constant_10 : decode cX6_constant 10 = .ok (.iload_n 3, 1) := by decide +kernel
theorem dX6_constant_11 : decode cX6_constant 11 = .ok (.sipush (-1000), 3) := by decide +kernel
theorem dX6_constant_14 : decode cX6_constant 14 = .ok (.sipush 900, 3) := by decide +kernel
theorem dX6_constant_17 : decode cX6_constant 17 = .ok (.invokestatic 191, 3) := by decide +kernel
theorem dX6_constant_20 : decode cX6_constant 20 = .ok (.ifCond .ne 5, 3) := by decide +kernel
theorem dX6_constant_23 : decode cX6_constant 23 = .ok (.iconst 0, 1) := by decide +kernel
theorem dX6_constant_24 : decode cX6_constant 24 = .ok (.ireturn, 1) := by decide +kernel
theorem dX6_constant_25 : decode cX6_constant 25 = .ok (.aload_n 0, 1) := by decide +kernel
theorem dX6_constant_26 : decode cX6_constant 26 = .ok (.invokevirtual 212, 3) := by decide +kernel
theorem dX6_constant_29 : decode cX6_constant 29 = .ok (.aload_n 0, 1) := by decide +kernel
theorem dX6_constant_30 : decode cX6_constant 30 = .ok (.sipush 192, 3) := by decide +kernel
theorem dX6_constant_33 : decode cX6_constant 33 = .ok (.iload_n 1, 1) := by decide +kernel
theorem dX6_constant_34 : decode cX6_constant 34 = .ok (.iadd, 1) := by decide +kernel
theorem dX6_constant_35 : decode cX6_constant 35 = .ok (.iload_n 2, 1) := by decide +kernel
theorem dX6_constant_36 : decode cX6_constant 36 = .ok (.iload_n 3, 1) := by decide +kernel
theorem dX6_constant_37 : decode cX6_constant 37 = .ok (.invokestatic 215, 3) := by decide +kernel
theorem dX6_constant_40 : decode cX6_constant 40 = .ok (.invokevirtual 195, 3) := by decide +kernel
theorem dX6_constant_43 : decode cX6_constant 43 = .ok (.aload_n 0, 1) := by decide +kernel
theorem dX6_constant_44 : decode cX6_constant 44 = .ok (.invokevirtual 218, 3) := by decide +kernel
theorem dX6_constant_47 : decode cX6_constant 47 = .ok (.ireturn, 1) := by decide +kernel
theorem dX6_constantSpecial_0 : decode cX6_constantSpecial 0 = .ok (.iload_n 1, 1) := by decide +kernel
theorem dX6_constantSpecial_1 : decode cX6_constantSpecial 1 = .ok (.iconst 0, 1) := by decide +kernel
theorem dX6_constantSpecial_2 : decode cX6_constantSpecial 2 = .ok (.bipush 7, 2) := by decide +kernel
theorem dX6_constantSpecial_4 : decode cX6_constantSpecial 4 = .ok (.invokestatic 191, 3) := by decide +kernel
theorem dX6_constantSpecial_7 : decode cX6_constantSpecial 7 = .ok (.ifCond .eq 12, 3) := by decide +kernel
theorem dX6_constantSpecial_10 : decode cX6_constantSpecial 10 = .ok (.iload_n 2, 1) := by decide +kernel
theorem dX6_constantSpecial_11 : decode cX6_constantSpecial 11 = .ok (.iconst 0, 1) := by decide +kernel
theorem dX6_constantSpecial_12 : decode cX6_constantSpecial 12 = .ok (.iconst 5, 1) := by decide +kernel
theorem dX6_constantSpecial_13 : decode cX6_constantSpecial 13 = .ok (.invokestatic 191, 3) := by decide +kernel
theorem dX6_constantSpecial_16 : decode cX6_constantSpecial 16 = .ok (.ifCond .ne 5, 3) := by decide +kernel
theorem dX6_constantSpecial_19 : decode cX6_constantSpecial 19 = .ok (.iconst 0, 1) := by decide +kernel
theorem dX6_constantSpecial_20 : decode cX6_constantSpecial 20 = .ok (.ireturn, 1) := by decide +kernel
theorem dX6_constantSpecial_21 : decode cX6_constantSpecial 21 = .ok (.aload_n 0, 1) := by decide +kernel
theorem dX6_constantSpecial_22 : decode cX6_constantSpecial 22 = .ok (.invokevirtual 212, 3) := by decide +kernel
theorem dX6_constantSpecial_25 : decode cX6_constantSpecial 25 = .ok (.aload_n 0, 1) := by decide +kernel
theorem dX6_constantSpecial_26 : decode cX6_constantSpecial 26 = .ok (.sipush 192, 3) := by decide +kernel
theorem dX6_constantSpecial_29 : decode cX6_constantSpecial 29 = .ok (.iload_n 1, 1) := by decide +kernel
theorem dX6_constantSpecial_30 : decode cX6_constantSpecial 30 = .ok (.iadd, 1) := by decide +kernel
theorem dX6_constantSpecial_31 : decode cX6_constantSpecial 31 = .ok (.iload_n 2, 1) := by decide +kernel
theorem dX6_constantSpecial_32 : decode cX6_constantSpecial 32 = .ok (.iconst 0, 1) := by decide +kernel
theorem dX6_constantSpecial_33 : decode cX6_constantSpecial 33 = .ok (.invokevirtual 222, 3) := by decide +kernel
theorem dX6_constantSpecial_36 : decode cX6_constantSpecial 36 = .ok (.aload_n 0, 1) := by decide +kernel
theorem dX6_constantSpecial_37 : decode cX6_constantSpecial 37 = .ok (.invokevirtual 218, 3) := by decide +kernel
theorem dX6_constantSpecial_40 : decode cX6_constantSpecial 40 = .ok (.ireturn, 1) := by decide +kernel
theorem dX6_formula_0 : decode cX6_formula 0 = .ok (.iload_n 1, 1) := by decide +kernel
theorem dX6_formula_1 : decode cX6_formula 1 = .ok (.iconst 0, 1) := by decide +kernel
theorem dX6_formula_2 : decode cX6_formula 2 = .ok (.bipush 11, 2) := by decide +kernel
theorem dX6_formula_4 : decode cX6_formula 4 = .ok (.invokestatic 191, 3) := by decide +kernel
theorem dX6_formula_7 : decode cX6_formula 7 = .ok (.ifCond .eq 63, 3) := by decide +kernel
theorem dX6_formula_10 : decode cX6_formula 10 = .ok (.iload_n 2, 1) := by decide +kernel
theorem dX6_formula_11 : decode cX6_formula 11 = .ok (.iconst 0, 1) := by decide +kernel
theorem dX6_formula_12 : decode cX6_formula 12 = .ok (.bipush 26, 2) := by decide +kernel
theorem dX6_formula_14 : decode cX6_formula 14 = .ok (.invokestatic 191, 3) := by decide +kernel
theorem dX6_formula_17 : decode cX6_formula 17 = .ok (.ifCond .eq 53, 3) := by decide +kernel
theorem dX6_formula_20 : decode cX6_formula 20 = .ok (.iload_n 3, 1) := by decide +kernel
theorem dX6_formula_21 : decode cX6_formula 21 = .ok (.iconst 0, 1) := by decide +kernel
theorem dX6_formula_22 : decode cX6_formula 22 = .ok (.iload_n 1, 1) := by decide +kernel
theorem dX6_formula_23 : decode cX6_formula 23 = .ok (.iconst 1, 1) := by decide +kernel
theorem dX6_formula_24 : decode cX6_formula 24 = .ok (.isub, 1) := by decide +kernel
theorem dX6_formula_25 : decode cX6_formula 25 = .ok (.invokestatic 191, 3) := by decide +kernel
theorem dX6_formula_28 : decode cX6_formula 28 = .ok (.ifCond .eq 42, 3) := by decide +kernel
theorem dX6_formula_31 : decode cX6_formula 31 = .ok (.iload 4, 2) := by decide +kernel
theorem dX6_formula_33 : decode cX6_formula 33 = .ok (.iconst 0, 1) := by decide +kernel
theorem dX6_formula_34 : decode cX6_formula 34 = .ok (.iload_n 1, 1) := by decide +kernel
theorem dX6_formula_35 : decode cX6_formula 35 = .ok (.iconst 1, 1) := by decide +kernel
theorem dX6_formula_36 : decode cX6_formula 36 = .ok (.isub, 1) := by decide +kernel
theorem dX6_formula_37 : decode cX6_formula 37 = .ok (.invokestatic 191, 3) := by decide +kernel
theorem dX6_formula_40 : decode cX6_formula 40 = .ok (.ifCond .ne 15, 3) := by decide +kernel
theorem dX6_formula_43 : decode cX6_formula 43 = .ok (.iload 4, 2) := by decide +kernel
theorem dX6_formula_45 : decode cX6_formula 45 = .ok (.bipush 16, 2) := by decide +kernel
theorem dX6_formula_47 : decode cX6_formula 47 = .ok (.bipush 23, 2) := by decide +kernel
theorem dX6_formula_49 : decode cX6_formula 49 = .ok (.invokestatic 191, 3) := by decide +kernel
theorem dX6_formula_52 : decode cX6_formula 52 = .ok (.ifCond .eq 18, 3) := by decide +kernel
theorem dX6_formula_55 : decode cX6_formula 55 = .ok (.iload 5, 2) := by decide +kernel
theorem dX6_formula_57 : decode cX6_formula 57 = .ok (.iconst 0, 1) := by decide +kernel
theorem dX6_formula_58 : decode cX6_formula 58 = .ok (.bipush 11, 2) := by decide +kernel
theorem dX6_formula_60 : decode cX6_formula 60 = .ok (.invokestatic 191, 3) := by decide +kernel
theorem dX6_formula_63 : decode cX6_formula 63 = .ok (.ifCond .eq 7, 3) := by decide +kernel
theorem dX6_formula_66 : decode cX6_formula 66 = .ok (.iconst 1, 1) := by decide +kernel
theorem dX6_formula_67 : decode cX6_formula 67 = .ok (.goto 4, 3) := by decide +kernel
theorem dX6_formula_70 : decode cX6_formula 70 = .ok (.iconst 0, 1) := by decide +kernel
theorem dX6_formula_71 : decode cX6_formula 71 = .ok (.istore 6, 2) := by decide +kernel
theorem dX6_formula_73 : decode cX6_formula 73 = .ok (.iload 6, 2) := by decide +kernel
theorem dX6_formula_75 : decode cX6_formula 75 = .ok (.ifCond .ne 5, 3) := by decide +kernel
theorem dX6_formula_78 : decode cX6_formula 78 = .ok (.iconst 0, 1) := by decide +kernel
theorem dX6_formula_79 : decode cX6_formula 79 = .ok (.ireturn, 1) := by decide +kernel
theorem dX6_formula_80 : decode cX6_formula 80 = .ok (.aload_n 0, 1) := by decide +kernel
theorem dX6_formula_81 : decode cX6_formula 81 = .ok (.invokevirtual 212, 3) := by decide +kernel
theorem dX6_formula_84 : decode cX6_formula 84 = .ok (.aload_n 0, 1) := by decide +kernel
theorem dX6_formula_85 : decode cX6_formula 85 = .ok (.getfield 22, 3) := by decide +kernel
theorem dX6_formula_88 : decode cX6_formula 88 = .ok (.iconst 4, 1) := by decide +kernel
theorem dX6_formula_89 : decode cX6_formula 89 = .ok (.iload_n 1, 1) := by decide +kernel
theorem dX6_formula_90 : decode cX6_formula 90 = .ok (.imul, 1) := by decide +kernel
theorem dX6_formula_91 : decode cX6_formula 91 = .ok (.iload_n 2, 1) := by decide +kernel
theorem dX6_formula_92 : decode cX6_formula 92 = .ok (.iastore, 1) := by decide +kernel
theorem dX6_formula_93 : decode cX6_formula 93 = .ok (.aload_n 0, 1) := by decide +kernel
theorem dX6_formula_94 : decode cX6_formula 94 = .ok (.getfield 22, 3) := by decide +kernel
theorem dX6_formula_97 : decode cX6_formula 97 = .ok (.iconst 4, 1) := by decide +kernel
theorem dX6_formula_98 : decode cX6_formula 98 = .ok (.iload_n 1, 1) := by decide +kernel
theorem dX6_formula_99 : decode cX6_formula 99 = .ok (.imul, 1) := by decide +kernel
theorem dX6_formula_100 : decode cX6_formula 100 = .ok (.iconst 1, 1) := by decide +kernel
theorem dX6_formula_101 : decode cX6_formula 101 = .ok (.iadd, 1) := by decide +kernel
theorem dX6_formula_102 : decode cX6_formula 102 = .ok (.iload_n 3, 1) := by decide +kernel
theorem dX6_formula_103 : decode cX6_formula 103 = .ok (.iastore, 1) := by decide +kernel
theorem dX6_formula_104 : decode cX6_formula 104 = .ok (.aload_n 0, 1) := by decide +kernel
theorem dX6_formula_105 : decode cX6_formula 105 = .ok (.getfield 22, 3) := by decide +kernel
theorem dX6_formula_108 : decode cX6_formula 108 = .ok (.iconst 4, 1) := by decide +kernel
theorem dX6_formula_109 : decode cX6_formula 109 = .ok (.iload_n 1, 1) := by decide +kernel
theorem dX6_formula_110 : decode cX6_formula 110 = .ok (.imul, 1) := by decide +kernel
theorem dX6_formula_111 : decode cX6_formula 111 = .ok (.iconst 2, 1) := by decide +kernel
theorem dX6_formula_112 : decode cX6_formula 112 = .ok (.iadd, 1) := by decide +kernel
theorem dX6_formula_113 : decode cX6_formula 113 = .ok (.iload 4, 2) := by decide +kernel
theorem dX6_formula_115 : decode cX6_formula 115 = .ok (.iastore, 1) := by decide +kernel
theorem dX6_formula_116 : decode cX6_formula 116 = .ok (.aload_n 0, 1) := by decide +kernel
theorem dX6_formula_117 : decode cX6_formula 117 = .ok (.getfield 22, 3) := by decide +kernel
theorem dX6_formula_120 : decode cX6_formula 120 = .ok (.iconst 4, 1) := by decide +kernel
theorem dX6_formula_121 : decode cX6_formula 121 = .ok (.iload_n 1, 1) := by decide +kernel
theorem dX6_formula_122 : decode cX6_formula 122 = .ok (.imul, 1) := by decide +kernel
theorem dX6_formula_123 : decode cX6_formula 123 = .ok (.iconst 3, 1) := by decide +kernel
theorem dX6_formula_124 : decode cX6_formula 124 = .ok (.iadd, 1) := by decide +kernel
theorem dX6_formula_125 : decode cX6_formula 125 = .ok (.iload 5, 2) := by decide +kernel
theorem dX6_formula_127 : decode cX6_formula 127 = .ok (.iastore, 1) := by decide +kernel
theorem dX6_formula_128 : decode cX6_formula 128 = .ok (.aload_n 0, 1) := by decide +kernel
theorem dX6_formula_129 : decode cX6_formula 129 = .ok (.invokevirtual 218, 3) := by decide +kernel
theorem dX6_formula_132 : decode cX6_formula 132 = .ok (.ireturn, 1) := by decide +kernel
theorem dX6_input_0 : decode cX6_input 0 = .ok (.iload_n 1, 1) := by decide +kernel
theorem dX6_input_1 : decode cX6_input 1 = .ok (.iconst 0, 1) := by decide +kernel
theorem dX6_input_2 : decode cX6_input 2 = .ok (.bipush 11, 2) := by decide +kernel
theorem dX6_input_4 : decode cX6_input 4 = .ok (.invokestatic 191, 3) := by decide +kernel
theorem dX6_input_7 : decode cX6_input 7 = .ok (.ifCond .eq 14, 3) := by decide +kernel
theorem dX6_input_10 : decode cX6_input 10 = .ok (.aload_n 0, 1) := by decide +kernel
theorem dX6_input_11 : decode cX6_input 11 = .ok (.getfield 22, 3) := by decide +kernel
theorem dX6_input_14 : decode cX6_input 14 = .ok (.iconst 4, 1) := by decide +kernel
theorem dX6_input_15 : decode cX6_input 15 = .ok (.iload_n 1, 1) := by decide +kernel
theorem dX6_input_16 : decode cX6_input 16 = .ok (.imul, 1) := by decide +kernel
theorem dX6_input_17 : decode cX6_input 17 = .ok (.iaload, 1) := by decide +kernel
theorem dX6_input_18 : decode cX6_input 18 = .ok (.ifCond .ge 5, 3) := by decide +kernel
theorem dX6_input_21 : decode cX6_input 21 = .ok (.iconst 0, 1) := by decide +kernel
theorem dX6_input_22 : decode cX6_input 22 = .ok (.ireturn, 1) := by decide +kernel
theorem dX6_input_23 : decode cX6_input 23 = .ok (.aload_n 0, 1) := by decide +kernel
theorem dX6_input_24 : decode cX6_input 24 = .ok (.invokevirtual 212, 3) := by decide +kernel
theorem dX6_input_27 : decode cX6_input 27 = .ok (.aload_n 0, 1) := by decide +kernel
theorem dX6_input_28 : decode cX6_input 28 = .ok (.invokevirtual 226, 3) := by decide +kernel
theorem dX6_input_31 : decode cX6_input 31 = .ok (.bipush 16, 2) := by decide +kernel
theorem dX6_input_33 : decode cX6_input 33 = .ok (.iload_n 1, 1) := by decide +kernel
theorem dX6_input_34 : decode cX6_input 34 = .ok (.imul, 1) := by decide +kernel
theorem dX6_input_35 : decode cX6_input 35 = .ok (.istore_n 2, 1) := by decide +kernel
theorem dX6_input_36 : decode cX6_input 36 = .ok (.iload_n 2, 1) := by decide +kernel
theorem dX6_input_37 : decode cX6_input 37 = .ok (.bipush 16, 2) := by decide +kernel
theorem dX6_input_39 : decode cX6_input 39 = .ok (.iload_n 1, 1) := by decide +kernel
theorem dX6_input_40 : decode cX6_input 40 = .ok (.imul, 1) := by decide +kernel
theorem dX6_input_41 : decode cX6_input 41 = .ok (.bipush 16, 2) := by decide +kernel
theorem dX6_input_43 : decode cX6_input 43 = .ok (.iadd, 1) := by decide +kernel
theorem dX6_input_44 : decode cX6_input 44 = .ok (.if_icmp .ge 33, 3) := by decide +kernel
theorem dX6_input_47 : decode cX6_input 47 = .ok (.aload_n 0, 1) := by decide +kernel
theorem dX6_input_48 : decode cX6_input 48 = .ok (.getfield 9, 3) := by decide +kernel
theorem dX6_input_51 : decode cX6_input 51 = .ok (.iload_n 2, 1) := by decide +kernel
theorem dX6_input_52 : decode cX6_input 52 = .ok (.aload_n 0, 1) := by decide +kernel
theorem dX6_input_53 : decode cX6_input 53 = .ok (.getfield 26, 3) := by decide +kernel
theorem dX6_input_56 : decode cX6_input 56 = .ok (.iload_n 2, 1) := by decide +kernel
theorem dX6_input_57 : decode cX6_input 57 = .ok (.daload, 1) := by decide +kernel
theorem dX6_input_58 : decode cX6_input 58 = .ok (.dastore, 1) := by decide +kernel
theorem dX6_input_59 : decode cX6_input 59 = .ok (.aload_n 0, 1) := by decide +kernel
theorem dX6_input_60 : decode cX6_input 60 = .ok (.getfield 15, 3) := by decide +kernel
theorem dX6_input_63 : decode cX6_input 63 = .ok (.iload_n 2, 1) := by decide +kernel
theorem dX6_input_64 : decode cX6_input 64 = .ok (.aload_n 0, 1) := by decide +kernel
theorem dX6_input_65 : decode cX6_input 65 = .ok (.getfield 29, 3) := by decide +kernel
theorem dX6_input_68 : decode cX6_input 68 = .ok (.iload_n 2, 1) := by decide +kernel
theorem dX6_input_69 : decode cX6_input 69 = .ok (.baload, 1) := by decide +kernel
theorem dX6_input_70 : decode cX6_input 70 = .ok (.bastore, 1) := by decide +kernel
theorem dX6_input_71 : decode cX6_input 71 = .ok (.iinc 2 1, 3) := by decide +kernel
theorem dX6_input_74 : decode cX6_input 74 = .ok (.goto (-38), 3) := by decide +kernel
theorem dX6_input_77 : decode cX6_input 77 = .ok (.aload_n 0, 1) := by decide +kernel
theorem dX6_input_78 : decode cX6_input 78 = .ok (.getfield 22, 3) := by decide +kernel
theorem dX6_input_81 : decode cX6_input 81 = .ok (.iconst 4, 1) := by decide +kernel
theorem dX6_input_82 : decode cX6_input 82 = .ok (.iload_n 1, 1) := by decide +kernel
theorem dX6_input_83 : decode cX6_input 83 = .ok (.imul, 1) := by decide +kernel
theorem dX6_input_84 : decode cX6_input 84 = .ok (.iconst (-1), 1) := by decide +kernel
theorem dX6_input_85 : decode cX6_input 85 = .ok (.iastore, 1) := by decide +kernel
theorem dX6_input_86 : decode cX6_input 86 = .ok (.aload_n 0, 1) := by decide +kernel
theorem dX6_input_87 : decode cX6_input 87 = .ok (.invokevirtual 218, 3) := by decide +kernel
theorem dX6_input_90 : decode cX6_input 90 = .ok (.ireturn, 1) := by decide +kernel
theorem dX6_width_0 : decode cX6_width 0 = .ok (.iload_n 1, 1) := by decide +kernel
theorem dX6_width_1 : decode cX6_width 1 = .ok (.iconst 0, 1) := by decide +kernel
theorem dX6_width_2 : decode cX6_width 2 = .ok (.bipush 11, 2) := by decide +kernel
theorem dX6_width_4 : decode cX6_width 4 = .ok (.invokestatic 191, 3) := by decide +kernel
theorem dX6_width_7 : decode cX6_width 7 = .ok (.ifCond .eq 13, 3) := by decide +kernel
theorem dX6_width_10 : decode cX6_width 10 = .ok (.aload_n 0, 1) := by decide +kernel
theorem dX6_width_11 : decode cX6_width 11 = .ok (.getfield 19, 3) := by decide +kernel
theorem dX6_width_14 : decode cX6_width 14 = .ok (.iload_n 1, 1) := by decide +kernel
theorem dX6_width_15 : decode cX6_width 15 = .ok (.baload, 1) := by decide +kernel
theorem dX6_width_16 : decode cX6_width 16 = .ok (.iload_n 2, 1) := by decide +kernel
theorem dX6_width_17 : decode cX6_width 17 = .ok (.if_icmp .ne 5, 3) := by decide +kernel
theorem dX6_width_20 : decode cX6_width 20 = .ok (.iconst 0, 1) := by decide +kernel
theorem dX6_width_21 : decode cX6_width 21 = .ok (.ireturn, 1) := by decide +kernel
theorem dX6_width_22 : decode cX6_width 22 = .ok (.aload_n 0, 1) := by decide +kernel
theorem dX6_width_23 : decode cX6_width 23 = .ok (.invokevirtual 212, 3) := by decide +kernel
theorem dX6_width_26 : decode cX6_width 26 = .ok (.aload_n 0, 1) := by decide +kernel
theorem dX6_width_27 : decode cX6_width 27 = .ok (.getfield 19, 3) := by decide +kernel
theorem dX6_width_30 : decode cX6_width 30 = .ok (.iload_n 1, 1) := by decide +kernel
theorem dX6_width_31 : decode cX6_width 31 = .ok (.iload_n 2, 1) := by decide +kernel
theorem dX6_width_32 : decode cX6_width 32 = .ok (.bastore, 1) := by decide +kernel
theorem dX6_width_33 : decode cX6_width 33 = .ok (.bipush 16, 2) := by decide +kernel
theorem dX6_width_35 : decode cX6_width 35 = .ok (.iload_n 1, 1) := by decide +kernel
theorem dX6_width_36 : decode cX6_width 36 = .ok (.imul, 1) := by decide +kernel
theorem dX6_width_37 : decode cX6_width 37 = .ok (.istore_n 3, 1) := by decide +kernel
theorem dX6_width_38 : decode cX6_width 38 = .ok (.iload_n 3, 1) := by decide +kernel
theorem dX6_width_39 : decode cX6_width 39 = .ok (.bipush 16, 2) := by decide +kernel
theorem dX6_width_41 : decode cX6_width 41 = .ok (.iload_n 1, 1) := by decide +kernel
theorem dX6_width_42 : decode cX6_width 42 = .ok (.imul, 1) := by decide +kernel
theorem dX6_width_43 : decode cX6_width 43 = .ok (.bipush 16, 2) := by decide +kernel
theorem dX6_width_45 : decode cX6_width 45 = .ok (.iadd, 1) := by decide +kernel
theorem dX6_width_46 : decode cX6_width 46 = .ok (.if_icmp .ge 25, 3) := by decide +kernel
theorem dX6_width_49 : decode cX6_width 49 = .ok (.aload_n 0, 1) := by decide +kernel
theorem dX6_width_50 : decode cX6_width 50 = .ok (.getfield 9, 3) := by decide +kernel
theorem dX6_width_53 : decode cX6_width 53 = .ok (.iload_n 3, 1) := by decide +kernel
theorem dX6_width_54 : decode cX6_width 54 = .ok (.aload_n 0, 1) := by decide +kernel
theorem dX6_width_55 : decode cX6_width 55 = .ok (.getfield 9, 3) := by decide +kernel
theorem dX6_width_58 : decode cX6_width 58 = .ok (.iload_n 3, 1) := by decide +kernel
theorem dX6_width_59 : decode cX6_width 59 = .ok (.daload, 1) := by decide +kernel
theorem dX6_width_60 : decode cX6_width 60 = .ok (.iload_n 2, 1) := by decide +kernel
theorem dX6_width_61 : decode cX6_width 61 = .ok (.invokestatic 132, 3) := by decide +kernel
theorem dX6_width_64 : decode cX6_width 64 = .ok (.dastore, 1) := by decide +kernel
theorem dX6_width_65 : decode cX6_width 65 = .ok (.iinc 3 1, 3) := by decide +kernel
theorem dX6_width_68 : decode cX6_width 68 = .ok (.goto (-30), 3) := by decide +kernel
theorem dX6_width_71 : decode cX6_width 71 = .ok (.aload_n 0, 1) := by decide +kernel
theorem dX6_width_72 : decode cX6_width 72 = .ok (.invokevirtual 218, 3) := by decide +kernel
theorem dX6_width_75 : decode cX6_width 75 = .ok (.ireturn, 1) := by decide +kernel
theorem dX6_alarm_0 : decode cX6_alarm 0 = .ok (.iload_n 1, 1) := by decide +kernel
theorem dX6_alarm_1 : decode cX6_alarm 1 = .ok (.iconst 0, 1) := by decide +kernel
theorem dX6_alarm_2 : decode cX6_alarm 2 = .ok (.bipush 11, 2) := by decide +kernel
theorem dX6_alarm_4 : decode cX6_alarm 4 = .ok (.invokestatic 191, 3) := by decide +kernel
theorem dX6_alarm_7 : decode cX6_alarm 7 = .ok (.ifCond .eq 43, 3) := by decide +kernel
theorem dX6_alarm_10 : decode cX6_alarm 10 = .ok (.iload_n 2, 1) := by decide +kernel
theorem dX6_alarm_11 : decode cX6_alarm 11 = .ok (.iconst 0, 1) := by decide +kernel
theorem dX6_alarm_12 : decode cX6_alarm 12 = .ok (.bipush 11, 2) := by decide +kernel
theorem dX6_alarm_14 : decode cX6_alarm 14 = .ok (.invokestatic 191, 3) := by decide +kernel
theorem dX6_alarm_17 : decode cX6_alarm 17 = .ok (.ifCond .eq 33, 3) := by decide +kernel
theorem dX6_alarm_20 : decode cX6_alarm 20 = .ok (.iload_n 3, 1) := by decide +kernel
theorem dX6_alarm_21 : decode cX6_alarm 21 = .ok (.iconst 0, 1) := by decide +kernel
theorem dX6_alarm_22 : decode cX6_alarm 22 = .ok (.bipush 11, 2) := by decide +kernel
theorem dX6_alarm_24 : decode cX6_alarm 24 = .ok (.invokestatic 191, 3) := by decide +kernel
theorem dX6_alarm_27 : decode cX6_alarm 27 = .ok (.ifCond .ne 14, 3) := by decide +kernel
theorem dX6_alarm_30 : decode cX6_alarm 30 = .ok (.iload_n 3, 1) := by decide +kernel
theorem dX6_alarm_31 : decode cX6_alarm 31 = .ok (.bipush 16, 2) := by decide +kernel
theorem dX6_alarm_33 : decode cX6_alarm 33 = .ok (.bipush 23, 2) := by decide +kernel
theorem dX6_alarm_35 : decode cX6_alarm 35 = .ok (.invokestatic 191, 3) := by decide +kernel
theorem dX6_alarm_38 : decode cX6_alarm 38 = .ok (.ifCond .eq 12, 3) := by decide +kernel
theorem dX6_alarm_41 : decode cX6_alarm 41 = .ok (.aload_n 0, 1) := by decide +kernel
theorem dX6_alarm_42 : decode cX6_alarm 42 = .ok (.getfield 229, 3) := by decide +kernel
theorem dX6_alarm_45 : decode cX6_alarm 45 = .ok (.bipush 10, 2) := by decide +kernel
theorem dX6_alarm_47 : decode cX6_alarm 47 = .ok (.if_icmp .ne 5, 3) := by decide +kernel
theorem dX6_alarm_50 : decode cX6_alarm 50 = .ok (.iconst (-1), 1) := by decide +kernel
theorem dX6_alarm_51 : decode cX6_alarm 51 = .ok (.ireturn, 1) := by decide +kernel
theorem dX6_alarm_52 : decode cX6_alarm 52 = .ok (.aload_n 0, 1) := by decide +kernel
theorem dX6_alarm_53 : decode cX6_alarm 53 = .ok (.getfield 45, 3) := by decide +kernel
theorem dX6_alarm_56 : decode cX6_alarm 56 = .ok (.iconst 3, 1) := by decide +kernel
theorem dX6_alarm_57 : decode cX6_alarm 57 = .ok (.aload_n 0, 1) := by decide +kernel
theorem dX6_alarm_58 : decode cX6_alarm 58 = .ok (.getfield 229, 3) := by decide +kernel
theorem dX6_alarm_61 : decode cX6_alarm 61 = .ok (.imul, 1) := by decide +kernel
theorem dX6_alarm_62 : decode cX6_alarm 62 = .ok (.iload_n 1, 1) := by decide +kernel
theorem dX6_alarm_63 : decode cX6_alarm 63 = .ok (.iastore, 1) := by decide +kernel
theorem dX6_alarm_64 : decode cX6_alarm 64 = .ok (.aload_n 0, 1) := by decide +kernel
theorem dX6_alarm_65 : decode cX6_alarm 65 = .ok (.getfield 45, 3) := by decide +kernel
theorem dX6_alarm_68 : decode cX6_alarm 68 = .ok (.iconst 3, 1) := by decide +kernel
theorem dX6_alarm_69 : decode cX6_alarm 69 = .ok (.aload_n 0, 1) := by decide +kernel
theorem dX6_alarm_70 : decode cX6_alarm 70 = .ok (.getfield 229, 3) := by decide +kernel
theorem dX6_alarm_73 : decode cX6_alarm 73 = .ok (.imul, 1) := by decide +kernel
theorem dX6_alarm_74 : decode cX6_alarm 74 = .ok (.iconst 1, 1) := by decide +kernel
theorem dX6_alarm_75 : decode cX6_alarm 75 = .ok (.iadd, 1) := by decide +kernel
theorem dX6_alarm_76 : decode cX6_alarm 76 = .ok (.iload_n 2, 1) := by decide +kernel
theorem dX6_alarm_77 : decode cX6_alarm 77 = .ok (.iastore, 1) := by decide +kernel
theorem dX6_alarm_78 : decode cX6_alarm 78 = .ok (.aload_n 0, 1) := by decide +kernel
theorem dX6_alarm_79 : decode cX6_alarm 79 = .ok (.getfield 45, 3) := by decide +kernel
theorem dX6_alarm_82 : decode cX6_alarm 82 = .ok (.iconst 3, 1) := by decide +kernel
theorem dX6_alarm_83 : decode cX6_alarm 83 = .ok (.aload_n 0, 1) := by decide +kernel
theorem dX6_alarm_84 : decode cX6_alarm 84 = .ok (.getfield 229, 3) := by decide +kernel
theorem dX6_alarm_87 : decode cX6_alarm 87 = .ok (.imul, 1) := by decide +kernel
theorem dX6_alarm_88 : decode cX6_alarm 88 = .ok (.iconst 2, 1) := by decide +kernel
theorem dX6_alarm_89 : decode cX6_alarm 89 = .ok (.iadd, 1) := by decide +kernel
theorem dX6_alarm_90 : decode cX6_alarm 90 = .ok (.iload_n 3, 1) := by decide +kernel
theorem dX6_alarm_91 : decode cX6_alarm 91 = .ok (.iastore, 1) := by decide +kernel
theorem dX6_alarm_92 : decode cX6_alarm 92 = .ok (.aload_n 0, 1) := by decide +kernel
theorem dX6_alarm_93 : decode cX6_alarm 93 = .ok (.dup, 1) := by decide +kernel
theorem dX6_alarm_94 : decode cX6_alarm 94 = .ok (.getfield 229, 3) := by decide +kernel
theorem dX6_alarm_97 : decode cX6_alarm 97 = .ok (.iconst 1, 1) := by decide +kernel
theorem dX6_alarm_98 : decode cX6_alarm 98 = .ok (.iadd, 1) := by decide +kernel
theorem dX6_alarm_99 : decode cX6_alarm 99 = .ok (.putfield 229, 3) := by decide +kernel
theorem dX6_alarm_102 : decode cX6_alarm 102 = .ok (.aload_n 0, 1) := by decide +kernel
theorem dX6_alarm_103 : decode cX6_alarm 103 = .ok (.getfield 229, 3) := by decide +kernel
theorem dX6_alarm_106 : decode cX6_alarm 106 = .ok (.iconst 1, 1) := by decide +kernel
theorem dX6_alarm_107 : decode cX6_alarm 107 = .ok (.isub, 1) := by decide +kernel
theorem dX6_alarm_108 : decode cX6_alarm 108 = .ok (.ireturn, 1) := by decide +kernel
theorem dX6_holds_0 : decode cX6_holds 0 = .ok (.aload_n 0, 1) := by decide +kernel
theorem dX6_holds_1 : decode cX6_holds 1 = .ok (.getfield 45, 3) := by decide +kernel
theorem dX6_holds_4 : decode cX6_holds 4 = .ok (.iconst 3, 1) := by decide +kernel
theorem dX6_holds_5 : decode cX6_holds 5 = .ok (.iload_n 1, 1) := by decide +kernel
theorem dX6_holds_6 : decode cX6_holds 6 = .ok (.imul, 1) := by decide +kernel
theorem dX6_holds_7 : decode cX6_holds 7 = .ok (.iaload, 1) := by decide +kernel
theorem dX6_holds_8 : decode cX6_holds 8 = .ok (.iload_n 2, 1) := by decide +kernel
theorem dX6_holds_9 : decode cX6_holds 9 = .ok (.invokestatic 128, 3) := by decide +kernel
theorem dX6_holds_12 : decode cX6_holds 12 = .ok (.istore_n 3, 1) := by decide +kernel
theorem dX6_holds_13 : decode cX6_holds 13 = .ok (.aload_n 0, 1) := by decide +kernel
theorem dX6_holds_14 : decode cX6_holds 14 = .ok (.getfield 45, 3) := by decide +kernel
theorem dX6_holds_17 : decode cX6_holds 17 = .ok (.iconst 3, 1) := by decide +kernel
theorem dX6_holds_18 : decode cX6_holds 18 = .ok (.iload_n 1, 1) := by decide +kernel
theorem dX6_holds_19 : decode cX6_holds 19 = .ok (.imul, 1) := by decide +kernel
theorem dX6_holds_20 : decode cX6_holds 20 = .ok (.iconst 2, 1) := by decide +kernel
theorem dX6_holds_21 : decode cX6_holds 21 = .ok (.iadd, 1) := by decide +kernel
theorem dX6_holds_22 : decode cX6_holds 22 = .ok (.iaload, 1) := by decide +kernel
theorem dX6_holds_23 : decode cX6_holds 23 = .ok (.iload_n 2, 1) := by decide +kernel
theorem dX6_holds_24 : decode cX6_holds 24 = .ok (.invokestatic 128, 3) := by decide +kernel
theorem dX6_holds_27 : decode cX6_holds 27 = .ok (.istore 4, 2) := by decide +kernel
theorem dX6_holds_29 : decode cX6_holds 29 = .ok (.aload_n 0, 1) := by decide +kernel
theorem dX6_holds_30 : decode cX6_holds 30 = .ok (.getfield 45, 3) := by decide +kernel
theorem dX6_holds_33 : decode cX6_holds 33 = .ok (.iconst 3, 1) := by decide +kernel
theorem dX6_holds_34 : decode cX6_holds 34 = .ok (.iload_n 1, 1) := by decide +kernel
theorem dX6_holds_35 : decode cX6_holds 35 = .ok (.imul, 1) := by decide +kernel
theorem dX6_holds_36 : decode cX6_holds 36 = .ok (.iconst 1, 1) := by decide +kernel
theorem dX6_holds_37 : decode cX6_holds 37 = .ok (.iadd, 1) := by decide +kernel
theorem dX6_holds_38 : decode cX6_holds 38 = .ok (.iaload, 1) := by decide +kernel
theorem dX6_holds_39 : decode cX6_holds 39 = .ok (.aload_n 0, 1) := by decide +kernel
theorem dX6_holds_40 : decode cX6_holds 40 = .ok (.getfield 26, 3) := by decide +kernel
theorem dX6_holds_43 : decode cX6_holds 43 = .ok (.iload_n 3, 1) := by decide +kernel
theorem dX6_holds_44 : decode cX6_holds 44 = .ok (.daload, 1) := by decide +kernel
theorem dX6_holds_45 : decode cX6_holds 45 = .ok (.aload_n 0, 1) := by decide +kernel
theorem dX6_holds_46 : decode cX6_holds 46 = .ok (.getfield 29, 3) := by decide +kernel
theorem dX6_holds_49 : decode cX6_holds 49 = .ok (.iload_n 3, 1) := by decide +kernel
theorem dX6_holds_50 : decode cX6_holds 50 = .ok (.baload, 1) := by decide +kernel
theorem dX6_holds_51 : decode cX6_holds 51 = .ok (.aload_n 0, 1) := by decide +kernel
theorem dX6_holds_52 : decode cX6_holds 52 = .ok (.getfield 26, 3) := by decide +kernel
theorem dX6_holds_55 : decode cX6_holds 55 = .ok (.iload 4, 2) := by decide +kernel
theorem dX6_holds_57 : decode cX6_holds 57 = .ok (.daload, 1) := by decide +kernel
theorem dX6_holds_58 : decode cX6_holds 58 = .ok (.aload_n 0, 1) := by decide +kernel
theorem dX6_holds_59 : decode cX6_holds 59 = .ok (.getfield 29, 3) := by decide +kernel
theorem dX6_holds_62 : decode cX6_holds 62 = .ok (.iload 4, 2) := by decide +kernel
theorem dX6_holds_64 : decode cX6_holds 64 = .ok (.baload, 1) := by decide +kernel
theorem dX6_holds_65 : decode cX6_holds 65 = .ok (.invokestatic 150, 3) := by decide +kernel
theorem dX6_holds_68 : decode cX6_holds 68 = .ok (.ireturn, 1) := by decide +kernel
theorem dX6_manyBits_0 : decode cX6_manyBits 0 = .ok (.iconst 0, 1) := by decide +kernel
theorem dX6_manyBits_1 : decode cX6_manyBits 1 = .ok (.istore_n 1, 1) := by decide +kernel
theorem dX6_manyBits_2 : decode cX6_manyBits 2 = .ok (.iconst 0, 1) := by decide +kernel
theorem dX6_manyBits_3 : decode cX6_manyBits 3 = .ok (.istore_n 2, 1) := by decide +kernel
theorem dX6_manyBits_4 : decode cX6_manyBits 4 = .ok (.iload_n 2, 1) := by decide +kernel
theorem dX6_manyBits_5 : decode cX6_manyBits 5 = .ok (.bipush 16, 2) := by decide +kernel
theorem dX6_manyBits_7 : decode cX6_manyBits 7 = .ok (.if_icmp .ge 17, 3) := by decide +kernel
theorem dX6_manyBits_10 : decode cX6_manyBits 10 = .ok (.iload_n 1, 1) := by decide +kernel
theorem dX6_manyBits_11 : decode cX6_manyBits 11 = .ok (.iload_n 0, 1) := by decide +kernel
theorem dX6_manyBits_12 : decode cX6_manyBits 12 = .ok (.iload_n 2, 1) := by decide +kernel
theorem dX6_manyBits_13 : decode cX6_manyBits 13 = .ok (.ishr, 1) := by decide +kernel
theorem dX6_manyBits_14 : decode cX6_manyBits 14 = .ok (.iconst 1, 1) := by decide +kernel
theorem dX6_manyBits_15 : decode cX6_manyBits 15 = .ok (.iand, 1) := by decide +kernel
theorem dX6_manyBits_16 : decode cX6_manyBits 16 = .ok (.iadd, 1) := by decide +kernel
theorem dX6_manyBits_17 : decode cX6_manyBits 17 = .ok (.istore_n 1, 1) := by decide +kernel
theorem dX6_manyBits_18 : decode cX6_manyBits 18 = .ok (.iinc 2 1, 3) := by decide +kernel
theorem dX6_manyBits_21 : decode cX6_manyBits 21 = .ok (.goto (-17), 3) := by decide +kernel
theorem dX6_manyBits_24 : decode cX6_manyBits 24 = .ok (.iload_n 1, 1) := by decide +kernel
theorem dX6_manyBits_25 : decode cX6_manyBits 25 = .ok (.ireturn, 1) := by decide +kernel
theorem dX6_ring_0 : decode cX6_ring 0 = .ok (.aload_n 0, 1) := by decide +kernel
theorem dX6_ring_1 : decode cX6_ring 1 = .ok (.invokevirtual 226, 3) := by decide +kernel
theorem dX6_ring_4 : decode cX6_ring 4 = .ok (.iconst 0, 1) := by decide +kernel
theorem dX6_ring_5 : decode cX6_ring 5 = .ok (.istore_n 1, 1) := by decide +kernel
theorem dX6_ring_6 : decode cX6_ring 6 = .ok (.iconst 0, 1) := by decide +kernel
theorem dX6_ring_7 : decode cX6_ring 7 = .ok (.istore_n 2, 1) := by decide +kernel
theorem dX6_ring_8 : decode cX6_ring 8 = .ok (.iload_n 2, 1) := by decide +kernel
theorem dX6_ring_9 : decode cX6_ring 9 = .ok (.aload_n 0, 1) := by decide +kernel
theorem dX6_ring_10 : decode cX6_ring 10 = .ok (.getfield 229, 3) := by decide +kernel
theorem dX6_ring_13 : decode cX6_ring 13 = .ok (.if_icmp .ge 90, 3) := by decide +kernel
theorem dX6_ring_16 : decode cX6_ring 16 = .ok (.iconst 0, 1) := by decide +kernel
theorem dX6_ring_17 : decode cX6_ring 17 = .ok (.istore_n 3, 1) := by decide +kernel
theorem dX6_ring_18 : decode cX6_ring 18 = .ok (.iconst 0, 1) := by decide +kernel
theorem dX6_ring_19 : decode cX6_ring 19 = .ok (.istore 4, 2) := by decide +kernel
theorem dX6_ring_21 : decode cX6_ring 21 = .ok (.iload 4, 2) := by decide +kernel
theorem dX6_ring_23 : decode cX6_ring 23 = .ok (.bipush 16, 2) := by decide +kernel
theorem dX6_ring_25 : decode cX6_ring 25 = .ok (.if_icmp .ge 30, 3) := by decide +kernel
theorem dX6_ring_28 : decode cX6_ring 28 = .ok (.iload_n 3, 1) := by decide +kernel
theorem dX6_ring_29 : decode cX6_ring 29 = .ok (.aload_n 0, 1) := by decide +kernel
theorem dX6_ring_30 : decode cX6_ring 30 = .ok (.iload_n 2, 1) := by decide +kernel
theorem dX6_ring_31 : decode cX6_ring 31 = .ok (.iload 4, 2) := by decide +kernel
theorem dX6_ring_33 : decode cX6_ring 33 = .ok (.invokevirtual 232, 3) := by decide +kernel
theorem dX6_ring_36 : decode cX6_ring 36 = .ok (.ifCond .eq 10, 3) := by decide +kernel
theorem dX6_ring_39 : decode cX6_ring 39 = .ok (.iconst 1, 1) := by decide +kernel
theorem dX6_ring_40 : decode cX6_ring 40 = .ok (.iload 4, 2) := by decide +kernel
theorem dX6_ring_42 : decode cX6_ring 42 = .ok (.ishl, 1) := by decide +kernel
theorem dX6_ring_43 : decode cX6_ring 43 = .ok (.goto 4, 3) := by decide +kernel
theorem dX6_ring_46 : decode cX6_ring 46 = .ok (.iconst 0, 1) := by decide +kernel
theorem dX6_ring_47 : decode cX6_ring 47 = .ok (.ior, 1) := by decide +kernel
theorem dX6_ring_48 : decode cX6_ring 48 = .ok (.istore_n 3, 1) := by decide +kernel
theorem dX6_ring_49 : decode cX6_ring 49 = .ok (.iinc 4 1, 3) := by decide +kernel
theorem dX6_ring_52 : decode cX6_ring 52 = .ok (.goto (-31), 3) := by decide +kernel
theorem dX6_ring_55 : decode cX6_ring 55 = .ok (.aload_n 0, 1) := by decide +kernel
theorem dX6_ring_56 : decode cX6_ring 56 = .ok (.getfield 51, 3) := by decide +kernel
theorem dX6_ring_59 : decode cX6_ring 59 = .ok (.iload_n 2, 1) := by decide +kernel
theorem dX6_ring_60 : decode cX6_ring 60 = .ok (.iload_n 3, 1) := by decide +kernel
theorem dX6_ring_61 : decode cX6_ring 61 = .ok (.aload_n 0, 1) := by decide +kernel
theorem dX6_ring_62 : decode cX6_ring 62 = .ok (.getfield 48, 3) := by decide +kernel
theorem dX6_ring_65 : decode cX6_ring 65 = .ok (.iload_n 2, 1) := by decide +kernel
theorem dX6_ring_66 : decode cX6_ring 66 = .ok (.iaload, 1) := by decide +kernel
theorem dX6_ring_67 : decode cX6_ring 67 = .ok (.iconst (-1), 1) := by decide +kernel
theorem dX6_ring_68 : decode cX6_ring 68 = .ok (.ixor, 1) := by decide +kernel
theorem dX6_ring_69 : decode cX6_ring 69 = .ok (.iand, 1) := by decide +kernel
theorem dX6_ring_70 : decode cX6_ring 70 = .ok (.iastore, 1) := by decide +kernel
theorem dX6_ring_71 : decode cX6_ring 71 = .ok (.aload_n 0, 1) := by decide +kernel
theorem dX6_ring_72 : decode cX6_ring 72 = .ok (.getfield 48, 3) := by decide +kernel
theorem dX6_ring_75 : decode cX6_ring 75 = .ok (.iload_n 2, 1) := by decide +kernel
theorem dX6_ring_76 : decode cX6_ring 76 = .ok (.iload_n 3, 1) := by decide +kernel
theorem dX6_ring_77 : decode cX6_ring 77 = .ok (.iastore, 1) := by decide +kernel
theorem dX6_ring_78 : decode cX6_ring 78 = .ok (.aload_n 0, 1) := by decide +kernel
theorem dX6_ring_79 : decode cX6_ring 79 = .ok (.getfield 54, 3) := by decide +kernel
theorem dX6_ring_82 : decode cX6_ring 82 = .ok (.iload_n 2, 1) := by decide +kernel
theorem dX6_ring_83 : decode cX6_ring 83 = .ok (.iconst 1, 1) := by decide +kernel
theorem dX6_ring_84 : decode cX6_ring 84 = .ok (.bastore, 1) := by decide +kernel
theorem dX6_ring_85 : decode cX6_ring 85 = .ok (.iload_n 1, 1) := by decide +kernel
theorem dX6_ring_86 : decode cX6_ring 86 = .ok (.aload_n 0, 1) := by decide +kernel
theorem dX6_ring_87 : decode cX6_ring 87 = .ok (.getfield 51, 3) := by decide +kernel
theorem dX6_ring_90 : decode cX6_ring 90 = .ok (.iload_n 2, 1) := by decide +kernel
theorem dX6_ring_91 : decode cX6_ring 91 = .ok (.iaload, 1) := by decide +kernel
theorem dX6_ring_92 : decode cX6_ring 92 = .ok (.invokestatic 235, 3) := by decide +kernel
theorem dX6_ring_95 : decode cX6_ring 95 = .ok (.iadd, 1) := by decide +kernel
theorem dX6_ring_96 : decode cX6_ring 96 = .ok (.istore_n 1, 1) := by decide +kernel
theorem dX6_ring_97 : decode cX6_ring 97 = .ok (.iinc 2 1, 3) := by decide +kernel
theorem dX6_ring_100 : decode cX6_ring 100 = .ok (.goto (-92), 3) := by decide +kernel
theorem dX6_ring_103 : decode cX6_ring 103 = .ok (.aload_n 0, 1) := by decide +kernel
theorem dX6_ring_104 : decode cX6_ring 104 = .ok (.dup, 1) := by decide +kernel
theorem dX6_ring_105 : decode cX6_ring 105 = .ok (.getfield 239, 3) := by decide +kernel
theorem dX6_ring_108 : decode cX6_ring 108 = .ok (.iconst 1, 1) := by decide +kernel
theorem dX6_ring_109 : decode cX6_ring 109 = .ok (.iadd, 1) := by decide +kernel
theorem dX6_ring_110 : decode cX6_ring 110 = .ok (.putfield 239, 3) := by decide +kernel
theorem dX6_ring_113 : decode cX6_ring 113 = .ok (.iload_n 1, 1) := by decide +kernel
theorem dX6_ring_114 : decode cX6_ring 114 = .ok (.ireturn, 1) := by decide +kernel
theorem dX6_alarmed_0 : decode cX6_alarmed 0 = .ok (.iload_n 1, 1) := by decide +kernel
theorem dX6_alarmed_1 : decode cX6_alarmed 1 = .ok (.iconst 0, 1) := by decide +kernel
theorem dX6_alarmed_2 : decode cX6_alarmed 2 = .ok (.aload_n 0, 1) := by decide +kernel
theorem dX6_alarmed_3 : decode cX6_alarmed 3 = .ok (.getfield 229, 3) := by decide +kernel
theorem dX6_alarmed_6 : decode cX6_alarmed 6 = .ok (.iconst 1, 1) := by decide +kernel
theorem dX6_alarmed_7 : decode cX6_alarmed 7 = .ok (.isub, 1) := by decide +kernel
theorem dX6_alarmed_8 : decode cX6_alarmed 8 = .ok (.invokestatic 191, 3) := by decide +kernel
theorem dX6_alarmed_11 : decode cX6_alarmed 11 = .ok (.ifCond .eq 21, 3) := by decide +kernel
theorem dX6_alarmed_14 : decode cX6_alarmed 14 = .ok (.aload_n 0, 1) := by decide +kernel
theorem dX6_alarmed_15 : decode cX6_alarmed 15 = .ok (.getfield 54, 3) := by decide +kernel
theorem dX6_alarmed_18 : decode cX6_alarmed 18 = .ok (.iload_n 1, 1) := by decide +kernel
theorem dX6_alarmed_19 : decode cX6_alarmed 19 = .ok (.baload, 1) := by decide +kernel
theorem dX6_alarmed_20 : decode cX6_alarmed 20 = .ok (.ifCond .eq 12, 3) := by decide +kernel
theorem dX6_alarmed_23 : decode cX6_alarmed 23 = .ok (.iload_n 2, 1) := by decide +kernel
theorem dX6_alarmed_24 : decode cX6_alarmed 24 = .ok (.iconst 0, 1) := by decide +kernel
theorem dX6_alarmed_25 : decode cX6_alarmed 25 = .ok (.iconst 2, 1) := by decide +kernel
theorem dX6_alarmed_26 : decode cX6_alarmed 26 = .ok (.invokestatic 191, 3) := by decide +kernel
theorem dX6_alarmed_29 : decode cX6_alarmed 29 = .ok (.ifCond .ne 5, 3) := by decide +kernel
theorem dX6_alarmed_32 : decode cX6_alarmed 32 = .ok (.iconst (-1), 1) := by decide +kernel
theorem dX6_alarmed_33 : decode cX6_alarmed 33 = .ok (.ireturn, 1) := by decide +kernel
theorem dX6_alarmed_34 : decode cX6_alarmed 34 = .ok (.iload_n 2, 1) := by decide +kernel
theorem dX6_alarmed_35 : decode cX6_alarmed 35 = .ok (.iconst 2, 1) := by decide +kernel
theorem dX6_alarmed_36 : decode cX6_alarmed 36 = .ok (.if_icmp .ge 26, 3) := by decide +kernel
theorem dX6_alarmed_39 : decode cX6_alarmed 39 = .ok (.iload_n 2, 1) := by decide +kernel
theorem dX6_alarmed_40 : decode cX6_alarmed 40 = .ok (.ifCond .ne 12, 3) := by decide +kernel
theorem dX6_alarmed_43 : decode cX6_alarmed 43 = .ok (.aload_n 0, 1) := by decide +kernel
theorem dX6_alarmed_44 : decode cX6_alarmed 44 = .ok (.getfield 48, 3) := by decide +kernel
theorem dX6_alarmed_47 : decode cX6_alarmed 47 = .ok (.iload_n 1, 1) := by decide +kernel
theorem dX6_alarmed_48 : decode cX6_alarmed 48 = .ok (.iaload, 1) := by decide +kernel
theorem dX6_alarmed_49 : decode cX6_alarmed 49 = .ok (.goto 9, 3) := by decide +kernel
theorem dX6_alarmed_52 : decode cX6_alarmed 52 = .ok (.aload_n 0, 1) := by decide +kernel
theorem dX6_alarmed_53 : decode cX6_alarmed 53 = .ok (.getfield 51, 3) := by decide +kernel
theorem dX6_alarmed_56 : decode cX6_alarmed 56 = .ok (.iload_n 1, 1) := by decide +kernel
theorem dX6_alarmed_57 : decode cX6_alarmed 57 = .ok (.iaload, 1) := by decide +kernel
theorem dX6_alarmed_58 : decode cX6_alarmed 58 = .ok (.invokestatic 235, 3) := by decide +kernel
theorem dX6_alarmed_61 : decode cX6_alarmed 61 = .ok (.ireturn, 1) := by decide +kernel
theorem dX6_alarmed_62 : decode cX6_alarmed 62 = .ok (.iconst 0, 1) := by decide +kernel
theorem dX6_alarmed_63 : decode cX6_alarmed 63 = .ok (.istore_n 3, 1) := by decide +kernel
theorem dX6_alarmed_64 : decode cX6_alarmed 64 = .ok (.iload_n 3, 1) := by decide +kernel
theorem dX6_alarmed_65 : decode cX6_alarmed 65 = .ok (.bipush 16, 2) := by decide +kernel
theorem dX6_alarmed_67 : decode cX6_alarmed 67 = .ok (.if_icmp .ge 22, 3) := by decide +kernel
theorem dX6_alarmed_70 : decode cX6_alarmed 70 = .ok (.aload_n 0, 1) := by decide +kernel
theorem dX6_alarmed_71 : decode cX6_alarmed 71 = .ok (.getfield 51, 3) := by decide +kernel
theorem dX6_alarmed_74 : decode cX6_alarmed 74 = .ok (.iload_n 1, 1) := by decide +kernel
theorem dX6_alarmed_75 : decode cX6_alarmed 75 = .ok (.iaload, 1) := by decide +kernel
theorem dX6_alarmed_76 : decode cX6_alarmed 76 = .ok (.iload_n 3, 1) := by decide +kernel
theorem dX6_alarmed_77 : decode cX6_alarmed 77 = .ok (.ishr, 1) := by decide +kernel
theorem dX6_alarmed_78 : decode cX6_alarmed 78 = .ok (.iconst 1, 1) := by decide +kernel
theorem dX6_alarmed_79 : decode cX6_alarmed 79 = .ok (.iand, 1) := by decide +kernel
theorem dX6_alarmed_80 : decode cX6_alarmed 80 = .ok (.ifCond .ne 9, 3) := by decide +kernel
theorem dX6_alarmed_83 : decode cX6_alarmed 83 = .ok (.iinc 3 1, 3) := by decide +kernel
theorem dX6_alarmed_86 : decode cX6_alarmed 86 = .ok (.goto (-22), 3) := by decide +kernel
theorem dX6_alarmed_89 : decode cX6_alarmed 89 = .ok (.iload_n 3, 1) := by decide +kernel
theorem dX6_alarmed_90 : decode cX6_alarmed 90 = .ok (.bipush 16, 2) := by decide +kernel
theorem dX6_alarmed_92 : decode cX6_alarmed 92 = .ok (.if_icmp .ge 7, 3) := by decide +kernel
theorem dX6_alarmed_95 : decode cX6_alarmed 95 = .ok (.iload_n 3, 1) := by decide +kernel
theorem dX6_alarmed_96 : decode cX6_alarmed 96 = .ok (.goto 4, 3) := by decide +kernel
theorem dX6_alarmed_99 : decode cX6_alarmed 99 = .ok (.iconst (-1), 1) := by decide +kernel
theorem dX6_alarmed_100 : decode cX6_alarmed 100 = .ok (.ireturn, 1) := by decide +kernel
theorem dX6_isThere_0 : decode cX6_isThere 0 = .ok (.iload_n 1, 1) := by decide +kernel
theorem dX6_isThere_1 : decode cX6_isThere 1 = .ok (.iconst 0, 1) := by decide +kernel
theorem dX6_isThere_2 : decode cX6_isThere 2 = .ok (.bipush 11, 2) := by decide +kernel
theorem dX6_isThere_4 : decode cX6_isThere 4 = .ok (.invokestatic 191, 3) := by decide +kernel
theorem dX6_isThere_7 : decode cX6_isThere 7 = .ok (.ifCond .eq 13, 3) := by decide +kernel
theorem dX6_isThere_10 : decode cX6_isThere 10 = .ok (.iload_n 2, 1) := by decide +kernel
theorem dX6_isThere_11 : decode cX6_isThere 11 = .ok (.iconst 0, 1) := by decide +kernel
theorem dX6_isThere_12 : decode cX6_isThere 12 = .ok (.bipush 15, 2) := by decide +kernel
theorem dX6_isThere_14 : decode cX6_isThere 14 = .ok (.invokestatic 191, 3) := by decide +kernel
theorem dX6_isThere_17 : decode cX6_isThere 17 = .ok (.ifCond .ne 5, 3) := by decide +kernel
theorem dX6_isThere_20 : decode cX6_isThere 20 = .ok (.iconst 0, 1) := by decide +kernel
theorem dX6_isThere_21 : decode cX6_isThere 21 = .ok (.ireturn, 1) := by decide +kernel
theorem dX6_isThere_22 : decode cX6_isThere 22 = .ok (.aload_n 0, 1) := by decide +kernel
theorem dX6_isThere_23 : decode cX6_isThere 23 = .ok (.invokevirtual 226, 3) := by decide +kernel
theorem dX6_isThere_26 : decode cX6_isThere 26 = .ok (.iconst 1, 1) := by decide +kernel
theorem dX6_isThere_27 : decode cX6_isThere 27 = .ok (.ireturn, 1) := by decide +kernel
theorem dX6_reading_0 : decode cX6_reading 0 = .ok (.aload_n 0, 1) := by decide +kernel
theorem dX6_reading_1 : decode cX6_reading 1 = .ok (.iload_n 1, 1) := by decide +kernel
theorem dX6_reading_2 : decode cX6_reading 2 = .ok (.iload_n 2, 1) := by decide +kernel
theorem dX6_reading_3 : decode cX6_reading 3 = .ok (.invokevirtual 242, 3) := by decide +kernel
theorem dX6_reading_6 : decode cX6_reading 6 = .ok (.ifCond .eq 31, 3) := by decide +kernel
theorem dX6_reading_9 : decode cX6_reading 9 = .ok (.aload_n 0, 1) := by decide +kernel
theorem dX6_reading_10 : decode cX6_reading 10 = .ok (.getfield 29, 3) := by decide +kernel
theorem dX6_reading_13 : decode cX6_reading 13 = .ok (.bipush 16, 2) := by decide +kernel
theorem dX6_reading_15 : decode cX6_reading 15 = .ok (.iload_n 1, 1) := by decide +kernel
theorem dX6_reading_16 : decode cX6_reading 16 = .ok (.imul, 1) := by decide +kernel
theorem dX6_reading_17 : decode cX6_reading 17 = .ok (.iload_n 2, 1) := by decide +kernel
theorem dX6_reading_18 : decode cX6_reading 18 = .ok (.iadd, 1) := by decide +kernel
theorem dX6_reading_19 : decode cX6_reading 19 = .ok (.baload, 1) := by decide +kernel
theorem dX6_reading_20 : decode cX6_reading 20 = .ok (.ifCond .ne 17, 3) := by decide +kernel
theorem dX6_reading_23 : decode cX6_reading 23 = .ok (.aload_n 0, 1) := by decide +kernel
theorem dX6_reading_24 : decode cX6_reading 24 = .ok (.getfield 26, 3) := by decide +kernel
theorem dX6_reading_27 : decode cX6_reading 27 = .ok (.bipush 16, 2) := by decide +kernel
theorem dX6_reading_29 : decode cX6_reading 29 = .ok (.iload_n 1, 1) := by decide +kernel
theorem dX6_reading_30 : decode cX6_reading 30 = .ok (.imul, 1) := by decide +kernel
theorem dX6_reading_31 : decode cX6_reading 31 = .ok (.iload_n 2, 1) := by decide +kernel
theorem dX6_reading_32 : decode cX6_reading 32 = .ok (.iadd, 1) := by decide +kernel
theorem dX6_reading_33 : decode cX6_reading 33 = .ok (.daload, 1) := by decide +kernel
theorem dX6_reading_34 : decode cX6_reading 34 = .ok (.goto 4, 3) := by decide +kernel
theorem dX6_reading_37 : decode cX6_reading 37 = .ok (.dconst 0, 1) := by decide +kernel
theorem dX6_reading_38 : decode cX6_reading 38 = .ok (.dreturn, 1) := by decide +kernel
theorem dX6_isBlank_0 : decode cX6_isBlank 0 = .ok (.aload_n 0, 1) := by decide +kernel
theorem dX6_isBlank_1 : decode cX6_isBlank 1 = .ok (.iload_n 1, 1) := by decide +kernel
theorem dX6_isBlank_2 : decode cX6_isBlank 2 = .ok (.iload_n 2, 1) := by decide +kernel
theorem dX6_isBlank_3 : decode cX6_isBlank 3 = .ok (.invokevirtual 242, 3) := by decide +kernel
theorem dX6_isBlank_6 : decode cX6_isBlank 6 = .ok (.ifCond .eq 21, 3) := by decide +kernel
theorem dX6_isBlank_9 : decode cX6_isBlank 9 = .ok (.aload_n 0, 1) := by decide +kernel
theorem dX6_isBlank_10 : decode cX6_isBlank 10 = .ok (.getfield 29, 3) := by decide +kernel
theorem dX6_isBlank_13 : decode cX6_isBlank 13 = .ok (.bipush 16, 2) := by decide +kernel
theorem dX6_isBlank_15 : decode cX6_isBlank 15 = .ok (.iload_n 1, 1) := by decide +kernel
theorem dX6_isBlank_16 : decode cX6_isBlank 16 = .ok (.imul, 1) := by decide +kernel
theorem dX6_isBlank_17 : decode cX6_isBlank 17 = .ok (.iload_n 2, 1) := by decide +kernel
theorem dX6_isBlank_18 : decode cX6_isBlank 18 = .ok (.iadd, 1) := by decide +kernel
theorem dX6_isBlank_19 : decode cX6_isBlank 19 = .ok (.baload, 1) := by decide +kernel
theorem dX6_isBlank_20 : decode cX6_isBlank 20 = .ok (.ifCond .eq 7, 3) := by decide +kernel
theorem dX6_isBlank_23 : decode cX6_isBlank 23 = .ok (.iconst 1, 1) := by decide +kernel
theorem dX6_isBlank_24 : decode cX6_isBlank 24 = .ok (.goto 4, 3) := by decide +kernel
theorem dX6_isBlank_27 : decode cX6_isBlank 27 = .ok (.iconst 0, 1) := by decide +kernel
theorem dX6_isBlank_28 : decode cX6_isBlank 28 = .ok (.ireturn, 1) := by decide +kernel
theorem dX6_isMinus_0 : decode cX6_isMinus 0 = .ok (.aload_n 0, 1) := by decide +kernel
theorem dX6_isMinus_1 : decode cX6_isMinus 1 = .ok (.iload_n 1, 1) := by decide +kernel
theorem dX6_isMinus_2 : decode cX6_isMinus 2 = .ok (.iload_n 2, 1) := by decide +kernel
theorem dX6_isMinus_3 : decode cX6_isMinus 3 = .ok (.invokevirtual 242, 3) := by decide +kernel
theorem dX6_isMinus_6 : decode cX6_isMinus 6 = .ok (.ifCond .eq 38, 3) := by decide +kernel
theorem dX6_isMinus_9 : decode cX6_isMinus 9 = .ok (.aload_n 0, 1) := by decide +kernel
theorem dX6_isMinus_10 : decode cX6_isMinus 10 = .ok (.getfield 29, 3) := by decide +kernel
theorem dX6_isMinus_13 : decode cX6_isMinus 13 = .ok (.bipush 16, 2) := by decide +kernel
theorem dX6_isMinus_15 : decode cX6_isMinus 15 = .ok (.iload_n 1, 1) := by decide +kernel
theorem dX6_isMinus_16 : decode cX6_isMinus 16 = .ok (.imul, 1) := by decide +kernel
theorem dX6_isMinus_17 : decode cX6_isMinus 17 = .ok (.iload_n 2, 1) := by decide +kernel
theorem dX6_isMinus_18 : decode cX6_isMinus 18 = .ok (.iadd, 1) := by decide +kernel
theorem dX6_isMinus_19 : decode cX6_isMinus 19 = .ok (.baload, 1) := by decide +kernel
theorem dX6_isMinus_20 : decode cX6_isMinus 20 = .ok (.ifCond .ne 24, 3) := by decide +kernel
theorem dX6_isMinus_23 : decode cX6_isMinus 23 = .ok (.aload_n 0, 1) := by decide +kernel
theorem dX6_isMinus_24 : decode cX6_isMinus 24 = .ok (.getfield 26, 3) := by decide +kernel
theorem dX6_isMinus_27 : decode cX6_isMinus 27 = .ok (.bipush 16, 2) := by decide +kernel
theorem dX6_isMinus_29 : decode cX6_isMinus 29 = .ok (.iload_n 1, 1) := by decide +kernel
theorem dX6_isMinus_30 : decode cX6_isMinus 30 = .ok (.imul, 1) := by decide +kernel
theorem dX6_isMinus_31 : decode cX6_isMinus 31 = .ok (.iload_n 2, 1) := by decide +kernel
theorem dX6_isMinus_32 : decode cX6_isMinus 32 = .ok (.iadd, 1) := by decide +kernel
theorem dX6_isMinus_33 : decode cX6_isMinus 33 = .ok (.daload, 1) := by decide +kernel
theorem dX6_isMinus_34 : decode cX6_isMinus 34 = .ok (.invokestatic 67, 3) := by decide +kernel
theorem dX6_isMinus_37 : decode cX6_isMinus 37 = .ok (.ifCond .eq 7, 3) := by decide +kernel
theorem dX6_isMinus_40 : decode cX6_isMinus 40 = .ok (.iconst 1, 1) := by decide +kernel
theorem dX6_isMinus_41 : decode cX6_isMinus 41 = .ok (.goto 4, 3) := by decide +kernel
theorem dX6_isMinus_44 : decode cX6_isMinus 44 = .ok (.iconst 0, 1) := by decide +kernel
theorem dX6_isMinus_45 : decode cX6_isMinus 45 = .ok (.ireturn, 1) := by decide +kernel
theorem dX6_digits_0 : decode cX6_digits 0 = .ok (.dload_n 0, 1) := by decide +kernel
theorem dX6_digits_1 : decode cX6_digits 1 = .ok (.invokestatic 61, 3) := by decide +kernel
theorem dX6_digits_4 : decode cX6_digits 4 = .ok (.ifCond .eq 5, 3) := by decide +kernel
theorem dX6_digits_7 : decode cX6_digits 7 = .ok (.lconst 0, 1) := by decide +kernel
theorem dX6_digits_8 : decode cX6_digits 8 = .ok (.lreturn, 1) := by decide +kernel
theorem dX6_digits_9 : decode cX6_digits 9 = .ok (.dload_n 0, 1) := by decide +kernel
theorem dX6_digits_10 : decode cX6_digits 10 = .ok (.invokestatic 111, 3) := by decide +kernel
theorem dX6_digits_13 : decode cX6_digits 13 = .ok (.ifCond .eq 15, 3) := by decide +kernel
theorem dX6_digits_16 : decode cX6_digits 16 = .ok (.ldc2_w 245, 3) := by decide +kernel
theorem dX6_digits_19 : decode cX6_digits 19 = .ok (.iload 4, 2) := by decide +kernel
theorem dX6_digits_21 : decode cX6_digits 21 = .ok (.i2l, 1) := by decide +kernel
theorem dX6_digits_22 : decode cX6_digits 22 = .ok (.lmul, 1) := by decide +kernel
theorem dX6_digits_23 : decode cX6_digits 23 = .ok (.lconst 1, 1) := by decide +kernel
theorem dX6_digits_24 : decode cX6_digits 24 = .ok (.ladd, 1) := by decide +kernel
theorem dX6_digits_25 : decode cX6_digits 25 = .ok (.iload_n 2, 1) := by decide +kernel
theorem dX6_digits_26 : decode cX6_digits 26 = .ok (.lshl, 1) := by decide +kernel
theorem dX6_digits_27 : decode cX6_digits 27 = .ok (.lreturn, 1) := by decide +kernel
theorem dX6_digits_28 : decode cX6_digits 28 = .ok (.dload_n 0, 1) := by decide +kernel
theorem dX6_digits_29 : decode cX6_digits 29 = .ok (.dstore 5, 2) := by decide +kernel
theorem dX6_digits_31 : decode cX6_digits 31 = .ok (.iconst 0, 1) := by decide +kernel
theorem dX6_digits_32 : decode cX6_digits 32 = .ok (.istore 7, 2) := by decide +kernel
theorem dX6_digits_34 : decode cX6_digits 34 = .ok (.dload 5, 2) := by decide +kernel
theorem dX6_digits_36 : decode cX6_digits 36 = .ok (.ldc2_w 84, 3) := by decide +kernel
theorem dX6_digits_39 : decode cX6_digits 39 = .ok (.dcmp .l, 1) := by decide +kernel
theorem dX6_digits_40 : decode cX6_digits 40 = .ok (.ifCond .lt 17, 3) := by decide +kernel
theorem dX6_digits_43 : decode cX6_digits 43 = .ok (.dload 5, 2) := by decide +kernel
theorem dX6_digits_45 : decode cX6_digits 45 = .ok (.ldc2_w 84, 3) := by decide +kernel
theorem dX6_digits_48 : decode cX6_digits 48 = .ok (.ddiv, 1) := by decide +kernel
theorem dX6_digits_49 : decode cX6_digits 49 = .ok (.dstore 5, 2) := by decide +kernel
theorem dX6_digits_51 : decode cX6_digits 51 = .ok (.iinc 7 1, 3) := by decide +kernel
theorem dX6_digits_54 : decode cX6_digits 54 = .ok (.goto (-20), 3) := by decide +kernel
theorem dX6_digits_57 : decode cX6_digits 57 = .ok (.dload 5, 2) := by decide +kernel
theorem dX6_digits_59 : decode cX6_digits 59 = .ok (.dconst 1, 1) := by decide +kernel
theorem dX6_digits_60 : decode cX6_digits 60 = .ok (.dcmp .g, 1) := by decide +kernel
theorem dX6_digits_61 : decode cX6_digits 61 = .ok (.ifCond .ge 23, 3) := by decide +kernel
theorem dX6_digits_64 : decode cX6_digits 64 = .ok (.iload 7, 2) := by decide +kernel
theorem dX6_digits_66 : decode cX6_digits 66 = .ok (.iload_n 3, 1) := by decide +kernel
theorem dX6_digits_67 : decode cX6_digits 67 = .ok (.if_icmp .le 17, 3) := by decide +kernel
theorem dX6_digits_70 : decode cX6_digits 70 = .ok (.dload 5, 2) := by decide +kernel
theorem dX6_digits_72 : decode cX6_digits 72 = .ok (.ldc2_w 84, 3) := by decide +kernel
theorem dX6_digits_75 : decode cX6_digits 75 = .ok (.dmul, 1) := by decide +kernel
theorem dX6_digits_76 : decode cX6_digits 76 = .ok (.dstore 5, 2) := by decide +kernel
theorem dX6_digits_78 : decode cX6_digits 78 = .ok (.iinc 7 (-1), 3) := by decide +kernel
theorem dX6_digits_81 : decode cX6_digits 81 = .ok (.goto (-24), 3) := by decide +kernel
theorem dX6_digits_84 : decode cX6_digits 84 = .ok (.lconst 1, 1) := by decide +kernel
theorem dX6_digits_85 : decode cX6_digits 85 = .ok (.iload_n 2, 1) := by decide +kernel
theorem dX6_digits_86 : decode cX6_digits 86 = .ok (.lshl, 1) := by decide +kernel
theorem dX6_digits_87 : decode cX6_digits 87 = .ok (.l2d, 1) := by decide +kernel
theorem dX6_digits_88 : decode cX6_digits 88 = .ok (.dstore 8, 2) := by decide +kernel
theorem dX6_digits_90 : decode cX6_digits 90 = .ok (.dload 5, 2) := by decide +kernel
theorem dX6_digits_92 : decode cX6_digits 92 = .ok (.dconst 1, 1) := by decide +kernel
theorem dX6_digits_93 : decode cX6_digits 93 = .ok (.dcmp .g, 1) := by decide +kernel
theorem dX6_digits_94 : decode cX6_digits 94 = .ok (.ifCond .ge 10, 3) := by decide +kernel
theorem dX6_digits_97 : decode cX6_digits 97 = .ok (.dload 5, 2) := by decide +kernel
theorem dX6_digits_99 : decode cX6_digits 99 = .ok (.dload 8, 2) := by decide +kernel
theorem dX6_digits_101 : decode cX6_digits 101 = .ok (.dmul, 1) := by decide +kernel
theorem dX6_digits_102 : decode cX6_digits 102 = .ok (.d2l, 1) := by decide +kernel
theorem dX6_digits_103 : decode cX6_digits 103 = .ok (.lreturn, 1) := by decide +kernel
theorem dX6_digits_104 : decode cX6_digits 104 = .ok (.iload 7, 2) := by decide +kernel
theorem dX6_digits_106 : decode cX6_digits 106 = .ok (.iload 4, 2) := by decide +kernel
theorem dX6_digits_108 : decode cX6_digits 108 = .ok (.iadd, 1) := by decide +kernel
theorem dX6_digits_109 : decode cX6_digits 109 = .ok (.i2l, 1) := by decide +kernel
theorem dX6_digits_110 : decode cX6_digits 110 = .ok (.iload_n 2, 1) := by decide +kernel
theorem dX6_digits_111 : decode cX6_digits 111 = .ok (.lshl, 1) := by decide +kernel
theorem dX6_digits_112 : decode cX6_digits 112 = .ok (.dload 5, 2) := by decide +kernel
theorem dX6_digits_114 : decode cX6_digits 114 = .ok (.dconst 1, 1) := by decide +kernel
theorem dX6_digits_115 : decode cX6_digits 115 = .ok (.dsub, 1) := by decide +kernel
theorem dX6_digits_116 : decode cX6_digits 116 = .ok (.dload 8, 2) := by decide +kernel
theorem dX6_digits_118 : decode cX6_digits 118 = .ok (.dmul, 1) := by decide +kernel
theorem dX6_digits_119 : decode cX6_digits 119 = .ok (.d2l, 1) := by decide +kernel
theorem dX6_digits_120 : decode cX6_digits 120 = .ok (.lor, 1) := by decide +kernel
theorem dX6_digits_121 : decode cX6_digits 121 = .ok (.lreturn, 1) := by decide +kernel
theorem dX6_bits_0 : decode cX6_bits 0 = .ok (.aload_n 0, 1) := by decide +kernel
theorem dX6_bits_1 : decode cX6_bits 1 = .ok (.iload_n 1, 1) := by decide +kernel
theorem dX6_bits_2 : decode cX6_bits 2 = .ok (.iload_n 2, 1) := by decide +kernel
theorem dX6_bits_3 : decode cX6_bits 3 = .ok (.invokevirtual 242, 3) := by decide +kernel
theorem dX6_bits_6 : decode cX6_bits 6 = .ok (.ifCond .eq 17, 3) := by decide +kernel
theorem dX6_bits_9 : decode cX6_bits 9 = .ok (.aload_n 0, 1) := by decide +kernel
theorem dX6_bits_10 : decode cX6_bits 10 = .ok (.getfield 29, 3) := by decide +kernel
theorem dX6_bits_13 : decode cX6_bits 13 = .ok (.bipush 16, 2) := by decide +kernel
theorem dX6_bits_15 : decode cX6_bits 15 = .ok (.iload_n 1, 1) := by decide +kernel
theorem dX6_bits_16 : decode cX6_bits 16 = .ok (.imul, 1) := by decide +kernel
theorem dX6_bits_17 : decode cX6_bits 17 = .ok (.iload_n 2, 1) := by decide +kernel
theorem dX6_bits_18 : decode cX6_bits 18 = .ok (.iadd, 1) := by decide +kernel
theorem dX6_bits_19 : decode cX6_bits 19 = .ok (.baload, 1) := by decide +kernel
theorem dX6_bits_20 : decode cX6_bits 20 = .ok (.ifCond .eq 5, 3) := by decide +kernel
theorem dX6_bits_23 : decode cX6_bits 23 = .ok (.lconst 0, 1) := by decide +kernel
theorem dX6_bits_24 : decode cX6_bits 24 = .ok (.lreturn, 1) := by decide +kernel
theorem dX6_bits_25 : decode cX6_bits 25 = .ok (.aload_n 0, 1) := by decide +kernel
theorem dX6_bits_26 : decode cX6_bits 26 = .ok (.getfield 26, 3) := by decide +kernel
theorem dX6_bits_29 : decode cX6_bits 29 = .ok (.bipush 16, 2) := by decide +kernel
theorem dX6_bits_31 : decode cX6_bits 31 = .ok (.iload_n 1, 1) := by decide +kernel
theorem dX6_bits_32 : decode cX6_bits 32 = .ok (.imul, 1) := by decide +kernel
theorem dX6_bits_33 : decode cX6_bits 33 = .ok (.iload_n 2, 1) := by decide +kernel
theorem dX6_bits_34 : decode cX6_bits 34 = .ok (.iadd, 1) := by decide +kernel
theorem dX6_bits_35 : decode cX6_bits 35 = .ok (.daload, 1) := by decide +kernel
theorem dX6_bits_36 : decode cX6_bits 36 = .ok (.dstore_n 3, 1) := by decide +kernel
theorem dX6_bits_37 : decode cX6_bits 37 = .ok (.dload_n 3, 1) := by decide +kernel
theorem dX6_bits_38 : decode cX6_bits 38 = .ok (.invokestatic 67, 3) := by decide +kernel
theorem dX6_bits_41 : decode cX6_bits 41 = .ok (.ifCond .eq 8, 3) := by decide +kernel
theorem dX6_bits_44 : decode cX6_bits 44 = .ok (.dload_n 3, 1) := by decide +kernel
theorem dX6_bits_45 : decode cX6_bits 45 = .ok (.dneg, 1) := by decide +kernel
theorem dX6_bits_46 : decode cX6_bits 46 = .ok (.goto 4, 3) := by decide +kernel
theorem dX6_bits_49 : decode cX6_bits 49 = .ok (.dload_n 3, 1) := by decide +kernel
theorem dX6_bits_50 : decode cX6_bits 50 = .ok (.dstore 5, 2) := by decide +kernel
theorem dX6_bits_52 : decode cX6_bits 52 = .ok (.aload_n 0, 1) := by decide +kernel
theorem dX6_bits_53 : decode cX6_bits 53 = .ok (.getfield 19, 3) := by decide +kernel
theorem dX6_bits_56 : decode cX6_bits 56 = .ok (.iload_n 1, 1) := by decide +kernel
theorem dX6_bits_57 : decode cX6_bits 57 = .ok (.baload, 1) := by decide +kernel
theorem dX6_bits_58 : decode cX6_bits 58 = .ok (.ifCond .eq 37, 3) := by decide +kernel
theorem dX6_bits_61 : decode cX6_bits 61 = .ok (.dload 5, 2) := by decide +kernel
theorem dX6_bits_63 : decode cX6_bits 63 = .ok (.bipush 23, 2) := by decide +kernel
theorem dX6_bits_65 : decode cX6_bits 65 = .ok (.bipush (-126), 2) := by decide +kernel
theorem dX6_bits_67 : decode cX6_bits 67 = .ok (.bipush 127, 2) := by decide +kernel
theorem dX6_bits_69 : decode cX6_bits 69 = .ok (.invokestatic 247, 3) := by decide +kernel
theorem dX6_bits_72 : decode cX6_bits 72 = .ok (.l2i, 1) := by decide +kernel
theorem dX6_bits_73 : decode cX6_bits 73 = .ok (.istore 7, 2) := by decide +kernel
theorem dX6_bits_75 : decode cX6_bits 75 = .ok (.dload_n 3, 1) := by decide +kernel
theorem dX6_bits_76 : decode cX6_bits 76 = .ok (.invokestatic 67, 3) := by decide +kernel
theorem dX6_bits_79 : decode cX6_bits 79 = .ok (.ifCond .eq 12, 3) := by decide +kernel
theorem dX6_bits_82 : decode cX6_bits 82 = .ok (.iload 7, 2) := by decide +kernel
theorem dX6_bits_84 : decode cX6_bits 84 = .ok (.ldc 251, 2) := by decide +kernel
theorem dX6_bits_86 : decode cX6_bits 86 = .ok (.ior, 1) := by decide +kernel
theorem dX6_bits_87 : decode cX6_bits 87 = .ok (.i2l, 1) := by decide +kernel
theorem dX6_bits_88 : decode cX6_bits 88 = .ok (.goto 6, 3) := by decide +kernel
theorem dX6_bits_91 : decode cX6_bits 91 = .ok (.iload 7, 2) := by decide +kernel
theorem dX6_bits_93 : decode cX6_bits 93 = .ok (.i2l, 1) := by decide +kernel
theorem dX6_bits_94 : decode cX6_bits 94 = .ok (.lreturn, 1) := by decide +kernel
theorem dX6_bits_95 : decode cX6_bits 95 = .ok (.dload 5, 2) := by decide +kernel
theorem dX6_bits_97 : decode cX6_bits 97 = .ok (.bipush 52, 2) := by decide +kernel
theorem dX6_bits_99 : decode cX6_bits 99 = .ok (.sipush (-1022), 3) := by decide +kernel
theorem dX6_bits_102 : decode cX6_bits 102 = .ok (.sipush 1023, 3) := by decide +kernel
theorem dX6_bits_105 : decode cX6_bits 105 = .ok (.invokestatic 247, 3) := by decide +kernel
theorem dX6_bits_108 : decode cX6_bits 108 = .ok (.lstore 7, 2) := by decide +kernel
theorem dX6_bits_110 : decode cX6_bits 110 = .ok (.dload_n 3, 1) := by decide +kernel
theorem dX6_bits_111 : decode cX6_bits 111 = .ok (.invokestatic 67, 3) := by decide +kernel
theorem dX6_bits_114 : decode cX6_bits 114 = .ok (.ifCond .eq 12, 3) := by decide +kernel
theorem dX6_bits_117 : decode cX6_bits 117 = .ok (.lload 7, 2) := by decide +kernel
theorem dX6_bits_119 : decode cX6_bits 119 = .ok (.ldc2_w 252, 3) := by decide +kernel
theorem dX6_bits_122 : decode cX6_bits 122 = .ok (.lor, 1) := by decide +kernel
theorem dX6_bits_123 : decode cX6_bits 123 = .ok (.goto 5, 3) := by decide +kernel
theorem dX6_bits_126 : decode cX6_bits 126 = .ok (.lload 7, 2) := by decide +kernel
theorem dX6_bits_128 : decode cX6_bits 128 = .ok (.lreturn, 1) := by decide +kernel
theorem dX6_compared_0 : decode cX6_compared 0 = .ok (.iload_n 1, 1) := by decide +kernel
theorem dX6_compared_1 : decode cX6_compared 1 = .ok (.iconst 0, 1) := by decide +kernel
theorem dX6_compared_2 : decode cX6_compared 2 = .ok (.bipush 11, 2) := by decide +kernel
theorem dX6_compared_4 : decode cX6_compared 4 = .ok (.invokestatic 191, 3) := by decide +kernel
theorem dX6_compared_7 : decode cX6_compared 7 = .ok (.ifCond .eq 23, 3) := by decide +kernel
theorem dX6_compared_10 : decode cX6_compared 10 = .ok (.iload_n 3, 1) := by decide +kernel
theorem dX6_compared_11 : decode cX6_compared 11 = .ok (.iconst 0, 1) := by decide +kernel
theorem dX6_compared_12 : decode cX6_compared 12 = .ok (.bipush 11, 2) := by decide +kernel
theorem dX6_compared_14 : decode cX6_compared 14 = .ok (.invokestatic 191, 3) := by decide +kernel
theorem dX6_compared_17 : decode cX6_compared 17 = .ok (.ifCond .eq 13, 3) := by decide +kernel
theorem dX6_compared_20 : decode cX6_compared 20 = .ok (.iload_n 2, 1) := by decide +kernel
theorem dX6_compared_21 : decode cX6_compared 21 = .ok (.iconst 0, 1) := by decide +kernel
theorem dX6_compared_22 : decode cX6_compared 22 = .ok (.bipush 11, 2) := by decide +kernel
theorem dX6_compared_24 : decode cX6_compared 24 = .ok (.invokestatic 191, 3) := by decide +kernel
theorem dX6_compared_27 : decode cX6_compared 27 = .ok (.ifCond .ne 5, 3) := by decide +kernel
theorem dX6_compared_30 : decode cX6_compared 30 = .ok (.iconst (-1), 1) := by decide +kernel
theorem dX6_compared_31 : decode cX6_compared 31 = .ok (.ireturn, 1) := by decide +kernel
theorem dX6_compared_32 : decode cX6_compared 32 = .ok (.aload_n 0, 1) := by decide +kernel
theorem dX6_compared_33 : decode cX6_compared 33 = .ok (.invokevirtual 226, 3) := by decide +kernel
theorem dX6_compared_36 : decode cX6_compared 36 = .ok (.iconst 0, 1) := by decide +kernel
theorem dX6_compared_37 : decode cX6_compared 37 = .ok (.istore 4, 2) := by decide +kernel
theorem dX6_compared_39 : decode cX6_compared 39 = .ok (.iconst 0, 1) := by decide +kernel
theorem dX6_compared_40 : decode cX6_compared 40 = .ok (.istore 5, 2) := by decide +kernel
theorem dX6_compared_42 : decode cX6_compared 42 = .ok (.iload 5, 2) := by decide +kernel
theorem dX6_compared_44 : decode cX6_compared 44 = .ok (.bipush 16, 2) := by decide +kernel
theorem dX6_compared_46 : decode cX6_compared 46 = .ok (.if_icmp .ge 72, 3) := by decide +kernel
theorem dX6_compared_49 : decode cX6_compared 49 = .ok (.bipush 16, 2) := by decide +kernel
theorem dX6_compared_51 : decode cX6_compared 51 = .ok (.iload_n 1, 1) := by decide +kernel
theorem dX6_compared_52 : decode cX6_compared 52 = .ok (.imul, 1) := by decide +kernel
theorem dX6_compared_53 : decode cX6_compared 53 = .ok (.iload 5, 2) := by decide +kernel
theorem dX6_compared_55 : decode cX6_compared 55 = .ok (.iadd, 1) := by decide +kernel
theorem dX6_compared_56 : decode cX6_compared 56 = .ok (.istore 6, 2) := by decide +kernel
theorem dX6_compared_58 : decode cX6_compared 58 = .ok (.bipush 16, 2) := by decide +kernel
theorem dX6_compared_60 : decode cX6_compared 60 = .ok (.iload_n 3, 1) := by decide +kernel
theorem dX6_compared_61 : decode cX6_compared 61 = .ok (.imul, 1) := by decide +kernel
theorem dX6_compared_62 : decode cX6_compared 62 = .ok (.iload 5, 2) := by decide +kernel
theorem dX6_compared_64 : decode cX6_compared 64 = .ok (.iadd, 1) := by decide +kernel
theorem dX6_compared_65 : decode cX6_compared 65 = .ok (.istore 7, 2) := by decide +kernel
theorem dX6_compared_67 : decode cX6_compared 67 = .ok (.iload 4, 2) := by decide +kernel
theorem dX6_compared_69 : decode cX6_compared 69 = .ok (.iload_n 2, 1) := by decide +kernel
theorem dX6_compared_70 : decode cX6_compared 70 = .ok (.aload_n 0, 1) := by decide +kernel
theorem dX6_compared_71 : decode cX6_compared 71 = .ok (.getfield 26, 3) := by decide +kernel
theorem dX6_compared_74 : decode cX6_compared 74 = .ok (.iload 6, 2) := by decide +kernel
theorem dX6_compared_76 : decode cX6_compared 76 = .ok (.daload, 1) := by decide +kernel
theorem dX6_compared_77 : decode cX6_compared 77 = .ok (.aload_n 0, 1) := by decide +kernel
theorem dX6_compared_78 : decode cX6_compared 78 = .ok (.getfield 29, 3) := by decide +kernel
theorem dX6_compared_81 : decode cX6_compared 81 = .ok (.iload 6, 2) := by decide +kernel
theorem dX6_compared_83 : decode cX6_compared 83 = .ok (.baload, 1) := by decide +kernel
theorem dX6_compared_84 : decode cX6_compared 84 = .ok (.aload_n 0, 1) := by decide +kernel
theorem dX6_compared_85 : decode cX6_compared 85 = .ok (.getfield 26, 3) := by decide +kernel
theorem dX6_compared_88 : decode cX6_compared 88 = .ok (.iload 7, 2) := by decide +kernel
theorem dX6_compared_90 : decode cX6_compared 90 = .ok (.daload, 1) := by decide +kernel
theorem dX6_compared_91 : decode cX6_compared 91 = .ok (.aload_n 0, 1) := by decide +kernel
theorem dX6_compared_92 : decode cX6_compared 92 = .ok (.getfield 29, 3) := by decide +kernel
theorem dX6_compared_95 : decode cX6_compared 95 = .ok (.iload 7, 2) := by decide +kernel
theorem dX6_compared_97 : decode cX6_compared 97 = .ok (.baload, 1) := by decide +kernel
theorem dX6_compared_98 : decode cX6_compared 98 = .ok (.invokestatic 150, 3) := by decide +kernel
theorem dX6_compared_101 : decode cX6_compared 101 = .ok (.ifCond .eq 7, 3) := by decide +kernel
theorem dX6_compared_104 : decode cX6_compared 104 = .ok (.iconst 1, 1) := by decide +kernel
theorem dX6_compared_105 : decode cX6_compared 105 = .ok (.goto 4, 3) := by decide +kernel
theorem dX6_compared_108 : decode cX6_compared 108 = .ok (.iconst 0, 1) := by decide +kernel
theorem dX6_compared_109 : decode cX6_compared 109 = .ok (.iadd, 1) := by decide +kernel
theorem dX6_compared_110 : decode cX6_compared 110 = .ok (.istore 4, 2) := by decide +kernel
theorem dX6_compared_112 : decode cX6_compared 112 = .ok (.iinc 5 1, 3) := by decide +kernel
theorem dX6_compared_115 : decode cX6_compared 115 = .ok (.goto (-73), 3) := by decide +kernel
theorem dX6_compared_118 : decode cX6_compared 118 = .ok (.iload 4, 2) := by decide +kernel
theorem dX6_compared_120 : decode cX6_compared 120 = .ok (.ireturn, 1) := by decide +kernel
theorem dX6_told_0 : decode cX6_told 0 = .ok (.iload_n 1, 1) := by decide +kernel
theorem dX6_told_1 : decode cX6_told 1 = .ok (.bipush 12, 2) := by decide +kernel
theorem dX6_told_3 : decode cX6_told 3 = .ok (.if_icmp .ne 40, 3) := by decide +kernel
theorem dX6_told_6 : decode cX6_told 6 = .ok (.iload_n 2, 1) := by decide +kernel
theorem dX6_told_7 : decode cX6_told 7 = .ok (.ifCond .ne 10, 3) := by decide +kernel
theorem dX6_told_10 : decode cX6_told 10 = .ok (.aload_n 0, 1) := by decide +kernel
theorem dX6_told_11 : decode cX6_told 11 = .ok (.getfield 187, 3) := by decide +kernel
theorem dX6_told_14 : decode cX6_told 14 = .ok (.goto 28, 3) := by decide +kernel
theorem dX6_told_17 : decode cX6_told 17 = .ok (.iload_n 2, 1) := by decide +kernel
theorem dX6_told_18 : decode cX6_told 18 = .ok (.iconst 1, 1) := by decide +kernel
theorem dX6_told_19 : decode cX6_told 19 = .ok (.if_icmp .ne 10, 3) := by decide +kernel
theorem dX6_told_22 : decode cX6_told 22 = .ok (.aload_n 0, 1) := by decide +kernel
theorem dX6_told_23 : decode cX6_told 23 = .ok (.getfield 229, 3) := by decide +kernel
theorem dX6_told_26 : decode cX6_told 26 = .ok (.goto 16, 3) := by decide +kernel
theorem dX6_told_29 : decode cX6_told 29 = .ok (.iload_n 2, 1) := by decide +kernel
theorem dX6_told_30 : decode cX6_told 30 = .ok (.iconst 2, 1) := by decide +kernel
theorem dX6_told_31 : decode cX6_told 31 = .ok (.if_icmp .ne 10, 3) := by decide +kernel
theorem dX6_told_34 : decode cX6_told 34 = .ok (.aload_n 0, 1) := by decide +kernel
theorem dX6_told_35 : decode cX6_told 35 = .ok (.getfield 239, 3) := by decide +kernel
theorem dX6_told_38 : decode cX6_told 38 = .ok (.goto 4, 3) := by decide +kernel
theorem dX6_told_41 : decode cX6_told 41 = .ok (.iconst (-1), 1) := by decide +kernel
theorem dX6_told_42 : decode cX6_told 42 = .ok (.ireturn, 1) := by decide +kernel
theorem dX6_told_43 : decode cX6_told 43 = .ok (.iload_n 1, 1) := by decide +kernel
theorem dX6_told_44 : decode cX6_told 44 = .ok (.iconst 0, 1) := by decide +kernel
theorem dX6_told_45 : decode cX6_told 45 = .ok (.bipush 11, 2) := by decide +kernel
theorem dX6_told_47 : decode cX6_told 47 = .ok (.invokestatic 191, 3) := by decide +kernel
theorem dX6_told_50 : decode cX6_told 50 = .ok (.ifCond .ne 5, 3) := by decide +kernel
theorem dX6_told_53 : decode cX6_told 53 = .ok (.iconst (-1), 1) := by decide +kernel
theorem dX6_told_54 : decode cX6_told 54 = .ok (.ireturn, 1) := by decide +kernel
theorem dX6_told_55 : decode cX6_told 55 = .ok (.iload_n 2, 1) := by decide +kernel
theorem dX6_told_56 : decode cX6_told 56 = .ok (.tableswitch 111 0 3 #[32, 49, 64, 102], 32) := by decide +kernel
theorem dX6_told_88 : decode cX6_told 88 = .ok (.aload_n 0, 1) := by decide +kernel
theorem dX6_told_89 : decode cX6_told 89 = .ok (.getfield 22, 3) := by decide +kernel
theorem dX6_told_92 : decode cX6_told 92 = .ok (.iconst 4, 1) := by decide +kernel
theorem dX6_told_93 : decode cX6_told 93 = .ok (.iload_n 1, 1) := by decide +kernel
theorem dX6_told_94 : decode cX6_told 94 = .ok (.imul, 1) := by decide +kernel
theorem dX6_told_95 : decode cX6_told 95 = .ok (.iaload, 1) := by decide +kernel
theorem dX6_told_96 : decode cX6_told 96 = .ok (.ifCond .ge 7, 3) := by decide +kernel
theorem dX6_told_99 : decode cX6_told 99 = .ok (.iconst 0, 1) := by decide +kernel
theorem dX6_told_100 : decode cX6_told 100 = .ok (.goto 4, 3) := by decide +kernel
theorem dX6_told_103 : decode cX6_told 103 = .ok (.iconst 1, 1) := by decide +kernel
theorem dX6_told_104 : decode cX6_told 104 = .ok (.ireturn, 1) := by decide +kernel
theorem dX6_told_105 : decode cX6_told 105 = .ok (.aload_n 0, 1) := by decide +kernel
theorem dX6_told_106 : decode cX6_told 106 = .ok (.getfield 19, 3) := by decide +kernel
theorem dX6_told_109 : decode cX6_told 109 = .ok (.iload_n 1, 1) := by decide +kernel
theorem dX6_told_110 : decode cX6_told 110 = .ok (.baload, 1) := by decide +kernel
theorem dX6_told_111 : decode cX6_told 111 = .ok (.ifCond .eq 7, 3) := by decide +kernel
theorem dX6_told_114 : decode cX6_told 114 = .ok (.iconst 1, 1) := by decide +kernel
theorem dX6_told_115 : decode cX6_told 115 = .ok (.goto 4, 3) := by decide +kernel
theorem dX6_told_118 : decode cX6_told 118 = .ok (.iconst 0, 1) := by decide +kernel
theorem dX6_told_119 : decode cX6_told 119 = .ok (.ireturn, 1) := by decide +kernel
theorem dX6_told_120 : decode cX6_told 120 = .ok (.iconst 0, 1) := by decide +kernel
theorem dX6_told_121 : decode cX6_told 121 = .ok (.istore_n 3, 1) := by decide +kernel
theorem dX6_told_122 : decode cX6_told 122 = .ok (.iconst 0, 1) := by decide +kernel
theorem dX6_told_123 : decode cX6_told 123 = .ok (.istore 4, 2) := by decide +kernel
theorem dX6_told_125 : decode cX6_told 125 = .ok (.iload 4, 2) := by decide +kernel
theorem dX6_told_127 : decode cX6_told 127 = .ok (.bipush 16, 2) := by decide +kernel
theorem dX6_told_129 : decode cX6_told 129 = .ok (.if_icmp .ge 27, 3) := by decide +kernel
theorem dX6_told_132 : decode cX6_told 132 = .ok (.iload_n 3, 1) := by decide +kernel
theorem dX6_told_133 : decode cX6_told 133 = .ok (.aload_n 0, 1) := by decide +kernel
theorem dX6_told_134 : decode cX6_told 134 = .ok (.iload_n 1, 1) := by decide +kernel
theorem dX6_told_135 : decode cX6_told 135 = .ok (.iload 4, 2) := by decide +kernel
theorem dX6_told_137 : decode cX6_told 137 = .ok (.invokevirtual 254, 3) := by decide +kernel
theorem dX6_told_140 : decode cX6_told 140 = .ok (.ifCond .eq 7, 3) := by decide +kernel
theorem dX6_told_143 : decode cX6_told 143 = .ok (.iconst 1, 1) := by decide +kernel
theorem dX6_told_144 : decode cX6_told 144 = .ok (.goto 4, 3) := by decide +kernel
theorem dX6_told_147 : decode cX6_told 147 = .ok (.iconst 0, 1) := by decide +kernel
theorem dX6_told_148 : decode cX6_told 148 = .ok (.iadd, 1) := by decide +kernel
theorem dX6_told_149 : decode cX6_told 149 = .ok (.istore_n 3, 1) := by decide +kernel
theorem dX6_told_150 : decode cX6_told 150 = .ok (.iinc 4 1, 3) := by decide +kernel
theorem dX6_told_153 : decode cX6_told 153 = .ok (.goto (-28), 3) := by decide +kernel
theorem dX6_told_156 : decode cX6_told 156 = .ok (.iload_n 3, 1) := by decide +kernel
theorem dX6_told_157 : decode cX6_told 157 = .ok (.ireturn, 1) := by decide +kernel
theorem dX6_told_158 : decode cX6_told 158 = .ok (.aload_n 0, 1) := by decide +kernel
theorem dX6_told_159 : decode cX6_told 159 = .ok (.getfield 22, 3) := by decide +kernel
theorem dX6_told_162 : decode cX6_told 162 = .ok (.iconst 4, 1) := by decide +kernel
theorem dX6_told_163 : decode cX6_told 163 = .ok (.iload_n 1, 1) := by decide +kernel
theorem dX6_told_164 : decode cX6_told 164 = .ok (.imul, 1) := by decide +kernel
theorem dX6_told_165 : decode cX6_told 165 = .ok (.iaload, 1) := by decide +kernel
theorem dX6_told_166 : decode cX6_told 166 = .ok (.ireturn, 1) := by decide +kernel
theorem dX6_told_167 : decode cX6_told 167 = .ok (.iconst (-1), 1) := by decide +kernel
theorem dX6_told_168 : decode cX6_told 168 = .ok (.ireturn, 1) := by decide +kernel
