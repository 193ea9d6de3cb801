theorem dX12_isIn_0 : decode cX12_isIn 0 = .ok (.lload_n 0, 1) := by decide +kernel
theorem dX12_isIn_1 : decode cX12_isIn 1 = .ok (.lload_n 2, 1) := by decide +kernel
theorem dX12_isIn_2 : decode cX12_isIn 2 = .ok (.lcmp, 1) := by decide +kernel
theorem dX12_isIn_3 : decode cX12_isIn 3 = .ok (.ifCond .lt 14, 3) := by decide +kernel
theorem dX12_isIn_6 : decode cX12_isIn 6 = .ok (.lload_n 0, 1) := by decide +kernel
theorem dX12_isIn_7 : decode cX12_isIn 7 = .ok (.lload 4, 2) := by decide +kernel
theorem dX12_isIn_9 : decode cX12_isIn 9 = .ok (.lcmp, 1) := by decide +kernel
theorem dX12_isIn_10 : decode cX12_isIn 10 = .ok (.ifCond .gt 7, 3) := by decide +kernel
theorem dX12_isIn_13 : decode cX12_isIn 13 = .ok (.iconst 1, 1) := by decide +kernel
theorem dX12_isIn_14 : decode cX12_isIn 14 = .ok (.goto 4, 3) := by decide +kernel
theorem dX12_isIn_17 : decode cX12_isIn 17 = .ok (.iconst 0, 1) := by decide +kernel
theorem dX12_isIn_18 : decode cX12_isIn 18 = .ok (.ireturn, 1) := by decide +kernel
theorem dX12_copyRow_0 : decode cX12_copyRow 0 = .ok (.iconst 0, 1) := by decide +kernel
theorem dX12_copyRow_1 : decode cX12_copyRow 1 = .ok (.istore_n 3, 1) := by decide +kernel
theorem dX12_copyRow_2 : decode cX12_copyRow 2 = .ok (.iload_n 3, 1) := by decide +kernel
theorem dX12_copyRow_3 : decode cX12_copyRow 3 = .ok (.sipush 3740, 3) := by decide +kernel
theorem dX12_copyRow_6 : decode cX12_copyRow 6 = .ok (.if_icmp .ge 33, 3) := by decide +kernel
theorem dX12_copyRow_9 : decode cX12_copyRow 9 = .ok (.aload_n 0, 1) := by decide +kernel
theorem dX12_copyRow_10 : decode cX12_copyRow 10 = .ok (.getfield 3, 3) := by decide +kernel
theorem dX12_copyRow_13 : decode cX12_copyRow 13 = .ok (.sipush 3740, 3) := by decide +kernel
theorem dX12_copyRow_16 : decode cX12_copyRow 16 = .ok (.iload_n 2, 1) := by decide +kernel
theorem dX12_copyRow_17 : decode cX12_copyRow 17 = .ok (.imul, 1) := by decide +kernel
theorem dX12_copyRow_18 : decode cX12_copyRow 18 = .ok (.iload_n 3, 1) := by decide +kernel
theorem dX12_copyRow_19 : decode cX12_copyRow 19 = .ok (.iadd, 1) := by decide +kernel
theorem dX12_copyRow_20 : decode cX12_copyRow 20 = .ok (.aload_n 0, 1) := by decide +kernel
theorem dX12_copyRow_21 : decode cX12_copyRow 21 = .ok (.getfield 3, 3) := by decide +kernel
theorem dX12_copyRow_24 : decode cX12_copyRow 24 = .ok (.sipush 3740, 3) := by decide +kernel
theorem dX12_copyRow_27 : decode cX12_copyRow 27 = .ok (.iload_n 1, 1) := by decide +kernel
theorem dX12_copyRow_28 : decode cX12_copyRow 28 = .ok (.imul, 1) := by decide +kernel
theorem dX12_copyRow_29 : decode cX12_copyRow 29 = .ok (.iload_n 3, 1) := by decide +kernel
theorem dX12_copyRow_30 : decode cX12_copyRow 30 = .ok (.iadd, 1) := by decide +kernel
theorem dX12_copyRow_31 : decode cX12_copyRow 31 = .ok (.iaload, 1) := by decide +kernel
theorem dX12_copyRow_32 : decode cX12_copyRow 32 = .ok (.iastore, 1) := by decide +kernel
theorem dX12_copyRow_33 : decode cX12_copyRow 33 = .ok (.iinc 3 1, 3) := by decide +kernel
theorem dX12_copyRow_36 : decode cX12_copyRow 36 = .ok (.goto (-34), 3) := by decide +kernel
theorem dX12_copyRow_39 : decode cX12_copyRow 39 = .ok (.return_, 1) := by decide +kernel
theorem dX12_init_0 : decode cX12_init 0 = .ok (.aload_n 0, 1) := by decide +kernel
theorem dX12_init_1 : decode cX12_init 1 = .ok (.invokespecial 7, 3) := by decide +kernel
theorem dX12_init_4 : decode cX12_init 4 = .ok (.aload_n 0, 1) := by decide +kernel
theorem dX12_init_5 : decode cX12_init 5 = .ok (.ldc 13, 2) := by decide +kernel
theorem dX12_init_7 : decode cX12_init 7 = .ok (.newarray .int, 2) := by decide +kernel
theorem dX12_init_9 : decode cX12_init 9 = .ok (.putfield 3, 3) := by decide +kernel
theorem dX12_init_12 : decode cX12_init 12 = .ok (.aload_n 0, 1) := by decide +kernel
theorem dX12_init_13 : decode cX12_init 13 = .ok (.iconst 2, 1) := by decide +kernel
theorem dX12_init_14 : decode cX12_init 14 = .ok (.newarray .boolean, 2) := by decide +kernel
theorem dX12_init_16 : decode cX12_init 16 = .ok (.putfield 14, 3) := by decide +kernel
theorem dX12_init_19 : decode cX12_init 19 = .ok (.aload_n 0, 1) := by decide +kernel
theorem dX12_init_20 : decode cX12_init 20 = .ok (.sipush 500, 3) := by decide +kernel
theorem dX12_init_23 : decode cX12_init 23 = .ok (.newarray .byte, 2) := by decide +kernel
theorem dX12_init_25 : decode cX12_init 25 = .ok (.putfield 18, 3) := by decide +kernel
theorem dX12_init_28 : decode cX12_init 28 = .ok (.aload_n 0, 1) := by decide +kernel
theorem dX12_init_29 : decode cX12_init 29 = .ok (.iconst (-1), 1) := by decide +kernel
theorem dX12_init_30 : decode cX12_init 30 = .ok (.putfield 22, 3) := by decide +kernel
theorem dX12_init_33 : decode cX12_init 33 = .ok (.aload_n 0, 1) := by decide +kernel
theorem dX12_init_34 : decode cX12_init 34 = .ok (.bipush 80, 2) := by decide +kernel
theorem dX12_init_36 : decode cX12_init 36 = .ok (.newarray .int, 2) := by decide +kernel
theorem dX12_init_38 : decode cX12_init 38 = .ok (.putfield 26, 3) := by decide +kernel
theorem dX12_init_41 : decode cX12_init 41 = .ok (.aload_n 0, 1) := by decide +kernel
theorem dX12_init_42 : decode cX12_init 42 = .ok (.bipush 80, 2) := by decide +kernel
theorem dX12_init_44 : decode cX12_init 44 = .ok (.newarray .int, 2) := by decide +kernel
theorem dX12_init_46 : decode cX12_init 46 = .ok (.putfield 29, 3) := by decide +kernel
theorem dX12_init_49 : decode cX12_init 49 = .ok (.aload_n 0, 1) := by decide +kernel
theorem dX12_init_50 : decode cX12_init 50 = .ok (.bipush 6, 2) := by decide +kernel
theorem dX12_init_52 : decode cX12_init 52 = .ok (.newarray .long, 2) := by decide +kernel
theorem dX12_init_54 : decode cX12_init 54 = .ok (.putfield 32, 3) := by decide +kernel
theorem dX12_init_57 : decode cX12_init 57 = .ok (.aload_n 0, 1) := by decide +kernel
theorem dX12_init_58 : decode cX12_init 58 = .ok (.bipush 80, 2) := by decide +kernel
theorem dX12_init_60 : decode cX12_init 60 = .ok (.newarray .long, 2) := by decide +kernel
theorem dX12_init_62 : decode cX12_init 62 = .ok (.putfield 36, 3) := by decide +kernel
theorem dX12_init_65 : decode cX12_init 65 = .ok (.aload_n 0, 1) := by decide +kernel
theorem dX12_init_66 : decode cX12_init 66 = .ok (.bipush 40, 2) := by decide +kernel
theorem dX12_init_68 : decode cX12_init 68 = .ok (.newarray .int, 2) := by decide +kernel
theorem dX12_init_70 : decode cX12_init 70 = .ok (.putfield 39, 3) := by decide +kernel
theorem dX12_init_73 : decode cX12_init 73 = .ok (.aload_n 0, 1) := by decide +kernel
theorem dX12_init_74 : decode cX12_init 74 = .ok (.bipush 40, 2) := by decide +kernel
theorem dX12_init_76 : decode cX12_init 76 = .ok (.newarray .int, 2) := by decide +kernel
theorem dX12_init_78 : decode cX12_init 78 = .ok (.putfield 42, 3) := by decide +kernel
theorem dX12_init_81 : decode cX12_init 81 = .ok (.aload_n 0, 1) := by decide +kernel
theorem dX12_init_82 : decode cX12_init 82 = .ok (.bipush 40, 2) := by decide +kernel
theorem dX12_init_84 : decode cX12_init 84 = .ok (.newarray .boolean, 2) := by decide +kernel
theorem dX12_init_86 : decode cX12_init 86 = .ok (.putfield 45, 3) := by decide +kernel
theorem dX12_init_89 : decode cX12_init 89 = .ok (.aload_n 0, 1) := by decide +kernel
theorem dX12_init_90 : decode cX12_init 90 = .ok (.bipush 10, 2) := by decide +kernel
theorem dX12_init_92 : decode cX12_init 92 = .ok (.newarray .int, 2) := by decide +kernel
theorem dX12_init_94 : decode cX12_init 94 = .ok (.putfield 48, 3) := by decide +kernel
theorem dX12_init_97 : decode cX12_init 97 = .ok (.aload_n 0, 1) := by decide +kernel
theorem dX12_init_98 : decode cX12_init 98 = .ok (.bipush 60, 2) := by decide +kernel
theorem dX12_init_100 : decode cX12_init 100 = .ok (.newarray .int, 2) := by decide +kernel
theorem dX12_init_102 : decode cX12_init 102 = .ok (.putfield 51, 3) := by decide +kernel
theorem dX12_init_105 : decode cX12_init 105 = .ok (.aload_n 0, 1) := by decide +kernel
theorem dX12_init_106 : decode cX12_init 106 = .ok (.iconst (-1), 1) := by decide +kernel
theorem dX12_init_107 : decode cX12_init 107 = .ok (.putfield 54, 3) := by decide +kernel
theorem dX12_init_110 : decode cX12_init 110 = .ok (.aload_n 0, 1) := by decide +kernel
theorem dX12_init_111 : decode cX12_init 111 = .ok (.sipush 300, 3) := by decide +kernel
theorem dX12_init_114 : decode cX12_init 114 = .ok (.newarray .byte, 2) := by decide +kernel
theorem dX12_init_116 : decode cX12_init 116 = .ok (.putfield 57, 3) := by decide +kernel
theorem dX12_init_119 : decode cX12_init 119 = .ok (.iconst 0, 1) := by decide +kernel
theorem dX12_init_120 : decode cX12_init 120 = .ok (.istore_n 1, 1) := by decide +kernel
theorem dX12_init_121 : decode cX12_init 121 = .ok (.iload_n 1, 1) := by decide +kernel
theorem dX12_init_122 : decode cX12_init 122 = .ok (.bipush 20, 2) := by decide +kernel
theorem dX12_init_124 : decode cX12_init 124 = .ok (.if_icmp .ge 20, 3) := by decide +kernel
theorem dX12_init_127 : decode cX12_init 127 = .ok (.aload_n 0, 1) := by decide +kernel
theorem dX12_init_128 : decode cX12_init 128 = .ok (.getfield 3, 3) := by decide +kernel
theorem dX12_init_131 : decode cX12_init 131 = .ok (.bipush 10, 2) := by decide +kernel
theorem dX12_init_133 : decode cX12_init 133 = .ok (.iload_n 1, 1) := by decide +kernel
theorem dX12_init_134 : decode cX12_init 134 = .ok (.iadd, 1) := by decide +kernel
theorem dX12_init_135 : decode cX12_init 135 = .ok (.ldc 60, 2) := by decide +kernel
theorem dX12_init_137 : decode cX12_init 137 = .ok (.iastore, 1) := by decide +kernel
theorem dX12_init_138 : decode cX12_init 138 = .ok (.iinc 1 1, 3) := by decide +kernel
theorem dX12_init_141 : decode cX12_init 141 = .ok (.goto (-20), 3) := by decide +kernel
theorem dX12_init_144 : decode cX12_init 144 = .ok (.aload_n 0, 1) := by decide +kernel
theorem dX12_init_145 : decode cX12_init 145 = .ok (.getfield 3, 3) := by decide +kernel
theorem dX12_init_148 : decode cX12_init 148 = .ok (.iconst 2, 1) := by decide +kernel
theorem dX12_init_149 : decode cX12_init 149 = .ok (.sipush 150, 3) := by decide +kernel
theorem dX12_init_152 : decode cX12_init 152 = .ok (.iastore, 1) := by decide +kernel
theorem dX12_init_153 : decode cX12_init 153 = .ok (.aload_n 0, 1) := by decide +kernel
theorem dX12_init_154 : decode cX12_init 154 = .ok (.getfield 3, 3) := by decide +kernel
theorem dX12_init_157 : decode cX12_init 157 = .ok (.iconst 3, 1) := by decide +kernel
theorem dX12_init_158 : decode cX12_init 158 = .ok (.bipush 20, 2) := by decide +kernel
theorem dX12_init_160 : decode cX12_init 160 = .ok (.iastore, 1) := by decide +kernel
theorem dX12_init_161 : decode cX12_init 161 = .ok (.aload_n 0, 1) := by decide +kernel
theorem dX12_init_162 : decode cX12_init 162 = .ok (.getfield 3, 3) := by decide +kernel
theorem dX12_init_165 : decode cX12_init 165 = .ok (.iconst 4, 1) := by decide +kernel
theorem dX12_init_166 : decode cX12_init 166 = .ok (.sipush 200, 3) := by decide +kernel
theorem dX12_init_169 : decode cX12_init 169 = .ok (.iastore, 1) := by decide +kernel
theorem dX12_init_170 : decode cX12_init 170 = .ok (.aload_n 0, 1) := by decide +kernel
theorem dX12_init_171 : decode cX12_init 171 = .ok (.getfield 3, 3) := by decide +kernel
theorem dX12_init_174 : decode cX12_init 174 = .ok (.iconst 5, 1) := by decide +kernel
theorem dX12_init_175 : decode cX12_init 175 = .ok (.bipush 20, 2) := by decide +kernel
theorem dX12_init_177 : decode cX12_init 177 = .ok (.iastore, 1) := by decide +kernel
theorem dX12_init_178 : decode cX12_init 178 = .ok (.aload_n 0, 1) := by decide +kernel
theorem dX12_init_179 : decode cX12_init 179 = .ok (.getfield 3, 3) := by decide +kernel
theorem dX12_init_182 : decode cX12_init 182 = .ok (.bipush 6, 2) := by decide +kernel
theorem dX12_init_184 : decode cX12_init 184 = .ok (.bipush 100, 2) := by decide +kernel
theorem dX12_init_186 : decode cX12_init 186 = .ok (.iastore, 1) := by decide +kernel
theorem dX12_init_187 : decode cX12_init 187 = .ok (.return_, 1) := by decide +kernel
theorem dX12_deedOf_0 : decode cX12_deedOf 0 = .ok (.aload_n 0, 1) := by decide +kernel
theorem dX12_deedOf_1 : decode cX12_deedOf 1 = .ok (.getfield 61, 3) := by decide +kernel
theorem dX12_deedOf_4 : decode cX12_deedOf 4 = .ok (.bipush 8, 2) := by decide +kernel
theorem dX12_deedOf_6 : decode cX12_deedOf 6 = .ok (.if_icmp .ne 39, 3) := by decide +kernel
theorem dX12_deedOf_9 : decode cX12_deedOf 9 = .ok (.iconst 1, 1) := by decide +kernel
theorem dX12_deedOf_10 : decode cX12_deedOf 10 = .ok (.istore_n 2, 1) := by decide +kernel
theorem dX12_deedOf_11 : decode cX12_deedOf 11 = .ok (.iload_n 2, 1) := by decide +kernel
theorem dX12_deedOf_12 : decode cX12_deedOf 12 = .ok (.bipush 8, 2) := by decide +kernel
theorem dX12_deedOf_14 : decode cX12_deedOf 14 = .ok (.if_icmp .ge 21, 3) := by decide +kernel
theorem dX12_deedOf_17 : decode cX12_deedOf 17 = .ok (.aload_n 0, 1) := by decide +kernel
theorem dX12_deedOf_18 : decode cX12_deedOf 18 = .ok (.iconst 3, 1) := by decide +kernel
theorem dX12_deedOf_19 : decode cX12_deedOf 19 = .ok (.iload_n 2, 1) := by decide +kernel
theorem dX12_deedOf_20 : decode cX12_deedOf 20 = .ok (.iadd, 1) := by decide +kernel
theorem dX12_deedOf_21 : decode cX12_deedOf 21 = .ok (.iconst 3, 1) := by decide +kernel
theorem dX12_deedOf_22 : decode cX12_deedOf 22 = .ok (.iload_n 2, 1) := by decide +kernel
theorem dX12_deedOf_23 : decode cX12_deedOf 23 = .ok (.iadd, 1) := by decide +kernel
theorem dX12_deedOf_24 : decode cX12_deedOf 24 = .ok (.iconst 1, 1) := by decide +kernel
theorem dX12_deedOf_25 : decode cX12_deedOf 25 = .ok (.isub, 1) := by decide +kernel
theorem dX12_deedOf_26 : decode cX12_deedOf 26 = .ok (.invokevirtual 64, 3) := by decide +kernel
theorem dX12_deedOf_29 : decode cX12_deedOf 29 = .ok (.iinc 2 1, 3) := by decide +kernel
theorem dX12_deedOf_32 : decode cX12_deedOf 32 = .ok (.goto (-21), 3) := by decide +kernel
theorem dX12_deedOf_35 : decode cX12_deedOf 35 = .ok (.aload_n 0, 1) := by decide +kernel
theorem dX12_deedOf_36 : decode cX12_deedOf 36 = .ok (.dup, 1) := by decide +kernel
theorem dX12_deedOf_37 : decode cX12_deedOf 37 = .ok (.getfield 61, 3) := by decide +kernel
theorem dX12_deedOf_40 : decode cX12_deedOf 40 = .ok (.iconst 1, 1) := by decide +kernel
theorem dX12_deedOf_41 : decode cX12_deedOf 41 = .ok (.isub, 1) := by decide +kernel
theorem dX12_deedOf_42 : decode cX12_deedOf 42 = .ok (.putfield 61, 3) := by decide +kernel
theorem dX12_deedOf_45 : decode cX12_deedOf 45 = .ok (.aload_n 0, 1) := by decide +kernel
theorem dX12_deedOf_46 : decode cX12_deedOf 46 = .ok (.iload_n 1, 1) := by decide +kernel
theorem dX12_deedOf_47 : decode cX12_deedOf 47 = .ok (.iconst 3, 1) := by decide +kernel
theorem dX12_deedOf_48 : decode cX12_deedOf 48 = .ok (.aload_n 0, 1) := by decide +kernel
theorem dX12_deedOf_49 : decode cX12_deedOf 49 = .ok (.getfield 61, 3) := by decide +kernel
theorem dX12_deedOf_52 : decode cX12_deedOf 52 = .ok (.iadd, 1) := by decide +kernel
theorem dX12_deedOf_53 : decode cX12_deedOf 53 = .ok (.invokevirtual 64, 3) := by decide +kernel
theorem dX12_deedOf_56 : decode cX12_deedOf 56 = .ok (.aload_n 0, 1) := by decide +kernel
theorem dX12_deedOf_57 : decode cX12_deedOf 57 = .ok (.dup, 1) := by decide +kernel
theorem dX12_deedOf_58 : decode cX12_deedOf 58 = .ok (.getfield 61, 3) := by decide +kernel
theorem dX12_deedOf_61 : decode cX12_deedOf 61 = .ok (.iconst 1, 1) := by decide +kernel
theorem dX12_deedOf_62 : decode cX12_deedOf 62 = .ok (.iadd, 1) := by decide +kernel
theorem dX12_deedOf_63 : decode cX12_deedOf 63 = .ok (.putfield 61, 3) := by decide +kernel
theorem dX12_deedOf_66 : decode cX12_deedOf 66 = .ok (.return_, 1) := by decide +kernel
theorem dX12_undo_0 : decode cX12_undo 0 = .ok (.aload_n 0, 1) := by decide +kernel
theorem dX12_undo_1 : decode cX12_undo 1 = .ok (.getfield 61, 3) := by decide +kernel
theorem dX12_undo_4 : decode cX12_undo 4 = .ok (.ifCond .ne 5, 3) := by decide +kernel
theorem dX12_undo_7 : decode cX12_undo 7 = .ok (.iconst (-1), 1) := by decide +kernel
theorem dX12_undo_8 : decode cX12_undo 8 = .ok (.ireturn, 1) := by decide +kernel
theorem dX12_undo_9 : decode cX12_undo 9 = .ok (.aload_n 0, 1) := by decide +kernel
theorem dX12_undo_10 : decode cX12_undo 10 = .ok (.dup, 1) := by decide +kernel
theorem dX12_undo_11 : decode cX12_undo 11 = .ok (.getfield 61, 3) := by decide +kernel
theorem dX12_undo_14 : decode cX12_undo 14 = .ok (.iconst 1, 1) := by decide +kernel
theorem dX12_undo_15 : decode cX12_undo 15 = .ok (.isub, 1) := by decide +kernel
theorem dX12_undo_16 : decode cX12_undo 16 = .ok (.putfield 61, 3) := by decide +kernel
theorem dX12_undo_19 : decode cX12_undo 19 = .ok (.aload_n 0, 1) := by decide +kernel
theorem dX12_undo_20 : decode cX12_undo 20 = .ok (.iconst 3, 1) := by decide +kernel
theorem dX12_undo_21 : decode cX12_undo 21 = .ok (.aload_n 0, 1) := by decide +kernel
theorem dX12_undo_22 : decode cX12_undo 22 = .ok (.getfield 61, 3) := by decide +kernel
theorem dX12_undo_25 : decode cX12_undo 25 = .ok (.iadd, 1) := by decide +kernel
theorem dX12_undo_26 : decode cX12_undo 26 = .ok (.iconst 0, 1) := by decide +kernel
theorem dX12_undo_27 : decode cX12_undo 27 = .ok (.invokevirtual 64, 3) := by decide +kernel
theorem dX12_undo_30 : decode cX12_undo 30 = .ok (.aload_n 0, 1) := by decide +kernel
theorem dX12_undo_31 : decode cX12_undo 31 = .ok (.getfield 61, 3) := by decide +kernel
theorem dX12_undo_34 : decode cX12_undo 34 = .ok (.ireturn, 1) := by decide +kernel
theorem dX12_keep_0 : decode cX12_keep 0 = .ok (.iload_n 1, 1) := by decide +kernel
theorem dX12_keep_1 : decode cX12_keep 1 = .ok (.i2l, 1) := by decide +kernel
theorem dX12_keep_2 : decode cX12_keep 2 = .ok (.lconst 0, 1) := by decide +kernel
theorem dX12_keep_3 : decode cX12_keep 3 = .ok (.lconst 1, 1) := by decide +kernel
theorem dX12_keep_4 : decode cX12_keep 4 = .ok (.invokestatic 68, 3) := by decide +kernel
theorem dX12_keep_7 : decode cX12_keep 7 = .ok (.ifCond .ne 5, 3) := by decide +kernel
theorem dX12_keep_10 : decode cX12_keep 10 = .ok (.iconst 0, 1) := by decide +kernel
theorem dX12_keep_11 : decode cX12_keep 11 = .ok (.ireturn, 1) := by decide +kernel
theorem dX12_keep_12 : decode cX12_keep 12 = .ok (.aload_n 0, 1) := by decide +kernel
theorem dX12_keep_13 : decode cX12_keep 13 = .ok (.iconst 0, 1) := by decide +kernel
theorem dX12_keep_14 : decode cX12_keep 14 = .ok (.iconst 1, 1) := by decide +kernel
theorem dX12_keep_15 : decode cX12_keep 15 = .ok (.iload_n 1, 1) := by decide +kernel
theorem dX12_keep_16 : decode cX12_keep 16 = .ok (.iadd, 1) := by decide +kernel
theorem dX12_keep_17 : decode cX12_keep 17 = .ok (.invokevirtual 64, 3) := by decide +kernel
theorem dX12_keep_20 : decode cX12_keep 20 = .ok (.aload_n 0, 1) := by decide +kernel
theorem dX12_keep_21 : decode cX12_keep 21 = .ok (.getfield 14, 3) := by decide +kernel
theorem dX12_keep_24 : decode cX12_keep 24 = .ok (.iload_n 1, 1) := by decide +kernel
theorem dX12_keep_25 : decode cX12_keep 25 = .ok (.iconst 1, 1) := by decide +kernel
theorem dX12_keep_26 : decode cX12_keep 26 = .ok (.bastore, 1) := by decide +kernel
theorem dX12_keep_27 : decode cX12_keep 27 = .ok (.iconst 1, 1) := by decide +kernel
theorem dX12_keep_28 : decode cX12_keep 28 = .ok (.ireturn, 1) := by decide +kernel
theorem dX12_restore_0 : decode cX12_restore 0 = .ok (.iload_n 1, 1) := by decide +kernel
theorem dX12_restore_1 : decode cX12_restore 1 = .ok (.i2l, 1) := by decide +kernel
theorem dX12_restore_2 : decode cX12_restore 2 = .ok (.lconst 0, 1) := by decide +kernel
theorem dX12_restore_3 : decode cX12_restore 3 = .ok (.lconst 1, 1) := by decide +kernel
theorem dX12_restore_4 : decode cX12_restore 4 = .ok (.invokestatic 68, 3) := by decide +kernel
theorem dX12_restore_7 : decode cX12_restore 7 = .ok (.ifCond .eq 12, 3) := by decide +kernel
theorem dX12_restore_10 : decode cX12_restore 10 = .ok (.aload_n 0, 1) := by decide +kernel
theorem dX12_restore_11 : decode cX12_restore 11 = .ok (.getfield 14, 3) := by decide +kernel
theorem dX12_restore_14 : decode cX12_restore 14 = .ok (.iload_n 1, 1) := by decide +kernel
theorem dX12_restore_15 : decode cX12_restore 15 = .ok (.baload, 1) := by decide +kernel
theorem dX12_restore_16 : decode cX12_restore 16 = .ok (.ifCond .ne 5, 3) := by decide +kernel
theorem dX12_restore_19 : decode cX12_restore 19 = .ok (.iconst 0, 1) := by decide +kernel
theorem dX12_restore_20 : decode cX12_restore 20 = .ok (.ireturn, 1) := by decide +kernel
theorem dX12_restore_21 : decode cX12_restore 21 = .ok (.aload_n 0, 1) := by decide +kernel
theorem dX12_restore_22 : decode cX12_restore 22 = .ok (.iconst 0, 1) := by decide +kernel
theorem dX12_restore_23 : decode cX12_restore 23 = .ok (.invokevirtual 72, 3) := by decide +kernel
theorem dX12_restore_26 : decode cX12_restore 26 = .ok (.aload_n 0, 1) := by decide +kernel
theorem dX12_restore_27 : decode cX12_restore 27 = .ok (.iconst 1, 1) := by decide +kernel
theorem dX12_restore_28 : decode cX12_restore 28 = .ok (.iload_n 1, 1) := by decide +kernel
theorem dX12_restore_29 : decode cX12_restore 29 = .ok (.iadd, 1) := by decide +kernel
theorem dX12_restore_30 : decode cX12_restore 30 = .ok (.iconst 0, 1) := by decide +kernel
theorem dX12_restore_31 : decode cX12_restore 31 = .ok (.invokevirtual 64, 3) := by decide +kernel
theorem dX12_restore_34 : decode cX12_restore 34 = .ok (.iconst 1, 1) := by decide +kernel
theorem dX12_restore_35 : decode cX12_restore 35 = .ok (.ireturn, 1) := by decide +kernel
theorem dX12_four_0 : decode cX12_four 0 = .ok (.bipush 24, 2) := by decide +kernel
theorem dX12_four_2 : decode cX12_four 2 = .ok (.istore_n 2, 1) := by decide +kernel
theorem dX12_four_3 : decode cX12_four 3 = .ok (.iload_n 2, 1) := by decide +kernel
theorem dX12_four_4 : decode cX12_four 4 = .ok (.ifCond .lt 32, 3) := by decide +kernel
theorem dX12_four_7 : decode cX12_four 7 = .ok (.aload_n 0, 1) := by decide +kernel
theorem dX12_four_8 : decode cX12_four 8 = .ok (.getfield 18, 3) := by decide +kernel
theorem dX12_four_11 : decode cX12_four 11 = .ok (.aload_n 0, 1) := by decide +kernel
theorem dX12_four_12 : decode cX12_four 12 = .ok (.getfield 76, 3) := by decide +kernel
theorem dX12_four_15 : decode cX12_four 15 = .ok (.iload_n 1, 1) := by decide +kernel
theorem dX12_four_16 : decode cX12_four 16 = .ok (.iload_n 2, 1) := by decide +kernel
theorem dX12_four_17 : decode cX12_four 17 = .ok (.ishr, 1) := by decide +kernel
theorem dX12_four_18 : decode cX12_four 18 = .ok (.i2b, 1) := by decide +kernel
theorem dX12_four_19 : decode cX12_four 19 = .ok (.bastore, 1) := by decide +kernel
theorem dX12_four_20 : decode cX12_four 20 = .ok (.aload_n 0, 1) := by decide +kernel
theorem dX12_four_21 : decode cX12_four 21 = .ok (.dup, 1) := by decide +kernel
theorem dX12_four_22 : decode cX12_four 22 = .ok (.getfield 76, 3) := by decide +kernel
theorem dX12_four_25 : decode cX12_four 25 = .ok (.iconst 1, 1) := by decide +kernel
theorem dX12_four_26 : decode cX12_four 26 = .ok (.iadd, 1) := by decide +kernel
theorem dX12_four_27 : decode cX12_four 27 = .ok (.putfield 76, 3) := by decide +kernel
theorem dX12_four_30 : decode cX12_four 30 = .ok (.iinc 2 (-8), 3) := by decide +kernel
theorem dX12_four_33 : decode cX12_four 33 = .ok (.goto (-30), 3) := by decide +kernel
theorem dX12_four_36 : decode cX12_four 36 = .ok (.return_, 1) := by decide +kernel
theorem dX12_feed_0 : decode cX12_feed 0 = .ok (.aload_n 0, 1) := by decide +kernel
theorem dX12_feed_1 : decode cX12_feed 1 = .ok (.getfield 76, 3) := by decide +kernel
theorem dX12_feed_4 : decode cX12_feed 4 = .ok (.bipush 20, 2) := by decide +kernel
theorem dX12_feed_6 : decode cX12_feed 6 = .ok (.iadd, 1) := by decide +kernel
theorem dX12_feed_7 : decode cX12_feed 7 = .ok (.sipush 500, 3) := by decide +kernel
theorem dX12_feed_10 : decode cX12_feed 10 = .ok (.if_icmp .le 5, 3) := by decide +kernel
theorem dX12_feed_13 : decode cX12_feed 13 = .ok (.iconst (-1), 1) := by decide +kernel
theorem dX12_feed_14 : decode cX12_feed 14 = .ok (.ireturn, 1) := by decide +kernel
theorem dX12_feed_15 : decode cX12_feed 15 = .ok (.aload_n 0, 1) := by decide +kernel
theorem dX12_feed_16 : decode cX12_feed 16 = .ok (.iload_n 1, 1) := by decide +kernel
theorem dX12_feed_17 : decode cX12_feed 17 = .ok (.invokevirtual 79, 3) := by decide +kernel
theorem dX12_feed_20 : decode cX12_feed 20 = .ok (.aload_n 0, 1) := by decide +kernel
theorem dX12_feed_21 : decode cX12_feed 21 = .ok (.iload_n 2, 1) := by decide +kernel
theorem dX12_feed_22 : decode cX12_feed 22 = .ok (.invokevirtual 79, 3) := by decide +kernel
theorem dX12_feed_25 : decode cX12_feed 25 = .ok (.aload_n 0, 1) := by decide +kernel
theorem dX12_feed_26 : decode cX12_feed 26 = .ok (.iload_n 3, 1) := by decide +kernel
theorem dX12_feed_27 : decode cX12_feed 27 = .ok (.invokevirtual 79, 3) := by decide +kernel
theorem dX12_feed_30 : decode cX12_feed 30 = .ok (.aload_n 0, 1) := by decide +kernel
theorem dX12_feed_31 : decode cX12_feed 31 = .ok (.iload 4, 2) := by decide +kernel
theorem dX12_feed_33 : decode cX12_feed 33 = .ok (.invokevirtual 79, 3) := by decide +kernel
theorem dX12_feed_36 : decode cX12_feed 36 = .ok (.aload_n 0, 1) := by decide +kernel
theorem dX12_feed_37 : decode cX12_feed 37 = .ok (.iload 5, 2) := by decide +kernel
theorem dX12_feed_39 : decode cX12_feed 39 = .ok (.invokevirtual 79, 3) := by decide +kernel
theorem dX12_feed_42 : decode cX12_feed 42 = .ok (.aload_n 0, 1) := by decide +kernel
theorem dX12_feed_43 : decode cX12_feed 43 = .ok (.getfield 76, 3) := by decide +kernel
theorem dX12_feed_46 : decode cX12_feed 46 = .ok (.ireturn, 1) := by decide +kernel
theorem dX12_end_0 : decode cX12_end 0 = .ok (.iload_n 1, 1) := by decide +kernel
theorem dX12_end_1 : decode cX12_end 1 = .ok (.i2l, 1) := by decide +kernel
theorem dX12_end_2 : decode cX12_end 2 = .ok (.lconst 0, 1) := by decide +kernel
theorem dX12_end_3 : decode cX12_end 3 = .ok (.aload_n 0, 1) := by decide +kernel
theorem dX12_end_4 : decode cX12_end 4 = .ok (.getfield 76, 3) := by decide +kernel
theorem dX12_end_7 : decode cX12_end 7 = .ok (.i2l, 1) := by decide +kernel
theorem dX12_end_8 : decode cX12_end 8 = .ok (.invokestatic 68, 3) := by decide +kernel
theorem dX12_end_11 : decode cX12_end 11 = .ok (.ifCond .ne 5, 3) := by decide +kernel
theorem dX12_end_14 : decode cX12_end 14 = .ok (.iconst (-1), 1) := by decide +kernel
theorem dX12_end_15 : decode cX12_end 15 = .ok (.ireturn, 1) := by decide +kernel
theorem dX12_end_16 : decode cX12_end 16 = .ok (.aload_n 0, 1) := by decide +kernel
theorem dX12_end_17 : decode cX12_end 17 = .ok (.iload_n 1, 1) := by decide +kernel
theorem dX12_end_18 : decode cX12_end 18 = .ok (.putfield 76, 3) := by decide +kernel
theorem dX12_end_21 : decode cX12_end 21 = .ok (.iload_n 1, 1) := by decide +kernel
theorem dX12_end_22 : decode cX12_end 22 = .ok (.ireturn, 1) := by decide +kernel
theorem dX12_fault_0 : decode cX12_fault 0 = .ok (.aload_n 0, 1) := by decide +kernel
theorem dX12_fault_1 : decode cX12_fault 1 = .ok (.getfield 22, 3) := by decide +kernel
theorem dX12_fault_4 : decode cX12_fault 4 = .ok (.ireturn, 1) := by decide +kernel
theorem dX12_here_0 : decode cX12_here 0 = .ok (.aload_n 0, 1) := by decide +kernel
theorem dX12_here_1 : decode cX12_here 1 = .ok (.getfield 82, 3) := by decide +kernel
theorem dX12_here_4 : decode cX12_here 4 = .ok (.aload_n 0, 1) := by decide +kernel
theorem dX12_here_5 : decode cX12_here 5 = .ok (.getfield 76, 3) := by decide +kernel
theorem dX12_here_8 : decode cX12_here 8 = .ok (.if_icmp .ge 19, 3) := by decide +kernel
theorem dX12_here_11 : decode cX12_here 11 = .ok (.aload_n 0, 1) := by decide +kernel
theorem dX12_here_12 : decode cX12_here 12 = .ok (.getfield 18, 3) := by decide +kernel
theorem dX12_here_15 : decode cX12_here 15 = .ok (.aload_n 0, 1) := by decide +kernel
theorem dX12_here_16 : decode cX12_here 16 = .ok (.getfield 82, 3) := by decide +kernel
theorem dX12_here_19 : decode cX12_here 19 = .ok (.baload, 1) := by decide +kernel
theorem dX12_here_20 : decode cX12_here 20 = .ok (.sipush 255, 3) := by decide +kernel
theorem dX12_here_23 : decode cX12_here 23 = .ok (.iand, 1) := by decide +kernel
theorem dX12_here_24 : decode cX12_here 24 = .ok (.goto 4, 3) := by decide +kernel
theorem dX12_here_27 : decode cX12_here 27 = .ok (.iconst (-1), 1) := by decide +kernel
theorem dX12_here_28 : decode cX12_here 28 = .ok (.ireturn, 1) := by decide +kernel
theorem dX12_isFigure_0 : decode cX12_isFigure 0 = .ok (.iload_n 0, 1) := by decide +kernel
theorem dX12_isFigure_1 : decode cX12_isFigure 1 = .ok (.bipush 48, 2) := by decide +kernel
theorem dX12_isFigure_3 : decode cX12_isFigure 3 = .ok (.if_icmp .lt 13, 3) := by decide +kernel
theorem dX12_isFigure_6 : decode cX12_isFigure 6 = .ok (.iload_n 0, 1) := by decide +kernel
theorem dX12_isFigure_7 : decode cX12_isFigure 7 = .ok (.bipush 57, 2) := by decide +kernel
theorem dX12_isFigure_9 : decode cX12_isFigure 9 = .ok (.if_icmp .gt 7, 3) := by decide +kernel
theorem dX12_isFigure_12 : decode cX12_isFigure 12 = .ok (.iconst 1, 1) := by decide +kernel
theorem dX12_isFigure_13 : decode cX12_isFigure 13 = .ok (.goto 4, 3) := by decide +kernel
theorem dX12_isFigure_16 : decode cX12_isFigure 16 = .ok (.iconst 0, 1) := by decide +kernel
theorem dX12_isFigure_17 : decode cX12_isFigure 17 = .ok (.ireturn, 1) := by decide +kernel
theorem dX12_fails_0 : decode cX12_fails 0 = .ok (.aload_n 0, 1) := by decide +kernel
theorem dX12_fails_1 : decode cX12_fails 1 = .ok (.iload_n 1, 1) := by decide +kernel
theorem dX12_fails_2 : decode cX12_fails 2 = .ok (.putfield 22, 3) := by decide +kernel
theorem dX12_fails_5 : decode cX12_fails 5 = .ok (.iconst 0, 1) := by decide +kernel
theorem dX12_fails_6 : decode cX12_fails 6 = .ok (.ireturn, 1) := by decide +kernel
theorem dX12_takes_0 : decode cX12_takes 0 = .ok (.aload_n 0, 1) := by decide +kernel
theorem dX12_takes_1 : decode cX12_takes 1 = .ok (.invokevirtual 85, 3) := by decide +kernel
theorem dX12_takes_4 : decode cX12_takes 4 = .ok (.iload_n 1, 1) := by decide +kernel
theorem dX12_takes_5 : decode cX12_takes 5 = .ok (.if_icmp .eq 12, 3) := by decide +kernel
theorem dX12_takes_8 : decode cX12_takes 8 = .ok (.aload_n 0, 1) := by decide +kernel
theorem dX12_takes_9 : decode cX12_takes 9 = .ok (.aload_n 0, 1) := by decide +kernel
theorem dX12_takes_10 : decode cX12_takes 10 = .ok (.getfield 82, 3) := by decide +kernel
theorem dX12_takes_13 : decode cX12_takes 13 = .ok (.invokevirtual 89, 3) := by decide +kernel
theorem dX12_takes_16 : decode cX12_takes 16 = .ok (.ireturn, 1) := by decide +kernel
theorem dX12_takes_17 : decode cX12_takes 17 = .ok (.aload_n 0, 1) := by decide +kernel
theorem dX12_takes_18 : decode cX12_takes 18 = .ok (.dup, 1) := by decide +kernel
theorem dX12_takes_19 : decode cX12_takes 19 = .ok (.getfield 82, 3) := by decide +kernel
theorem dX12_takes_22 : decode cX12_takes 22 = .ok (.iconst 1, 1) := by decide +kernel
theorem dX12_takes_23 : decode cX12_takes 23 = .ok (.iadd, 1) := by decide +kernel
theorem dX12_takes_24 : decode cX12_takes 24 = .ok (.putfield 82, 3) := by decide +kernel
theorem dX12_takes_27 : decode cX12_takes 27 = .ok (.iconst 1, 1) := by decide +kernel
theorem dX12_takes_28 : decode cX12_takes 28 = .ok (.ireturn, 1) := by decide +kernel
theorem dX12_readNumber_0 : decode cX12_readNumber 0 = .ok (.aload_n 0, 1) := by decide +kernel
theorem dX12_readNumber_1 : decode cX12_readNumber 1 = .ok (.getfield 82, 3) := by decide +kernel
theorem dX12_readNumber_4 : decode cX12_readNumber 4 = .ok (.istore_n 3, 1) := by decide +kernel
theorem dX12_readNumber_5 : decode cX12_readNumber 5 = .ok (.aload_n 0, 1) := by decide +kernel
theorem dX12_readNumber_6 : decode cX12_readNumber 6 = .ok (.iconst 0, 1) := by decide +kernel
theorem dX12_readNumber_7 : decode cX12_readNumber 7 = .ok (.putfield 93, 3) := by decide +kernel
theorem dX12_readNumber_10 : decode cX12_readNumber 10 = .ok (.aload_n 0, 1) := by decide +kernel
theorem dX12_readNumber_11 : decode cX12_readNumber 11 = .ok (.invokevirtual 85, 3) := by decide +kernel
theorem dX12_readNumber_14 : decode cX12_readNumber 14 = .ok (.invokestatic 96, 3) := by decide +kernel
theorem dX12_readNumber_17 : decode cX12_readNumber 17 = .ok (.ifCond .eq 46, 3) := by decide +kernel
theorem dX12_readNumber_20 : decode cX12_readNumber 20 = .ok (.aload_n 0, 1) := by decide +kernel
theorem dX12_readNumber_21 : decode cX12_readNumber 21 = .ok (.getfield 82, 3) := by decide +kernel
theorem dX12_readNumber_24 : decode cX12_readNumber 24 = .ok (.iload_n 3, 1) := by decide +kernel
theorem dX12_readNumber_25 : decode cX12_readNumber 25 = .ok (.isub, 1) := by decide +kernel
theorem dX12_readNumber_26 : decode cX12_readNumber 26 = .ok (.bipush 6, 2) := by decide +kernel
theorem dX12_readNumber_28 : decode cX12_readNumber 28 = .ok (.if_icmp .ge 35, 3) := by decide +kernel
theorem dX12_readNumber_31 : decode cX12_readNumber 31 = .ok (.aload_n 0, 1) := by decide +kernel
theorem dX12_readNumber_32 : decode cX12_readNumber 32 = .ok (.bipush 10, 2) := by decide +kernel
theorem dX12_readNumber_34 : decode cX12_readNumber 34 = .ok (.aload_n 0, 1) := by decide +kernel
theorem dX12_readNumber_35 : decode cX12_readNumber 35 = .ok (.getfield 93, 3) := by decide +kernel
theorem dX12_readNumber_38 : decode cX12_readNumber 38 = .ok (.imul, 1) := by decide +kernel
theorem dX12_readNumber_39 : decode cX12_readNumber 39 = .ok (.aload_n 0, 1) := by decide +kernel
theorem dX12_readNumber_40 : decode cX12_readNumber 40 = .ok (.invokevirtual 85, 3) := by decide +kernel
theorem dX12_readNumber_43 : decode cX12_readNumber 43 = .ok (.iadd, 1) := by decide +kernel
theorem dX12_readNumber_44 : decode cX12_readNumber 44 = .ok (.bipush 48, 2) := by decide +kernel
theorem dX12_readNumber_46 : decode cX12_readNumber 46 = .ok (.isub, 1) := by decide +kernel
theorem dX12_readNumber_47 : decode cX12_readNumber 47 = .ok (.putfield 93, 3) := by decide +kernel
theorem dX12_readNumber_50 : decode cX12_readNumber 50 = .ok (.aload_n 0, 1) := by decide +kernel
theorem dX12_readNumber_51 : decode cX12_readNumber 51 = .ok (.dup, 1) := by decide +kernel
theorem dX12_readNumber_52 : decode cX12_readNumber 52 = .ok (.getfield 82, 3) := by decide +kernel
theorem dX12_readNumber_55 : decode cX12_readNumber 55 = .ok (.iconst 1, 1) := by decide +kernel
theorem dX12_readNumber_56 : decode cX12_readNumber 56 = .ok (.iadd, 1) := by decide +kernel
theorem dX12_readNumber_57 : decode cX12_readNumber 57 = .ok (.putfield 82, 3) := by decide +kernel
theorem dX12_readNumber_60 : decode cX12_readNumber 60 = .ok (.goto (-50), 3) := by decide +kernel
theorem dX12_readNumber_63 : decode cX12_readNumber 63 = .ok (.aload_n 0, 1) := by decide +kernel
theorem dX12_readNumber_64 : decode cX12_readNumber 64 = .ok (.getfield 82, 3) := by decide +kernel
theorem dX12_readNumber_67 : decode cX12_readNumber 67 = .ok (.iload_n 3, 1) := by decide +kernel
theorem dX12_readNumber_68 : decode cX12_readNumber 68 = .ok (.if_icmp .eq 13, 3) := by decide +kernel
theorem dX12_readNumber_71 : decode cX12_readNumber 71 = .ok (.aload_n 0, 1) := by decide +kernel
theorem dX12_readNumber_72 : decode cX12_readNumber 72 = .ok (.invokevirtual 85, 3) := by decide +kernel
theorem dX12_readNumber_75 : decode cX12_readNumber 75 = .ok (.invokestatic 96, 3) := by decide +kernel
theorem dX12_readNumber_78 : decode cX12_readNumber 78 = .ok (.ifCond .eq 12, 3) := by decide +kernel
theorem dX12_readNumber_81 : decode cX12_readNumber 81 = .ok (.aload_n 0, 1) := by decide +kernel
theorem dX12_readNumber_82 : decode cX12_readNumber 82 = .ok (.aload_n 0, 1) := by decide +kernel
theorem dX12_readNumber_83 : decode cX12_readNumber 83 = .ok (.getfield 82, 3) := by decide +kernel
theorem dX12_readNumber_86 : decode cX12_readNumber 86 = .ok (.invokevirtual 89, 3) := by decide +kernel
theorem dX12_readNumber_89 : decode cX12_readNumber 89 = .ok (.ireturn, 1) := by decide +kernel
theorem dX12_readNumber_90 : decode cX12_readNumber 90 = .ok (.aload_n 0, 1) := by decide +kernel
theorem dX12_readNumber_91 : decode cX12_readNumber 91 = .ok (.getfield 93, 3) := by decide +kernel
theorem dX12_readNumber_94 : decode cX12_readNumber 94 = .ok (.i2l, 1) := by decide +kernel
theorem dX12_readNumber_95 : decode cX12_readNumber 95 = .ok (.iload_n 1, 1) := by decide +kernel
theorem dX12_readNumber_96 : decode cX12_readNumber 96 = .ok (.i2l, 1) := by decide +kernel
theorem dX12_readNumber_97 : decode cX12_readNumber 97 = .ok (.iload_n 2, 1) := by decide +kernel
theorem dX12_readNumber_98 : decode cX12_readNumber 98 = .ok (.i2l, 1) := by decide +kernel
theorem dX12_readNumber_99 : decode cX12_readNumber 99 = .ok (.invokestatic 68, 3) := by decide +kernel
theorem dX12_readNumber_102 : decode cX12_readNumber 102 = .ok (.ifCond .ne 11, 3) := by decide +kernel
theorem dX12_readNumber_105 : decode cX12_readNumber 105 = .ok (.aload_n 0, 1) := by decide +kernel
theorem dX12_readNumber_106 : decode cX12_readNumber 106 = .ok (.iload_n 3, 1) := by decide +kernel
theorem dX12_readNumber_107 : decode cX12_readNumber 107 = .ok (.invokevirtual 89, 3) := by decide +kernel
theorem dX12_readNumber_110 : decode cX12_readNumber 110 = .ok (.ifCond .eq 7, 3) := by decide +kernel
theorem dX12_readNumber_113 : decode cX12_readNumber 113 = .ok (.iconst 1, 1) := by decide +kernel
theorem dX12_readNumber_114 : decode cX12_readNumber 114 = .ok (.goto 4, 3) := by decide +kernel
theorem dX12_readNumber_117 : decode cX12_readNumber 117 = .ok (.iconst 0, 1) := by decide +kernel
theorem dX12_readNumber_118 : decode cX12_readNumber 118 = .ok (.ireturn, 1) := by decide +kernel
theorem dX12_reads_0 : decode cX12_reads 0 = .ok (.aload_n 0, 1) := by decide +kernel
theorem dX12_reads_1 : decode cX12_reads 1 = .ok (.iload_n 2, 1) := by decide +kernel
theorem dX12_reads_2 : decode cX12_reads 2 = .ok (.iload_n 3, 1) := by decide +kernel
theorem dX12_reads_3 : decode cX12_reads 3 = .ok (.invokevirtual 99, 3) := by decide +kernel
theorem dX12_reads_6 : decode cX12_reads 6 = .ok (.ifCond .ne 5, 3) := by decide +kernel
theorem dX12_reads_9 : decode cX12_reads 9 = .ok (.iconst 0, 1) := by decide +kernel
theorem dX12_reads_10 : decode cX12_reads 10 = .ok (.ireturn, 1) := by decide +kernel
theorem dX12_reads_11 : decode cX12_reads 11 = .ok (.aload_n 0, 1) := by decide +kernel
theorem dX12_reads_12 : decode cX12_reads 12 = .ok (.getfield 3, 3) := by decide +kernel
theorem dX12_reads_15 : decode cX12_reads 15 = .ok (.iload_n 1, 1) := by decide +kernel
theorem dX12_reads_16 : decode cX12_reads 16 = .ok (.aload_n 0, 1) := by decide +kernel
theorem dX12_reads_17 : decode cX12_reads 17 = .ok (.getfield 93, 3) := by decide +kernel
theorem dX12_reads_20 : decode cX12_reads 20 = .ok (.iastore, 1) := by decide +kernel
theorem dX12_reads_21 : decode cX12_reads 21 = .ok (.iconst 1, 1) := by decide +kernel
theorem dX12_reads_22 : decode cX12_reads 22 = .ok (.ireturn, 1) := by decide +kernel
theorem dX12_readLimit_0 : decode cX12_readLimit 0 = .ok (.aload_n 0, 1) := by decide +kernel
theorem dX12_readLimit_1 : decode cX12_readLimit 1 = .ok (.iconst 0, 1) := by decide +kernel
theorem dX12_readLimit_2 : decode cX12_readLimit 2 = .ok (.bipush 19, 2) := by decide +kernel
theorem dX12_readLimit_4 : decode cX12_readLimit 4 = .ok (.invokevirtual 99, 3) := by decide +kernel
theorem dX12_readLimit_7 : decode cX12_readLimit 7 = .ok (.ifCond .ne 5, 3) := by decide +kernel
theorem dX12_readLimit_10 : decode cX12_readLimit 10 = .ok (.iconst 0, 1) := by decide +kernel
theorem dX12_readLimit_11 : decode cX12_readLimit 11 = .ok (.ireturn, 1) := by decide +kernel
theorem dX12_readLimit_12 : decode cX12_readLimit 12 = .ok (.bipush 10, 2) := by decide +kernel
theorem dX12_readLimit_14 : decode cX12_readLimit 14 = .ok (.aload_n 0, 1) := by decide +kernel
theorem dX12_readLimit_15 : decode cX12_readLimit 15 = .ok (.getfield 93, 3) := by decide +kernel
theorem dX12_readLimit_18 : decode cX12_readLimit 18 = .ok (.iadd, 1) := by decide +kernel
theorem dX12_readLimit_19 : decode cX12_readLimit 19 = .ok (.istore_n 1, 1) := by decide +kernel
theorem dX12_readLimit_20 : decode cX12_readLimit 20 = .ok (.aload_n 0, 1) := by decide +kernel
theorem dX12_readLimit_21 : decode cX12_readLimit 21 = .ok (.bipush 44, 2) := by decide +kernel
theorem dX12_readLimit_23 : decode cX12_readLimit 23 = .ok (.invokevirtual 103, 3) := by decide +kernel
theorem dX12_readLimit_26 : decode cX12_readLimit 26 = .ok (.ifCond .eq 18, 3) := by decide +kernel
theorem dX12_readLimit_29 : decode cX12_readLimit 29 = .ok (.aload_n 0, 1) := by decide +kernel
theorem dX12_readLimit_30 : decode cX12_readLimit 30 = .ok (.iload_n 1, 1) := by decide +kernel
theorem dX12_readLimit_31 : decode cX12_readLimit 31 = .ok (.iconst 0, 1) := by decide +kernel
theorem dX12_readLimit_32 : decode cX12_readLimit 32 = .ok (.ldc 106, 2) := by decide +kernel
theorem dX12_readLimit_34 : decode cX12_readLimit 34 = .ok (.invokevirtual 107, 3) := by decide +kernel
theorem dX12_readLimit_37 : decode cX12_readLimit 37 = .ok (.ifCond .eq 7, 3) := by decide +kernel
theorem dX12_readLimit_40 : decode cX12_readLimit 40 = .ok (.iconst 1, 1) := by decide +kernel
theorem dX12_readLimit_41 : decode cX12_readLimit 41 = .ok (.goto 4, 3) := by decide +kernel
theorem dX12_readLimit_44 : decode cX12_readLimit 44 = .ok (.iconst 0, 1) := by decide +kernel
theorem dX12_readLimit_45 : decode cX12_readLimit 45 = .ok (.ireturn, 1) := by decide +kernel
theorem dX12_placeOf_0 : decode cX12_placeOf 0 = .ok (.sipush 130, 3) := by decide +kernel
theorem dX12_placeOf_3 : decode cX12_placeOf 3 = .ok (.bipush 86, 2) := by decide +kernel
theorem dX12_placeOf_5 : decode cX12_placeOf 5 = .ok (.iload_n 0, 1) := by decide +kernel
theorem dX12_placeOf_6 : decode cX12_placeOf 6 = .ok (.imul, 1) := by decide +kernel
theorem dX12_placeOf_7 : decode cX12_placeOf 7 = .ok (.iadd, 1) := by decide +kernel
theorem dX12_placeOf_8 : decode cX12_placeOf 8 = .ok (.iload_n 1, 1) := by decide +kernel
theorem dX12_placeOf_9 : decode cX12_placeOf 9 = .ok (.iadd, 1) := by decide +kernel
theorem dX12_placeOf_10 : decode cX12_placeOf 10 = .ok (.ireturn, 1) := by decide +kernel
theorem dX12_of_0 : decode cX12_of 0 = .ok (.aload_n 0, 1) := by decide +kernel
theorem dX12_of_1 : decode cX12_of 1 = .ok (.getfield 3, 3) := by decide +kernel
theorem dX12_of_4 : decode cX12_of 4 = .ok (.iload_n 1, 1) := by decide +kernel
theorem dX12_of_5 : decode cX12_of 5 = .ok (.iload_n 2, 1) := by decide +kernel
theorem dX12_of_6 : decode cX12_of 6 = .ok (.invokestatic 111, 3) := by decide +kernel
theorem dX12_of_9 : decode cX12_of 9 = .ok (.iaload, 1) := by decide +kernel
theorem dX12_of_10 : decode cX12_of 10 = .ok (.ireturn, 1) := by decide +kernel
theorem dX12_lesser_0 : decode cX12_lesser 0 = .ok (.iload_n 0, 1) := by decide +kernel
theorem dX12_lesser_1 : decode cX12_lesser 1 = .ok (.iload_n 1, 1) := by decide +kernel
theorem dX12_lesser_2 : decode cX12_lesser 2 = .ok (.if_icmp .ge 7, 3) := by decide +kernel
theorem dX12_lesser_5 : decode cX12_lesser 5 = .ok (.iload_n 0, 1) := by decide +kernel
theorem dX12_lesser_6 : decode cX12_lesser 6 = .ok (.goto 4, 3) := by decide +kernel
theorem dX12_lesser_9 : decode cX12_lesser 9 = .ok (.iload_n 1, 1) := by decide +kernel
theorem dX12_lesser_10 : decode cX12_lesser 10 = .ok (.ireturn, 1) := by decide +kernel
theorem dX12_greater_0 : decode cX12_greater 0 = .ok (.iload_n 0, 1) := by decide +kernel
theorem dX12_greater_1 : decode cX12_greater 1 = .ok (.iload_n 1, 1) := by decide +kernel
theorem dX12_greater_2 : decode cX12_greater 2 = .ok (.if_icmp .le 7, 3) := by decide +kernel
theorem dX12_greater_5 : decode cX12_greater 5 = .ok (.iload_n 0, 1) := by decide +kernel
theorem dX12_greater_6 : decode cX12_greater 6 = .ok (.goto 4, 3) := by decide +kernel
theorem dX12_greater_9 : decode cX12_greater 9 = .ok (.iload_n 1, 1) := by decide +kernel
theorem dX12_greater_10 : decode cX12_greater 10 = .ok (.ireturn, 1) := by decide +kernel
theorem dX12_lastOf_0 : decode cX12_lastOf 0 = .ok (.aload_n 0, 1) := by decide +kernel
theorem dX12_lastOf_1 : decode cX12_lastOf 1 = .ok (.iload_n 1, 1) := by decide +kernel
theorem dX12_lastOf_2 : decode cX12_lastOf 2 = .ok (.iconst 0, 1) := by decide +kernel
theorem dX12_lastOf_3 : decode cX12_lastOf 3 = .ok (.invokevirtual 115, 3) := by decide +kernel
theorem dX12_lastOf_6 : decode cX12_lastOf 6 = .ok (.aload_n 0, 1) := by decide +kernel
theorem dX12_lastOf_7 : decode cX12_lastOf 7 = .ok (.iload_n 1, 1) := by decide +kernel
theorem dX12_lastOf_8 : decode cX12_lastOf 8 = .ok (.iconst 1, 1) := by decide +kernel
theorem dX12_lastOf_9 : decode cX12_lastOf 9 = .ok (.invokevirtual 115, 3) := by decide +kernel
theorem dX12_lastOf_12 : decode cX12_lastOf 12 = .ok (.iadd, 1) := by decide +kernel
theorem dX12_lastOf_13 : decode cX12_lastOf 13 = .ok (.aload_n 0, 1) := by decide +kernel
theorem dX12_lastOf_14 : decode cX12_lastOf 14 = .ok (.iload_n 1, 1) := by decide +kernel
theorem dX12_lastOf_15 : decode cX12_lastOf 15 = .ok (.iconst 2, 1) := by decide +kernel
theorem dX12_lastOf_16 : decode cX12_lastOf 16 = .ok (.invokevirtual 115, 3) := by decide +kernel
theorem dX12_lastOf_19 : decode cX12_lastOf 19 = .ok (.iadd, 1) := by decide +kernel
theorem dX12_lastOf_20 : decode cX12_lastOf 20 = .ok (.iconst 1, 1) := by decide +kernel
theorem dX12_lastOf_21 : decode cX12_lastOf 21 = .ok (.isub, 1) := by decide +kernel
theorem dX12_lastOf_22 : decode cX12_lastOf 22 = .ok (.ireturn, 1) := by decide +kernel
theorem dX12_partsFrom_0 : decode cX12_partsFrom 0 = .ok (.iconst 5, 1) := by decide +kernel
theorem dX12_partsFrom_1 : decode cX12_partsFrom 1 = .ok (.aload_n 0, 1) := by decide +kernel
theorem dX12_partsFrom_2 : decode cX12_partsFrom 2 = .ok (.iload_n 1, 1) := by decide +kernel
theorem dX12_partsFrom_3 : decode cX12_partsFrom 3 = .ok (.invokevirtual 118, 3) := by decide +kernel
theorem dX12_partsFrom_6 : decode cX12_partsFrom 6 = .ok (.iload_n 2, 1) := by decide +kernel
theorem dX12_partsFrom_7 : decode cX12_partsFrom 7 = .ok (.isub, 1) := by decide +kernel
theorem dX12_partsFrom_8 : decode cX12_partsFrom 8 = .ok (.iconst 1, 1) := by decide +kernel
theorem dX12_partsFrom_9 : decode cX12_partsFrom 9 = .ok (.iadd, 1) := by decide +kernel
theorem dX12_partsFrom_10 : decode cX12_partsFrom 10 = .ok (.invokestatic 122, 3) := by decide +kernel
theorem dX12_partsFrom_13 : decode cX12_partsFrom 13 = .ok (.ireturn, 1) := by decide +kernel
theorem dX12_pieceOf_0 : decode cX12_pieceOf 0 = .ok (.iload_n 2, 1) := by decide +kernel
theorem dX12_pieceOf_1 : decode cX12_pieceOf 1 = .ok (.iload_n 1, 1) := by decide +kernel
theorem dX12_pieceOf_2 : decode cX12_pieceOf 2 = .ok (.if_icmp .lt 7, 3) := by decide +kernel
theorem dX12_pieceOf_5 : decode cX12_pieceOf 5 = .ok (.iconst 0, 1) := by decide +kernel
theorem dX12_pieceOf_6 : decode cX12_pieceOf 6 = .ok (.goto 22, 3) := by decide +kernel
theorem dX12_pieceOf_9 : decode cX12_pieceOf 9 = .ok (.iload_n 2, 1) := by decide +kernel
theorem dX12_pieceOf_10 : decode cX12_pieceOf 10 = .ok (.ifCond .ne 15, 3) := by decide +kernel
theorem dX12_pieceOf_13 : decode cX12_pieceOf 13 = .ok (.iload_n 0, 1) := by decide +kernel
theorem dX12_pieceOf_14 : decode cX12_pieceOf 14 = .ok (.iload_n 0, 1) := by decide +kernel
theorem dX12_pieceOf_15 : decode cX12_pieceOf 15 = .ok (.iload_n 1, 1) := by decide +kernel
theorem dX12_pieceOf_16 : decode cX12_pieceOf 16 = .ok (.idiv, 1) := by decide +kernel
theorem dX12_pieceOf_17 : decode cX12_pieceOf 17 = .ok (.iload_n 1, 1) := by decide +kernel
theorem dX12_pieceOf_18 : decode cX12_pieceOf 18 = .ok (.iconst 1, 1) := by decide +kernel
theorem dX12_pieceOf_19 : decode cX12_pieceOf 19 = .ok (.isub, 1) := by decide +kernel
theorem dX12_pieceOf_20 : decode cX12_pieceOf 20 = .ok (.imul, 1) := by decide +kernel
theorem dX12_pieceOf_21 : decode cX12_pieceOf 21 = .ok (.isub, 1) := by decide +kernel
theorem dX12_pieceOf_22 : decode cX12_pieceOf 22 = .ok (.goto 6, 3) := by decide +kernel
theorem dX12_pieceOf_25 : decode cX12_pieceOf 25 = .ok (.iload_n 0, 1) := by decide +kernel
theorem dX12_pieceOf_26 : decode cX12_pieceOf 26 = .ok (.iload_n 1, 1) := by decide +kernel
theorem dX12_pieceOf_27 : decode cX12_pieceOf 27 = .ok (.idiv, 1) := by decide +kernel
theorem dX12_pieceOf_28 : decode cX12_pieceOf 28 = .ok (.ireturn, 1) := by decide +kernel
theorem dX12_spreads_0 : decode cX12_spreads 0 = .ok (.aload_n 0, 1) := by decide +kernel
theorem dX12_spreads_1 : decode cX12_spreads 1 = .ok (.iload_n 1, 1) := by decide +kernel
theorem dX12_spreads_2 : decode cX12_spreads 2 = .ok (.iload_n 3, 1) := by decide +kernel
theorem dX12_spreads_3 : decode cX12_spreads 3 = .ok (.invokevirtual 125, 3) := by decide +kernel
theorem dX12_spreads_6 : decode cX12_spreads 6 = .ok (.istore 4, 2) := by decide +kernel
theorem dX12_spreads_8 : decode cX12_spreads 8 = .ok (.aload_n 0, 1) := by decide +kernel
theorem dX12_spreads_9 : decode cX12_spreads 9 = .ok (.getfield 3, 3) := by decide +kernel
theorem dX12_spreads_12 : decode cX12_spreads 12 = .ok (.iload_n 1, 1) := by decide +kernel
theorem dX12_spreads_13 : decode cX12_spreads 13 = .ok (.bipush 66, 2) := by decide +kernel
theorem dX12_spreads_15 : decode cX12_spreads 15 = .ok (.iload_n 3, 1) := by decide +kernel
theorem dX12_spreads_16 : decode cX12_spreads 16 = .ok (.iadd, 1) := by decide +kernel
theorem dX12_spreads_17 : decode cX12_spreads 17 = .ok (.invokestatic 111, 3) := by decide +kernel
theorem dX12_spreads_20 : decode cX12_spreads 20 = .ok (.dup2, 1) := by decide +kernel
theorem dX12_spreads_21 : decode cX12_spreads 21 = .ok (.iaload, 1) := by decide +kernel
theorem dX12_spreads_22 : decode cX12_spreads 22 = .ok (.iload_n 2, 1) := by decide +kernel
theorem dX12_spreads_23 : decode cX12_spreads 23 = .ok (.iadd, 1) := by decide +kernel
theorem dX12_spreads_24 : decode cX12_spreads 24 = .ok (.iastore, 1) := by decide +kernel
theorem dX12_spreads_25 : decode cX12_spreads 25 = .ok (.iconst 0, 1) := by decide +kernel
theorem dX12_spreads_26 : decode cX12_spreads 26 = .ok (.istore 5, 2) := by decide +kernel
theorem dX12_spreads_28 : decode cX12_spreads 28 = .ok (.iload 5, 2) := by decide +kernel
theorem dX12_spreads_30 : decode cX12_spreads 30 = .ok (.iload 4, 2) := by decide +kernel
theorem dX12_spreads_32 : decode cX12_spreads 32 = .ok (.if_icmp .ge 36, 3) := by decide +kernel
theorem dX12_spreads_35 : decode cX12_spreads 35 = .ok (.aload_n 0, 1) := by decide +kernel
theorem dX12_spreads_36 : decode cX12_spreads 36 = .ok (.getfield 3, 3) := by decide +kernel
theorem dX12_spreads_39 : decode cX12_spreads 39 = .ok (.iload_n 1, 1) := by decide +kernel
theorem dX12_spreads_40 : decode cX12_spreads 40 = .ok (.bipush 46, 2) := by decide +kernel
theorem dX12_spreads_42 : decode cX12_spreads 42 = .ok (.iload_n 3, 1) := by decide +kernel
theorem dX12_spreads_43 : decode cX12_spreads 43 = .ok (.iadd, 1) := by decide +kernel
theorem dX12_spreads_44 : decode cX12_spreads 44 = .ok (.iload 5, 2) := by decide +kernel
theorem dX12_spreads_46 : decode cX12_spreads 46 = .ok (.iadd, 1) := by decide +kernel
theorem dX12_spreads_47 : decode cX12_spreads 47 = .ok (.invokestatic 111, 3) := by decide +kernel
theorem dX12_spreads_50 : decode cX12_spreads 50 = .ok (.dup2, 1) := by decide +kernel
theorem dX12_spreads_51 : decode cX12_spreads 51 = .ok (.iaload, 1) := by decide +kernel
theorem dX12_spreads_52 : decode cX12_spreads 52 = .ok (.iload_n 2, 1) := by decide +kernel
theorem dX12_spreads_53 : decode cX12_spreads 53 = .ok (.iload 4, 2) := by decide +kernel
theorem dX12_spreads_55 : decode cX12_spreads 55 = .ok (.iload 5, 2) := by decide +kernel
theorem dX12_spreads_57 : decode cX12_spreads 57 = .ok (.invokestatic 128, 3) := by decide +kernel
theorem dX12_spreads_60 : decode cX12_spreads 60 = .ok (.iadd, 1) := by decide +kernel
theorem dX12_spreads_61 : decode cX12_spreads 61 = .ok (.iastore, 1) := by decide +kernel
theorem dX12_spreads_62 : decode cX12_spreads 62 = .ok (.iinc 5 1, 3) := by decide +kernel
theorem dX12_spreads_65 : decode cX12_spreads 65 = .ok (.goto (-37), 3) := by decide +kernel
theorem dX12_spreads_68 : decode cX12_spreads 68 = .ok (.return_, 1) := by decide +kernel
theorem dX12_readContract_0 : decode cX12_readContract 0 = .ok (.aload_n 0, 1) := by decide +kernel
theorem dX12_readContract_1 : decode cX12_readContract 1 = .ok (.getfield 3, 3) := by decide +kernel
theorem dX12_readContract_4 : decode cX12_readContract 4 = .ok (.bipush 7, 2) := by decide +kernel
theorem dX12_readContract_6 : decode cX12_readContract 6 = .ok (.iaload, 1) := by decide +kernel
theorem dX12_readContract_7 : decode cX12_readContract 7 = .ok (.istore_n 1, 1) := by decide +kernel
theorem dX12_readContract_8 : decode cX12_readContract 8 = .ok (.iconst 0, 1) := by decide +kernel
theorem dX12_readContract_9 : decode cX12_readContract 9 = .ok (.istore_n 2, 1) := by decide +kernel
theorem dX12_readContract_10 : decode cX12_readContract 10 = .ok (.iload_n 2, 1) := by decide +kernel
theorem dX12_readContract_11 : decode cX12_readContract 11 = .ok (.bipush 86, 2) := by decide +kernel
theorem dX12_readContract_13 : decode cX12_readContract 13 = .ok (.if_icmp .ge 20, 3) := by decide +kernel
theorem dX12_readContract_16 : decode cX12_readContract 16 = .ok (.aload_n 0, 1) := by decide +kernel
theorem dX12_readContract_17 : decode cX12_readContract 17 = .ok (.getfield 3, 3) := by decide +kernel
theorem dX12_readContract_20 : decode cX12_readContract 20 = .ok (.iload_n 1, 1) := by decide +kernel
theorem dX12_readContract_21 : decode cX12_readContract 21 = .ok (.iload_n 2, 1) := by decide +kernel
theorem dX12_readContract_22 : decode cX12_readContract 22 = .ok (.invokestatic 111, 3) := by decide +kernel
theorem dX12_readContract_25 : decode cX12_readContract 25 = .ok (.iconst 0, 1) := by decide +kernel
theorem dX12_readContract_26 : decode cX12_readContract 26 = .ok (.iastore, 1) := by decide +kernel
theorem dX12_readContract_27 : decode cX12_readContract 27 = .ok (.iinc 2 1, 3) := by decide +kernel
theorem dX12_readContract_30 : decode cX12_readContract 30 = .ok (.goto (-20), 3) := by decide +kernel
theorem dX12_readContract_33 : decode cX12_readContract 33 = .ok (.aload_n 0, 1) := by decide +kernel
theorem dX12_readContract_34 : decode cX12_readContract 34 = .ok (.iload_n 1, 1) := by decide +kernel
theorem dX12_readContract_35 : decode cX12_readContract 35 = .ok (.iconst 0, 1) := by decide +kernel
theorem dX12_readContract_36 : decode cX12_readContract 36 = .ok (.invokestatic 111, 3) := by decide +kernel
theorem dX12_readContract_39 : decode cX12_readContract 39 = .ok (.aload_n 0, 1) := by decide +kernel
theorem dX12_readContract_40 : decode cX12_readContract 40 = .ok (.getfield 3, 3) := by decide +kernel
theorem dX12_readContract_43 : decode cX12_readContract 43 = .ok (.iconst 0, 1) := by decide +kernel
theorem dX12_readContract_44 : decode cX12_readContract 44 = .ok (.iaload, 1) := by decide +kernel
theorem dX12_readContract_45 : decode cX12_readContract 45 = .ok (.bipush 19, 2) := by decide +kernel
theorem dX12_readContract_47 : decode cX12_readContract 47 = .ok (.invokevirtual 107, 3) := by decide +kernel
theorem dX12_readContract_50 : decode cX12_readContract 50 = .ok (.ifCond .eq 92, 3) := by decide +kernel
theorem dX12_readContract_53 : decode cX12_readContract 53 = .ok (.aload_n 0, 1) := by decide +kernel
theorem dX12_readContract_54 : decode cX12_readContract 54 = .ok (.bipush 44, 2) := by decide +kernel
theorem dX12_readContract_56 : decode cX12_readContract 56 = .ok (.invokevirtual 103, 3) := by decide +kernel
theorem dX12_readContract_59 : decode cX12_readContract 59 = .ok (.ifCond .eq 83, 3) := by decide +kernel
theorem dX12_readContract_62 : decode cX12_readContract 62 = .ok (.aload_n 0, 1) := by decide +kernel
theorem dX12_readContract_63 : decode cX12_readContract 63 = .ok (.iload_n 1, 1) := by decide +kernel
theorem dX12_readContract_64 : decode cX12_readContract 64 = .ok (.iconst 1, 1) := by decide +kernel
theorem dX12_readContract_65 : decode cX12_readContract 65 = .ok (.invokestatic 111, 3) := by decide +kernel
theorem dX12_readContract_68 : decode cX12_readContract 68 = .ok (.iconst 1, 1) := by decide +kernel
theorem dX12_readContract_69 : decode cX12_readContract 69 = .ok (.bipush 6, 2) := by decide +kernel
theorem dX12_readContract_71 : decode cX12_readContract 71 = .ok (.bipush 20, 2) := by decide +kernel
theorem dX12_readContract_73 : decode cX12_readContract 73 = .ok (.aload_n 0, 1) := by decide +kernel
theorem dX12_readContract_74 : decode cX12_readContract 74 = .ok (.iload_n 1, 1) := by decide +kernel
theorem dX12_readContract_75 : decode cX12_readContract 75 = .ok (.iconst 0, 1) := by decide +kernel
theorem dX12_readContract_76 : decode cX12_readContract 76 = .ok (.invokevirtual 115, 3) := by decide +kernel
theorem dX12_readContract_79 : decode cX12_readContract 79 = .ok (.isub, 1) := by decide +kernel
theorem dX12_readContract_80 : decode cX12_readContract 80 = .ok (.invokestatic 122, 3) := by decide +kernel
theorem dX12_readContract_83 : decode cX12_readContract 83 = .ok (.invokevirtual 107, 3) := by decide +kernel
theorem dX12_readContract_86 : decode cX12_readContract 86 = .ok (.ifCond .eq 56, 3) := by decide +kernel
theorem dX12_readContract_89 : decode cX12_readContract 89 = .ok (.aload_n 0, 1) := by decide +kernel
theorem dX12_readContract_90 : decode cX12_readContract 90 = .ok (.bipush 44, 2) := by decide +kernel
theorem dX12_readContract_92 : decode cX12_readContract 92 = .ok (.invokevirtual 103, 3) := by decide +kernel
theorem dX12_readContract_95 : decode cX12_readContract 95 = .ok (.ifCond .eq 47, 3) := by decide +kernel
theorem dX12_readContract_98 : decode cX12_readContract 98 = .ok (.aload_n 0, 1) := by decide +kernel
theorem dX12_readContract_99 : decode cX12_readContract 99 = .ok (.iload_n 1, 1) := by decide +kernel
theorem dX12_readContract_100 : decode cX12_readContract 100 = .ok (.iconst 2, 1) := by decide +kernel
theorem dX12_readContract_101 : decode cX12_readContract 101 = .ok (.invokestatic 111, 3) := by decide +kernel
theorem dX12_readContract_104 : decode cX12_readContract 104 = .ok (.iconst 0, 1) := by decide +kernel
theorem dX12_readContract_105 : decode cX12_readContract 105 = .ok (.iconst 4, 1) := by decide +kernel
theorem dX12_readContract_106 : decode cX12_readContract 106 = .ok (.bipush 20, 2) := by decide +kernel
theorem dX12_readContract_108 : decode cX12_readContract 108 = .ok (.aload_n 0, 1) := by decide +kernel
theorem dX12_readContract_109 : decode cX12_readContract 109 = .ok (.iload_n 1, 1) := by decide +kernel
theorem dX12_readContract_110 : decode cX12_readContract 110 = .ok (.invokevirtual 132, 3) := by decide +kernel
theorem dX12_readContract_113 : decode cX12_readContract 113 = .ok (.isub, 1) := by decide +kernel
theorem dX12_readContract_114 : decode cX12_readContract 114 = .ok (.invokestatic 122, 3) := by decide +kernel
theorem dX12_readContract_117 : decode cX12_readContract 117 = .ok (.invokevirtual 107, 3) := by decide +kernel
theorem dX12_readContract_120 : decode cX12_readContract 120 = .ok (.ifCond .eq 22, 3) := by decide +kernel
theorem dX12_readContract_123 : decode cX12_readContract 123 = .ok (.aload_n 0, 1) := by decide +kernel
theorem dX12_readContract_124 : decode cX12_readContract 124 = .ok (.bipush 44, 2) := by decide +kernel
theorem dX12_readContract_126 : decode cX12_readContract 126 = .ok (.invokevirtual 103, 3) := by decide +kernel
theorem dX12_readContract_129 : decode cX12_readContract 129 = .ok (.ifCond .eq 13, 3) := by decide +kernel
theorem dX12_readContract_132 : decode cX12_readContract 132 = .ok (.aload_n 0, 1) := by decide +kernel
theorem dX12_readContract_133 : decode cX12_readContract 133 = .ok (.iconst 0, 1) := by decide +kernel
theorem dX12_readContract_134 : decode cX12_readContract 134 = .ok (.ldc 135, 2) := by decide +kernel
theorem dX12_readContract_136 : decode cX12_readContract 136 = .ok (.invokevirtual 99, 3) := by decide +kernel
theorem dX12_readContract_139 : decode cX12_readContract 139 = .ok (.ifCond .ne 5, 3) := by decide +kernel
theorem dX12_readContract_142 : decode cX12_readContract 142 = .ok (.iconst 0, 1) := by decide +kernel
theorem dX12_readContract_143 : decode cX12_readContract 143 = .ok (.ireturn, 1) := by decide +kernel
theorem dX12_readContract_144 : decode cX12_readContract 144 = .ok (.aload_n 0, 1) := by decide +kernel
theorem dX12_readContract_145 : decode cX12_readContract 145 = .ok (.getfield 93, 3) := by decide +kernel
theorem dX12_readContract_148 : decode cX12_readContract 148 = .ok (.istore_n 2, 1) := by decide +kernel
theorem dX12_readContract_149 : decode cX12_readContract 149 = .ok (.aload_n 0, 1) := by decide +kernel
theorem dX12_readContract_150 : decode cX12_readContract 150 = .ok (.bipush 44, 2) := by decide +kernel
theorem dX12_readContract_152 : decode cX12_readContract 152 = .ok (.invokevirtual 103, 3) := by decide +kernel
theorem dX12_readContract_155 : decode cX12_readContract 155 = .ok (.ifCond .eq 18, 3) := by decide +kernel
theorem dX12_readContract_158 : decode cX12_readContract 158 = .ok (.aload_n 0, 1) := by decide +kernel
theorem dX12_readContract_159 : decode cX12_readContract 159 = .ok (.iload_n 1, 1) := by decide +kernel
theorem dX12_readContract_160 : decode cX12_readContract 160 = .ok (.iconst 3, 1) := by decide +kernel
theorem dX12_readContract_161 : decode cX12_readContract 161 = .ok (.invokestatic 111, 3) := by decide +kernel
theorem dX12_readContract_164 : decode cX12_readContract 164 = .ok (.iconst 0, 1) := by decide +kernel
theorem dX12_readContract_165 : decode cX12_readContract 165 = .ok (.bipush 100, 2) := by decide +kernel
theorem dX12_readContract_167 : decode cX12_readContract 167 = .ok (.invokevirtual 107, 3) := by decide +kernel
theorem dX12_readContract_170 : decode cX12_readContract 170 = .ok (.ifCond .ne 5, 3) := by decide +kernel
theorem dX12_readContract_173 : decode cX12_readContract 173 = .ok (.iconst 0, 1) := by decide +kernel
theorem dX12_readContract_174 : decode cX12_readContract 174 = .ok (.ireturn, 1) := by decide +kernel
theorem dX12_readContract_175 : decode cX12_readContract 175 = .ok (.iconst 0, 1) := by decide +kernel
theorem dX12_readContract_176 : decode cX12_readContract 176 = .ok (.istore_n 3, 1) := by decide +kernel
theorem dX12_readContract_177 : decode cX12_readContract 177 = .ok (.iload_n 3, 1) := by decide +kernel
theorem dX12_readContract_178 : decode cX12_readContract 178 = .ok (.aload_n 0, 1) := by decide +kernel
theorem dX12_readContract_179 : decode cX12_readContract 179 = .ok (.iload_n 1, 1) := by decide +kernel
theorem dX12_readContract_180 : decode cX12_readContract 180 = .ok (.iconst 1, 1) := by decide +kernel
theorem dX12_readContract_181 : decode cX12_readContract 181 = .ok (.invokevirtual 115, 3) := by decide +kernel
theorem dX12_readContract_184 : decode cX12_readContract 184 = .ok (.if_icmp .ge 83, 3) := by decide +kernel
theorem dX12_readContract_187 : decode cX12_readContract 187 = .ok (.aload_n 0, 1) := by decide +kernel
theorem dX12_readContract_188 : decode cX12_readContract 188 = .ok (.iload_n 1, 1) := by decide +kernel
theorem dX12_readContract_189 : decode cX12_readContract 189 = .ok (.iconst 0, 1) := by decide +kernel
theorem dX12_readContract_190 : decode cX12_readContract 190 = .ok (.invokevirtual 115, 3) := by decide +kernel
theorem dX12_readContract_193 : decode cX12_readContract 193 = .ok (.iload_n 3, 1) := by decide +kernel
theorem dX12_readContract_194 : decode cX12_readContract 194 = .ok (.iadd, 1) := by decide +kernel
theorem dX12_readContract_195 : decode cX12_readContract 195 = .ok (.istore 4, 2) := by decide +kernel
theorem dX12_readContract_197 : decode cX12_readContract 197 = .ok (.aload_n 0, 1) := by decide +kernel
theorem dX12_readContract_198 : decode cX12_readContract 198 = .ok (.bipush 58, 2) := by decide +kernel
theorem dX12_readContract_200 : decode cX12_readContract 200 = .ok (.invokevirtual 103, 3) := by decide +kernel
theorem dX12_readContract_203 : decode cX12_readContract 203 = .ok (.ifCond .eq 56, 3) := by decide +kernel
theorem dX12_readContract_206 : decode cX12_readContract 206 = .ok (.aload_n 0, 1) := by decide +kernel
theorem dX12_readContract_207 : decode cX12_readContract 207 = .ok (.iload_n 1, 1) := by decide +kernel
theorem dX12_readContract_208 : decode cX12_readContract 208 = .ok (.bipush 6, 2) := by decide +kernel
theorem dX12_readContract_210 : decode cX12_readContract 210 = .ok (.iload 4, 2) := by decide +kernel
theorem dX12_readContract_212 : decode cX12_readContract 212 = .ok (.iadd, 1) := by decide +kernel
theorem dX12_readContract_213 : decode cX12_readContract 213 = .ok (.invokestatic 111, 3) := by decide +kernel
theorem dX12_readContract_216 : decode cX12_readContract 216 = .ok (.aload_n 0, 1) := by decide +kernel
theorem dX12_readContract_217 : decode cX12_readContract 217 = .ok (.getfield 3, 3) := by decide +kernel
theorem dX12_readContract_220 : decode cX12_readContract 220 = .ok (.bipush 6, 2) := by decide +kernel
theorem dX12_readContract_222 : decode cX12_readContract 222 = .ok (.iaload, 1) := by decide +kernel
theorem dX12_readContract_223 : decode cX12_readContract 223 = .ok (.ldc 135, 2) := by decide +kernel
theorem dX12_readContract_225 : decode cX12_readContract 225 = .ok (.invokevirtual 107, 3) := by decide +kernel
theorem dX12_readContract_228 : decode cX12_readContract 228 = .ok (.ifCond .eq 31, 3) := by decide +kernel
theorem dX12_readContract_231 : decode cX12_readContract 231 = .ok (.aload_n 0, 1) := by decide +kernel
theorem dX12_readContract_232 : decode cX12_readContract 232 = .ok (.bipush 44, 2) := by decide +kernel
theorem dX12_readContract_234 : decode cX12_readContract 234 = .ok (.invokevirtual 103, 3) := by decide +kernel
theorem dX12_readContract_237 : decode cX12_readContract 237 = .ok (.ifCond .eq 22, 3) := by decide +kernel
theorem dX12_readContract_240 : decode cX12_readContract 240 = .ok (.aload_n 0, 1) := by decide +kernel
theorem dX12_readContract_241 : decode cX12_readContract 241 = .ok (.iload_n 1, 1) := by decide +kernel
theorem dX12_readContract_242 : decode cX12_readContract 242 = .ok (.bipush 26, 2) := by decide +kernel
theorem dX12_readContract_244 : decode cX12_readContract 244 = .ok (.iload 4, 2) := by decide +kernel
theorem dX12_readContract_246 : decode cX12_readContract 246 = .ok (.iadd, 1) := by decide +kernel
theorem dX12_readContract_247 : decode cX12_readContract 247 = .ok (.invokestatic 111, 3) := by decide +kernel
theorem dX12_readContract_250 : decode cX12_readContract 250 = .ok (.iconst 0, 1) := by decide +kernel
theorem dX12_readContract_251 : decode cX12_readContract 251 = .ok (.ldc 135, 2) := by decide +kernel
theorem dX12_readContract_253 : decode cX12_readContract 253 = .ok (.invokevirtual 107, 3) := by decide +kernel
theorem dX12_readContract_256 : decode cX12_readContract 256 = .ok (.ifCond .ne 5, 3) := by decide +kernel
theorem dX12_readContract_259 : decode cX12_readContract 259 = .ok (.iconst 0, 1) := by decide +kernel
theorem dX12_readContract_260 : decode cX12_readContract 260 = .ok (.ireturn, 1) := by decide +kernel
theorem dX12_readContract_261 : decode cX12_readContract 261 = .ok (.iinc 3 1, 3) := by decide +kernel
theorem dX12_readContract_264 : decode cX12_readContract 264 = .ok (.goto (-87), 3) := by decide +kernel
theorem dX12_readContract_267 : decode cX12_readContract 267 = .ok (.aload_n 0, 1) := by decide +kernel
theorem dX12_readContract_268 : decode cX12_readContract 268 = .ok (.iload_n 1, 1) := by decide +kernel
theorem dX12_readContract_269 : decode cX12_readContract 269 = .ok (.iload_n 2, 1) := by decide +kernel
theorem dX12_readContract_270 : decode cX12_readContract 270 = .ok (.aload_n 0, 1) := by decide +kernel
theorem dX12_readContract_271 : decode cX12_readContract 271 = .ok (.iload_n 1, 1) := by decide +kernel
theorem dX12_readContract_272 : decode cX12_readContract 272 = .ok (.iconst 0, 1) := by decide +kernel
theorem dX12_readContract_273 : decode cX12_readContract 273 = .ok (.invokevirtual 115, 3) := by decide +kernel
theorem dX12_readContract_276 : decode cX12_readContract 276 = .ok (.invokevirtual 136, 3) := by decide +kernel
theorem dX12_readContract_279 : decode cX12_readContract 279 = .ok (.aload_n 0, 1) := by decide +kernel
theorem dX12_readContract_280 : decode cX12_readContract 280 = .ok (.getfield 3, 3) := by decide +kernel
theorem dX12_readContract_283 : decode cX12_readContract 283 = .ok (.bipush 7, 2) := by decide +kernel
theorem dX12_readContract_285 : decode cX12_readContract 285 = .ok (.dup2, 1) := by decide +kernel
theorem dX12_readContract_286 : decode cX12_readContract 286 = .ok (.iaload, 1) := by decide +kernel
theorem dX12_readContract_287 : decode cX12_readContract 287 = .ok (.iconst 1, 1) := by decide +kernel
theorem dX12_readContract_288 : decode cX12_readContract 288 = .ok (.iadd, 1) := by decide +kernel
theorem dX12_readContract_289 : decode cX12_readContract 289 = .ok (.iastore, 1) := by decide +kernel
theorem dX12_readContract_290 : decode cX12_readContract 290 = .ok (.iconst 1, 1) := by decide +kernel
theorem dX12_readContract_291 : decode cX12_readContract 291 = .ok (.ireturn, 1) := by decide +kernel
theorem dX12_readDays_0 : decode cX12_readDays 0 = .ok (.aload_n 0, 1) := by decide +kernel
theorem dX12_readDays_1 : decode cX12_readDays 1 = .ok (.iconst 2, 1) := by decide +kernel
theorem dX12_readDays_2 : decode cX12_readDays 2 = .ok (.iconst 0, 1) := by decide +kernel
theorem dX12_readDays_3 : decode cX12_readDays 3 = .ok (.sipush 364, 3) := by decide +kernel
theorem dX12_readDays_6 : decode cX12_readDays 6 = .ok (.invokevirtual 107, 3) := by decide +kernel
theorem dX12_readDays_9 : decode cX12_readDays 9 = .ok (.ifCond .eq 49, 3) := by decide +kernel
theorem dX12_readDays_12 : decode cX12_readDays 12 = .ok (.aload_n 0, 1) := by decide +kernel
theorem dX12_readDays_13 : decode cX12_readDays 13 = .ok (.bipush 44, 2) := by decide +kernel
theorem dX12_readDays_15 : decode cX12_readDays 15 = .ok (.invokevirtual 103, 3) := by decide +kernel
theorem dX12_readDays_18 : decode cX12_readDays 18 = .ok (.ifCond .eq 40, 3) := by decide +kernel
theorem dX12_readDays_21 : decode cX12_readDays 21 = .ok (.aload_n 0, 1) := by decide +kernel
theorem dX12_readDays_22 : decode cX12_readDays 22 = .ok (.iconst 3, 1) := by decide +kernel
theorem dX12_readDays_23 : decode cX12_readDays 23 = .ok (.iconst 0, 1) := by decide +kernel
theorem dX12_readDays_24 : decode cX12_readDays 24 = .ok (.sipush 364, 3) := by decide +kernel
theorem dX12_readDays_27 : decode cX12_readDays 27 = .ok (.invokevirtual 107, 3) := by decide +kernel
theorem dX12_readDays_30 : decode cX12_readDays 30 = .ok (.ifCond .eq 28, 3) := by decide +kernel
theorem dX12_readDays_33 : decode cX12_readDays 33 = .ok (.aload_n 0, 1) := by decide +kernel
theorem dX12_readDays_34 : decode cX12_readDays 34 = .ok (.bipush 44, 2) := by decide +kernel
theorem dX12_readDays_36 : decode cX12_readDays 36 = .ok (.invokevirtual 103, 3) := by decide +kernel
theorem dX12_readDays_39 : decode cX12_readDays 39 = .ok (.ifCond .eq 19, 3) := by decide +kernel
theorem dX12_readDays_42 : decode cX12_readDays 42 = .ok (.aload_n 0, 1) := by decide +kernel
theorem dX12_readDays_43 : decode cX12_readDays 43 = .ok (.iconst 4, 1) := by decide +kernel
theorem dX12_readDays_44 : decode cX12_readDays 44 = .ok (.iconst 0, 1) := by decide +kernel
theorem dX12_readDays_45 : decode cX12_readDays 45 = .ok (.sipush 364, 3) := by decide +kernel
theorem dX12_readDays_48 : decode cX12_readDays 48 = .ok (.invokevirtual 107, 3) := by decide +kernel
theorem dX12_readDays_51 : decode cX12_readDays 51 = .ok (.ifCond .eq 7, 3) := by decide +kernel
theorem dX12_readDays_54 : decode cX12_readDays 54 = .ok (.iconst 1, 1) := by decide +kernel
theorem dX12_readDays_55 : decode cX12_readDays 55 = .ok (.goto 4, 3) := by decide +kernel
theorem dX12_readDays_58 : decode cX12_readDays 58 = .ok (.iconst 0, 1) := by decide +kernel
theorem dX12_readDays_59 : decode cX12_readDays 59 = .ok (.ireturn, 1) := by decide +kernel
theorem dX12_readItem_0 : decode cX12_readItem 0 = .ok (.aload_n 0, 1) := by decide +kernel
theorem dX12_readItem_1 : decode cX12_readItem 1 = .ok (.invokevirtual 85, 3) := by decide +kernel
theorem dX12_readItem_4 : decode cX12_readItem 4 = .ok (.istore_n 1, 1) := by decide +kernel
theorem dX12_readItem_5 : decode cX12_readItem 5 = .ok (.iload_n 1, 1) := by decide +kernel
theorem dX12_readItem_6 : decode cX12_readItem 6 = .ok (.bipush 112, 2) := by decide +kernel
theorem dX12_readItem_8 : decode cX12_readItem 8 = .ok (.if_icmp .ne 24, 3) := by decide +kernel
theorem dX12_readItem_11 : decode cX12_readItem 11 = .ok (.aload_n 0, 1) := by decide +kernel
theorem dX12_readItem_12 : decode cX12_readItem 12 = .ok (.getfield 3, 3) := by decide +kernel
theorem dX12_readItem_15 : decode cX12_readItem 15 = .ok (.bipush 7, 2) := by decide +kernel
theorem dX12_readItem_17 : decode cX12_readItem 17 = .ok (.iaload, 1) := by decide +kernel
theorem dX12_readItem_18 : decode cX12_readItem 18 = .ok (.bipush 40, 2) := by decide +kernel
theorem dX12_readItem_20 : decode cX12_readItem 20 = .ok (.if_icmp .ne 12, 3) := by decide +kernel
theorem dX12_readItem_23 : decode cX12_readItem 23 = .ok (.aload_n 0, 1) := by decide +kernel
theorem dX12_readItem_24 : decode cX12_readItem 24 = .ok (.aload_n 0, 1) := by decide +kernel
theorem dX12_readItem_25 : decode cX12_readItem 25 = .ok (.getfield 82, 3) := by decide +kernel
theorem dX12_readItem_28 : decode cX12_readItem 28 = .ok (.invokevirtual 89, 3) := by decide +kernel
theorem dX12_readItem_31 : decode cX12_readItem 31 = .ok (.ireturn, 1) := by decide +kernel
theorem dX12_readItem_32 : decode cX12_readItem 32 = .ok (.aload_n 0, 1) := by decide +kernel
theorem dX12_readItem_33 : decode cX12_readItem 33 = .ok (.dup, 1) := by decide +kernel
theorem dX12_readItem_34 : decode cX12_readItem 34 = .ok (.getfield 82, 3) := by decide +kernel
theorem dX12_readItem_37 : decode cX12_readItem 37 = .ok (.iconst 1, 1) := by decide +kernel
theorem dX12_readItem_38 : decode cX12_readItem 38 = .ok (.iadd, 1) := by decide +kernel
theorem dX12_readItem_39 : decode cX12_readItem 39 = .ok (.putfield 82, 3) := by decide +kernel
theorem dX12_readItem_42 : decode cX12_readItem 42 = .ok (.iload_n 1, 1) := by decide +kernel
theorem dX12_readItem_43 : decode cX12_readItem 43 = .ok (.tableswitch 189 99 112 #[113, 91, 189, 189, 189, 189, 189, 189, 189, 69, 139, 189, 189, 167], 69) := by decide +kernel
theorem dX12_readItem_112 : decode cX12_readItem 112 = .ok (.aload_n 0, 1) := by decide +kernel
theorem dX12_readItem_113 : decode cX12_readItem 113 = .ok (.invokevirtual 140, 3) := by decide +kernel
theorem dX12_readItem_116 : decode cX12_readItem 116 = .ok (.ifCond .eq 16, 3) := by decide +kernel
theorem dX12_readItem_119 : decode cX12_readItem 119 = .ok (.aload_n 0, 1) := by decide +kernel
theorem dX12_readItem_120 : decode cX12_readItem 120 = .ok (.bipush 59, 2) := by decide +kernel
theorem dX12_readItem_122 : decode cX12_readItem 122 = .ok (.invokevirtual 103, 3) := by decide +kernel
theorem dX12_readItem_125 : decode cX12_readItem 125 = .ok (.ifCond .eq 7, 3) := by decide +kernel
theorem dX12_readItem_128 : decode cX12_readItem 128 = .ok (.iconst 1, 1) := by decide +kernel
theorem dX12_readItem_129 : decode cX12_readItem 129 = .ok (.goto 4, 3) := by decide +kernel
theorem dX12_readItem_132 : decode cX12_readItem 132 = .ok (.iconst 0, 1) := by decide +kernel
theorem dX12_readItem_133 : decode cX12_readItem 133 = .ok (.ireturn, 1) := by decide +kernel
theorem dX12_readItem_134 : decode cX12_readItem 134 = .ok (.aload_n 0, 1) := by decide +kernel
theorem dX12_readItem_135 : decode cX12_readItem 135 = .ok (.invokevirtual 144, 3) := by decide +kernel
theorem dX12_readItem_138 : decode cX12_readItem 138 = .ok (.ifCond .eq 16, 3) := by decide +kernel
theorem dX12_readItem_141 : decode cX12_readItem 141 = .ok (.aload_n 0, 1) := by decide +kernel
theorem dX12_readItem_142 : decode cX12_readItem 142 = .ok (.bipush 59, 2) := by decide +kernel
theorem dX12_readItem_144 : decode cX12_readItem 144 = .ok (.invokevirtual 103, 3) := by decide +kernel
theorem dX12_readItem_147 : decode cX12_readItem 147 = .ok (.ifCond .eq 7, 3) := by decide +kernel
theorem dX12_readItem_150 : decode cX12_readItem 150 = .ok (.iconst 1, 1) := by decide +kernel
theorem dX12_readItem_151 : decode cX12_readItem 151 = .ok (.goto 4, 3) := by decide +kernel
theorem dX12_readItem_154 : decode cX12_readItem 154 = .ok (.iconst 0, 1) := by decide +kernel
theorem dX12_readItem_155 : decode cX12_readItem 155 = .ok (.ireturn, 1) := by decide +kernel
theorem dX12_readItem_156 : decode cX12_readItem 156 = .ok (.aload_n 0, 1) := by decide +kernel
theorem dX12_readItem_157 : decode cX12_readItem 157 = .ok (.iconst 5, 1) := by decide +kernel
theorem dX12_readItem_158 : decode cX12_readItem 158 = .ok (.iconst 1, 1) := by decide +kernel
theorem dX12_readItem_159 : decode cX12_readItem 159 = .ok (.bipush 40, 2) := by decide +kernel
theorem dX12_readItem_161 : decode cX12_readItem 161 = .ok (.invokevirtual 107, 3) := by decide +kernel
theorem dX12_readItem_164 : decode cX12_readItem 164 = .ok (.ifCond .eq 16, 3) := by decide +kernel
theorem dX12_readItem_167 : decode cX12_readItem 167 = .ok (.aload_n 0, 1) := by decide +kernel
theorem dX12_readItem_168 : decode cX12_readItem 168 = .ok (.bipush 59, 2) := by decide +kernel
theorem dX12_readItem_170 : decode cX12_readItem 170 = .ok (.invokevirtual 103, 3) := by decide +kernel
theorem dX12_readItem_173 : decode cX12_readItem 173 = .ok (.ifCond .eq 7, 3) := by decide +kernel
theorem dX12_readItem_176 : decode cX12_readItem 176 = .ok (.iconst 1, 1) := by decide +kernel
theorem dX12_readItem_177 : decode cX12_readItem 177 = .ok (.goto 4, 3) := by decide +kernel
theorem dX12_readItem_180 : decode cX12_readItem 180 = .ok (.iconst 0, 1) := by decide +kernel
theorem dX12_readItem_181 : decode cX12_readItem 181 = .ok (.ireturn, 1) := by decide +kernel
theorem dX12_readItem_182 : decode cX12_readItem 182 = .ok (.aload_n 0, 1) := by decide +kernel
theorem dX12_readItem_183 : decode cX12_readItem 183 = .ok (.bipush 6, 2) := by decide +kernel
theorem dX12_readItem_185 : decode cX12_readItem 185 = .ok (.iconst 0, 1) := by decide +kernel
theorem dX12_readItem_186 : decode cX12_readItem 186 = .ok (.sipush 9999, 3) := by decide +kernel
theorem dX12_readItem_189 : decode cX12_readItem 189 = .ok (.invokevirtual 107, 3) := by decide +kernel
theorem dX12_readItem_192 : decode cX12_readItem 192 = .ok (.ifCond .eq 16, 3) := by decide +kernel
theorem dX12_readItem_195 : decode cX12_readItem 195 = .ok (.aload_n 0, 1) := by decide +kernel
theorem dX12_readItem_196 : decode cX12_readItem 196 = .ok (.bipush 59, 2) := by decide +kernel
theorem dX12_readItem_198 : decode cX12_readItem 198 = .ok (.invokevirtual 103, 3) := by decide +kernel
theorem dX12_readItem_201 : decode cX12_readItem 201 = .ok (.ifCond .eq 7, 3) := by decide +kernel
theorem dX12_readItem_204 : decode cX12_readItem 204 = .ok (.iconst 1, 1) := by decide +kernel
theorem dX12_readItem_205 : decode cX12_readItem 205 = .ok (.goto 4, 3) := by decide +kernel
theorem dX12_readItem_208 : decode cX12_readItem 208 = .ok (.iconst 0, 1) := by decide +kernel
theorem dX12_readItem_209 : decode cX12_readItem 209 = .ok (.ireturn, 1) := by decide +kernel
theorem dX12_readItem_210 : decode cX12_readItem 210 = .ok (.aload_n 0, 1) := by decide +kernel
theorem dX12_readItem_211 : decode cX12_readItem 211 = .ok (.invokevirtual 147, 3) := by decide +kernel
theorem dX12_readItem_214 : decode cX12_readItem 214 = .ok (.ifCond .eq 16, 3) := by decide +kernel
theorem dX12_readItem_217 : decode cX12_readItem 217 = .ok (.aload_n 0, 1) := by decide +kernel
theorem dX12_readItem_218 : decode cX12_readItem 218 = .ok (.bipush 59, 2) := by decide +kernel
theorem dX12_readItem_220 : decode cX12_readItem 220 = .ok (.invokevirtual 103, 3) := by decide +kernel
theorem dX12_readItem_223 : decode cX12_readItem 223 = .ok (.ifCond .eq 7, 3) := by decide +kernel
theorem dX12_readItem_226 : decode cX12_readItem 226 = .ok (.iconst 1, 1) := by decide +kernel
theorem dX12_readItem_227 : decode cX12_readItem 227 = .ok (.goto 4, 3) := by decide +kernel
theorem dX12_readItem_230 : decode cX12_readItem 230 = .ok (.iconst 0, 1) := by decide +kernel
theorem dX12_readItem_231 : decode cX12_readItem 231 = .ok (.ireturn, 1) := by decide +kernel
theorem dX12_readItem_232 : decode cX12_readItem 232 = .ok (.aload_n 0, 1) := by decide +kernel
theorem dX12_readItem_233 : decode cX12_readItem 233 = .ok (.aload_n 0, 1) := by decide +kernel
theorem dX12_readItem_234 : decode cX12_readItem 234 = .ok (.getfield 82, 3) := by decide +kernel
theorem dX12_readItem_237 : decode cX12_readItem 237 = .ok (.iconst 1, 1) := by decide +kernel
theorem dX12_readItem_238 : decode cX12_readItem 238 = .ok (.isub, 1) := by decide +kernel
theorem dX12_readItem_239 : decode cX12_readItem 239 = .ok (.invokevirtual 89, 3) := by decide +kernel
theorem dX12_readItem_242 : decode cX12_readItem 242 = .ok (.ireturn, 1) := by decide +kernel
theorem dX12_beginText_0 : decode cX12_beginText 0 = .ok (.aload_n 0, 1) := by decide +kernel
theorem dX12_beginText_1 : decode cX12_beginText 1 = .ok (.iconst 0, 1) := by decide +kernel
theorem dX12_beginText_2 : decode cX12_beginText 2 = .ok (.putfield 82, 3) := by decide +kernel
theorem dX12_beginText_5 : decode cX12_beginText 5 = .ok (.aload_n 0, 1) := by decide +kernel
theorem dX12_beginText_6 : decode cX12_beginText 6 = .ok (.iconst (-1), 1) := by decide +kernel
theorem dX12_beginText_7 : decode cX12_beginText 7 = .ok (.putfield 22, 3) := by decide +kernel
theorem dX12_beginText_10 : decode cX12_beginText 10 = .ok (.return_, 1) := by decide +kernel
theorem dX12_readOffer_0 : decode cX12_readOffer 0 = .ok (.sipush 3572, 3) := by decide +kernel
theorem dX12_readOffer_3 : decode cX12_readOffer 3 = .ok (.iconst 4, 1) := by decide +kernel
theorem dX12_readOffer_4 : decode cX12_readOffer 4 = .ok (.aload_n 0, 1) := by decide +kernel
theorem dX12_readOffer_5 : decode cX12_readOffer 5 = .ok (.getfield 3, 3) := by decide +kernel
theorem dX12_readOffer_8 : decode cX12_readOffer 8 = .ok (.sipush 3570, 3) := by decide +kernel
theorem dX12_readOffer_11 : decode cX12_readOffer 11 = .ok (.iaload, 1) := by decide +kernel
theorem dX12_readOffer_12 : decode cX12_readOffer 12 = .ok (.imul, 1) := by decide +kernel
theorem dX12_readOffer_13 : decode cX12_readOffer 13 = .ok (.iadd, 1) := by decide +kernel
theorem dX12_readOffer_14 : decode cX12_readOffer 14 = .ok (.istore_n 1, 1) := by decide +kernel
theorem dX12_readOffer_15 : decode cX12_readOffer 15 = .ok (.aload_n 0, 1) := by decide +kernel
theorem dX12_readOffer_16 : decode cX12_readOffer 16 = .ok (.getfield 3, 3) := by decide +kernel
theorem dX12_readOffer_19 : decode cX12_readOffer 19 = .ok (.sipush 3570, 3) := by decide +kernel
theorem dX12_readOffer_22 : decode cX12_readOffer 22 = .ok (.iaload, 1) := by decide +kernel
theorem dX12_readOffer_23 : decode cX12_readOffer 23 = .ok (.bipush 12, 2) := by decide +kernel
theorem dX12_readOffer_25 : decode cX12_readOffer 25 = .ok (.if_icmp .ne 12, 3) := by decide +kernel
theorem dX12_readOffer_28 : decode cX12_readOffer 28 = .ok (.aload_n 0, 1) := by decide +kernel
theorem dX12_readOffer_29 : decode cX12_readOffer 29 = .ok (.aload_n 0, 1) := by decide +kernel
theorem dX12_readOffer_30 : decode cX12_readOffer 30 = .ok (.getfield 82, 3) := by decide +kernel
theorem dX12_readOffer_33 : decode cX12_readOffer 33 = .ok (.invokevirtual 89, 3) := by decide +kernel
theorem dX12_readOffer_36 : decode cX12_readOffer 36 = .ok (.ireturn, 1) := by decide +kernel
theorem dX12_readOffer_37 : decode cX12_readOffer 37 = .ok (.aload_n 0, 1) := by decide +kernel
theorem dX12_readOffer_38 : decode cX12_readOffer 38 = .ok (.iload_n 1, 1) := by decide +kernel
theorem dX12_readOffer_39 : decode cX12_readOffer 39 = .ok (.iconst 1, 1) := by decide +kernel
theorem dX12_readOffer_40 : decode cX12_readOffer 40 = .ok (.sipush 9999, 3) := by decide +kernel
theorem dX12_readOffer_43 : decode cX12_readOffer 43 = .ok (.invokevirtual 107, 3) := by decide +kernel
theorem dX12_readOffer_46 : decode cX12_readOffer 46 = .ok (.ifCond .eq 75, 3) := by decide +kernel
theorem dX12_readOffer_49 : decode cX12_readOffer 49 = .ok (.aload_n 0, 1) := by decide +kernel
theorem dX12_readOffer_50 : decode cX12_readOffer 50 = .ok (.bipush 44, 2) := by decide +kernel
theorem dX12_readOffer_52 : decode cX12_readOffer 52 = .ok (.invokevirtual 103, 3) := by decide +kernel
theorem dX12_readOffer_55 : decode cX12_readOffer 55 = .ok (.ifCond .eq 66, 3) := by decide +kernel
theorem dX12_readOffer_58 : decode cX12_readOffer 58 = .ok (.aload_n 0, 1) := by decide +kernel
theorem dX12_readOffer_59 : decode cX12_readOffer 59 = .ok (.iload_n 1, 1) := by decide +kernel
theorem dX12_readOffer_60 : decode cX12_readOffer 60 = .ok (.iconst 1, 1) := by decide +kernel
theorem dX12_readOffer_61 : decode cX12_readOffer 61 = .ok (.iadd, 1) := by decide +kernel
theorem dX12_readOffer_62 : decode cX12_readOffer 62 = .ok (.iconst 1, 1) := by decide +kernel
theorem dX12_readOffer_63 : decode cX12_readOffer 63 = .ok (.bipush 6, 2) := by decide +kernel
theorem dX12_readOffer_65 : decode cX12_readOffer 65 = .ok (.invokevirtual 107, 3) := by decide +kernel
theorem dX12_readOffer_68 : decode cX12_readOffer 68 = .ok (.ifCond .eq 53, 3) := by decide +kernel
theorem dX12_readOffer_71 : decode cX12_readOffer 71 = .ok (.aload_n 0, 1) := by decide +kernel
theorem dX12_readOffer_72 : decode cX12_readOffer 72 = .ok (.bipush 44, 2) := by decide +kernel
theorem dX12_readOffer_74 : decode cX12_readOffer 74 = .ok (.invokevirtual 103, 3) := by decide +kernel
theorem dX12_readOffer_77 : decode cX12_readOffer 77 = .ok (.ifCond .eq 44, 3) := by decide +kernel
theorem dX12_readOffer_80 : decode cX12_readOffer 80 = .ok (.aload_n 0, 1) := by decide +kernel
theorem dX12_readOffer_81 : decode cX12_readOffer 81 = .ok (.iload_n 1, 1) := by decide +kernel
theorem dX12_readOffer_82 : decode cX12_readOffer 82 = .ok (.iconst 2, 1) := by decide +kernel
theorem dX12_readOffer_83 : decode cX12_readOffer 83 = .ok (.iadd, 1) := by decide +kernel
theorem dX12_readOffer_84 : decode cX12_readOffer 84 = .ok (.iconst 0, 1) := by decide +kernel
theorem dX12_readOffer_85 : decode cX12_readOffer 85 = .ok (.ldc 135, 2) := by decide +kernel
theorem dX12_readOffer_87 : decode cX12_readOffer 87 = .ok (.invokevirtual 107, 3) := by decide +kernel
theorem dX12_readOffer_90 : decode cX12_readOffer 90 = .ok (.ifCond .eq 31, 3) := by decide +kernel
theorem dX12_readOffer_93 : decode cX12_readOffer 93 = .ok (.aload_n 0, 1) := by decide +kernel
theorem dX12_readOffer_94 : decode cX12_readOffer 94 = .ok (.bipush 44, 2) := by decide +kernel
theorem dX12_readOffer_96 : decode cX12_readOffer 96 = .ok (.invokevirtual 103, 3) := by decide +kernel
theorem dX12_readOffer_99 : decode cX12_readOffer 99 = .ok (.ifCond .eq 22, 3) := by decide +kernel
theorem dX12_readOffer_102 : decode cX12_readOffer 102 = .ok (.aload_n 0, 1) := by decide +kernel
theorem dX12_readOffer_103 : decode cX12_readOffer 103 = .ok (.iload_n 1, 1) := by decide +kernel
theorem dX12_readOffer_104 : decode cX12_readOffer 104 = .ok (.iconst 3, 1) := by decide +kernel
theorem dX12_readOffer_105 : decode cX12_readOffer 105 = .ok (.iadd, 1) := by decide +kernel
theorem dX12_readOffer_106 : decode cX12_readOffer 106 = .ok (.aload_n 0, 1) := by decide +kernel
theorem dX12_readOffer_107 : decode cX12_readOffer 107 = .ok (.getfield 3, 3) := by decide +kernel
theorem dX12_readOffer_110 : decode cX12_readOffer 110 = .ok (.bipush 6, 2) := by decide +kernel
theorem dX12_readOffer_112 : decode cX12_readOffer 112 = .ok (.iaload, 1) := by decide +kernel
theorem dX12_readOffer_113 : decode cX12_readOffer 113 = .ok (.ldc 135, 2) := by decide +kernel
theorem dX12_readOffer_115 : decode cX12_readOffer 115 = .ok (.invokevirtual 107, 3) := by decide +kernel
theorem dX12_readOffer_118 : decode cX12_readOffer 118 = .ok (.ifCond .ne 5, 3) := by decide +kernel
theorem dX12_readOffer_121 : decode cX12_readOffer 121 = .ok (.iconst 0, 1) := by decide +kernel
theorem dX12_readOffer_122 : decode cX12_readOffer 122 = .ok (.ireturn, 1) := by decide +kernel
theorem dX12_readOffer_123 : decode cX12_readOffer 123 = .ok (.aload_n 0, 1) := by decide +kernel
theorem dX12_readOffer_124 : decode cX12_readOffer 124 = .ok (.getfield 3, 3) := by decide +kernel
theorem dX12_readOffer_127 : decode cX12_readOffer 127 = .ok (.sipush 3570, 3) := by decide +kernel
theorem dX12_readOffer_130 : decode cX12_readOffer 130 = .ok (.dup2, 1) := by decide +kernel
theorem dX12_readOffer_131 : decode cX12_readOffer 131 = .ok (.iaload, 1) := by decide +kernel
theorem dX12_readOffer_132 : decode cX12_readOffer 132 = .ok (.iconst 1, 1) := by decide +kernel
theorem dX12_readOffer_133 : decode cX12_readOffer 133 = .ok (.iadd, 1) := by decide +kernel
theorem dX12_readOffer_134 : decode cX12_readOffer 134 = .ok (.iastore, 1) := by decide +kernel
theorem dX12_readOffer_135 : decode cX12_readOffer 135 = .ok (.aload_n 0, 1) := by decide +kernel
theorem dX12_readOffer_136 : decode cX12_readOffer 136 = .ok (.bipush 59, 2) := by decide +kernel
theorem dX12_readOffer_138 : decode cX12_readOffer 138 = .ok (.invokevirtual 103, 3) := by decide +kernel
theorem dX12_readOffer_141 : decode cX12_readOffer 141 = .ok (.ireturn, 1) := by decide +kernel
theorem dX12_market_0 : decode cX12_market 0 = .ok (.aload_n 0, 1) := by decide +kernel
theorem dX12_market_1 : decode cX12_market 1 = .ok (.iconst 0, 1) := by decide +kernel
theorem dX12_market_2 : decode cX12_market 2 = .ok (.bipush 11, 2) := by decide +kernel
theorem dX12_market_4 : decode cX12_market 4 = .ok (.invokevirtual 64, 3) := by decide +kernel
theorem dX12_market_7 : decode cX12_market 7 = .ok (.aload_n 0, 1) := by decide +kernel
theorem dX12_market_8 : decode cX12_market 8 = .ok (.invokevirtual 150, 3) := by decide +kernel
theorem dX12_market_11 : decode cX12_market 11 = .ok (.aload_n 0, 1) := by decide +kernel
theorem dX12_market_12 : decode cX12_market 12 = .ok (.getfield 3, 3) := by decide +kernel
theorem dX12_market_15 : decode cX12_market 15 = .ok (.sipush 3570, 3) := by decide +kernel
theorem dX12_market_18 : decode cX12_market 18 = .ok (.iconst 0, 1) := by decide +kernel
theorem dX12_market_19 : decode cX12_market 19 = .ok (.iastore, 1) := by decide +kernel
theorem dX12_market_20 : decode cX12_market 20 = .ok (.aload_n 0, 1) := by decide +kernel
theorem dX12_market_21 : decode cX12_market 21 = .ok (.getfield 22, 3) := by decide +kernel
theorem dX12_market_24 : decode cX12_market 24 = .ok (.iconst (-1), 1) := by decide +kernel
theorem dX12_market_25 : decode cX12_market 25 = .ok (.if_icmp .ne 32, 3) := by decide +kernel
theorem dX12_market_28 : decode cX12_market 28 = .ok (.aload_n 0, 1) := by decide +kernel
theorem dX12_market_29 : decode cX12_market 29 = .ok (.getfield 82, 3) := by decide +kernel
theorem dX12_market_32 : decode cX12_market 32 = .ok (.aload_n 0, 1) := by decide +kernel
theorem dX12_market_33 : decode cX12_market 33 = .ok (.getfield 76, 3) := by decide +kernel
theorem dX12_market_36 : decode cX12_market 36 = .ok (.if_icmp .ge 21, 3) := by decide +kernel
theorem dX12_market_39 : decode cX12_market 39 = .ok (.aload_n 0, 1) := by decide +kernel
theorem dX12_market_40 : decode cX12_market 40 = .ok (.invokevirtual 153, 3) := by decide +kernel
theorem dX12_market_43 : decode cX12_market 43 = .ok (.ifCond .ne (-23), 3) := by decide +kernel
theorem dX12_market_46 : decode cX12_market 46 = .ok (.aload_n 0, 1) := by decide +kernel
theorem dX12_market_47 : decode cX12_market 47 = .ok (.aload_n 0, 1) := by decide +kernel
theorem dX12_market_48 : decode cX12_market 48 = .ok (.getfield 76, 3) := by decide +kernel
theorem dX12_market_51 : decode cX12_market 51 = .ok (.putfield 82, 3) := by decide +kernel
theorem dX12_market_54 : decode cX12_market 54 = .ok (.goto (-34), 3) := by decide +kernel
theorem dX12_market_57 : decode cX12_market 57 = .ok (.aload_n 0, 1) := by decide +kernel
theorem dX12_market_58 : decode cX12_market 58 = .ok (.invokevirtual 156, 3) := by decide +kernel
theorem dX12_market_61 : decode cX12_market 61 = .ok (.ifCond .eq 18, 3) := by decide +kernel
theorem dX12_market_64 : decode cX12_market 64 = .ok (.aload_n 0, 1) := by decide +kernel
theorem dX12_market_65 : decode cX12_market 65 = .ok (.bipush 11, 2) := by decide +kernel
theorem dX12_market_67 : decode cX12_market 67 = .ok (.invokevirtual 72, 3) := by decide +kernel
theorem dX12_market_70 : decode cX12_market 70 = .ok (.aload_n 0, 1) := by decide +kernel
theorem dX12_market_71 : decode cX12_market 71 = .ok (.getfield 3, 3) := by decide +kernel
theorem dX12_market_74 : decode cX12_market 74 = .ok (.sipush 3570, 3) := by decide +kernel
theorem dX12_market_77 : decode cX12_market 77 = .ok (.iaload, 1) := by decide +kernel
theorem dX12_market_78 : decode cX12_market 78 = .ok (.ireturn, 1) := by decide +kernel
theorem dX12_market_79 : decode cX12_market 79 = .ok (.aload_n 0, 1) := by decide +kernel
theorem dX12_market_80 : decode cX12_market 80 = .ok (.bipush 11, 2) := by decide +kernel
theorem dX12_market_82 : decode cX12_market 82 = .ok (.iconst 0, 1) := by decide +kernel
theorem dX12_market_83 : decode cX12_market 83 = .ok (.invokevirtual 64, 3) := by decide +kernel
theorem dX12_market_86 : decode cX12_market 86 = .ok (.iconst (-1), 1) := by decide +kernel
theorem dX12_market_87 : decode cX12_market 87 = .ok (.ireturn, 1) := by decide +kernel
theorem dX12_ends_0 : decode cX12_ends 0 = .ok (.aload_n 0, 1) := by decide +kernel
theorem dX12_ends_1 : decode cX12_ends 1 = .ok (.iconst 0, 1) := by decide +kernel
theorem dX12_ends_2 : decode cX12_ends 2 = .ok (.putfield 76, 3) := by decide +kernel
theorem dX12_ends_5 : decode cX12_ends 5 = .ok (.aload_n 0, 1) := by decide +kernel
theorem dX12_ends_6 : decode cX12_ends 6 = .ok (.getfield 22, 3) := by decide +kernel
theorem dX12_ends_9 : decode cX12_ends 9 = .ok (.iconst (-1), 1) := by decide +kernel
theorem dX12_ends_10 : decode cX12_ends 10 = .ok (.if_icmp .ne 7, 3) := by decide +kernel
theorem dX12_ends_13 : decode cX12_ends 13 = .ok (.iconst 1, 1) := by decide +kernel
theorem dX12_ends_14 : decode cX12_ends 14 = .ok (.goto 4, 3) := by decide +kernel
theorem dX12_ends_17 : decode cX12_ends 17 = .ok (.iconst 0, 1) := by decide +kernel
theorem dX12_ends_18 : decode cX12_ends 18 = .ok (.ireturn, 1) := by decide +kernel
theorem dX12_text_0 : decode cX12_text 0 = .ok (.aload_n 0, 1) := by decide +kernel
theorem dX12_text_1 : decode cX12_text 1 = .ok (.iconst 0, 1) := by decide +kernel
theorem dX12_text_2 : decode cX12_text 2 = .ok (.bipush 11, 2) := by decide +kernel
theorem dX12_text_4 : decode cX12_text 4 = .ok (.invokevirtual 64, 3) := by decide +kernel
theorem dX12_text_7 : decode cX12_text 7 = .ok (.aload_n 0, 1) := by decide +kernel
theorem dX12_text_8 : decode cX12_text 8 = .ok (.invokevirtual 150, 3) := by decide +kernel
theorem dX12_text_11 : decode cX12_text 11 = .ok (.iconst 0, 1) := by decide +kernel
theorem dX12_text_12 : decode cX12_text 12 = .ok (.istore_n 1, 1) := by decide +kernel
theorem dX12_text_13 : decode cX12_text 13 = .ok (.aload_n 0, 1) := by decide +kernel
theorem dX12_text_14 : decode cX12_text 14 = .ok (.getfield 22, 3) := by decide +kernel
theorem dX12_text_17 : decode cX12_text 17 = .ok (.iconst (-1), 1) := by decide +kernel
theorem dX12_text_18 : decode cX12_text 18 = .ok (.if_icmp .ne 27, 3) := by decide +kernel
theorem dX12_text_21 : decode cX12_text 21 = .ok (.aload_n 0, 1) := by decide +kernel
theorem dX12_text_22 : decode cX12_text 22 = .ok (.getfield 82, 3) := by decide +kernel
theorem dX12_text_25 : decode cX12_text 25 = .ok (.aload_n 0, 1) := by decide +kernel
theorem dX12_text_26 : decode cX12_text 26 = .ok (.getfield 76, 3) := by decide +kernel
theorem dX12_text_29 : decode cX12_text 29 = .ok (.if_icmp .ge 16, 3) := by decide +kernel
theorem dX12_text_32 : decode cX12_text 32 = .ok (.aload_n 0, 1) := by decide +kernel
theorem dX12_text_33 : decode cX12_text 33 = .ok (.invokevirtual 159, 3) := by decide +kernel
theorem dX12_text_36 : decode cX12_text 36 = .ok (.ifCond .eq (-23), 3) := by decide +kernel
theorem dX12_text_39 : decode cX12_text 39 = .ok (.iinc 1 1, 3) := by decide +kernel
theorem dX12_text_42 : decode cX12_text 42 = .ok (.goto (-29), 3) := by decide +kernel
theorem dX12_text_45 : decode cX12_text 45 = .ok (.aload_n 0, 1) := by decide +kernel
theorem dX12_text_46 : decode cX12_text 46 = .ok (.invokevirtual 156, 3) := by decide +kernel
theorem dX12_text_49 : decode cX12_text 49 = .ok (.ifCond .eq 11, 3) := by decide +kernel
theorem dX12_text_52 : decode cX12_text 52 = .ok (.aload_n 0, 1) := by decide +kernel
theorem dX12_text_53 : decode cX12_text 53 = .ok (.bipush 11, 2) := by decide +kernel
theorem dX12_text_55 : decode cX12_text 55 = .ok (.invokevirtual 72, 3) := by decide +kernel
theorem dX12_text_58 : decode cX12_text 58 = .ok (.iload_n 1, 1) := by decide +kernel
theorem dX12_text_59 : decode cX12_text 59 = .ok (.ireturn, 1) := by decide +kernel
theorem dX12_text_60 : decode cX12_text 60 = .ok (.aload_n 0, 1) := by decide +kernel
theorem dX12_text_61 : decode cX12_text 61 = .ok (.bipush 11, 2) := by decide +kernel
theorem dX12_text_63 : decode cX12_text 63 = .ok (.iconst 0, 1) := by decide +kernel
theorem dX12_text_64 : decode cX12_text 64 = .ok (.invokevirtual 64, 3) := by decide +kernel
theorem dX12_text_67 : decode cX12_text 67 = .ok (.iconst (-1), 1) := by decide +kernel
theorem dX12_text_68 : decode cX12_text 68 = .ok (.ireturn, 1) := by decide +kernel
theorem dX12_does_0 : decode cX12_does 0 = .ok (.aload_n 0, 1) := by decide +kernel
theorem dX12_does_1 : decode cX12_does 1 = .ok (.getfield 26, 3) := by decide +kernel
theorem dX12_does_4 : decode cX12_does 4 = .ok (.aload_n 0, 1) := by decide +kernel
theorem dX12_does_5 : decode cX12_does 5 = .ok (.getfield 162, 3) := by decide +kernel
theorem dX12_does_8 : decode cX12_does 8 = .ok (.iload_n 1, 1) := by decide +kernel
theorem dX12_does_9 : decode cX12_does 9 = .ok (.iastore, 1) := by decide +kernel
theorem dX12_does_10 : decode cX12_does 10 = .ok (.aload_n 0, 1) := by decide +kernel
theorem dX12_does_11 : decode cX12_does 11 = .ok (.dup, 1) := by decide +kernel
theorem dX12_does_12 : decode cX12_does 12 = .ok (.getfield 162, 3) := by decide +kernel
theorem dX12_does_15 : decode cX12_does 15 = .ok (.iconst 1, 1) := by decide +kernel
theorem dX12_does_16 : decode cX12_does 16 = .ok (.iadd, 1) := by decide +kernel
theorem dX12_does_17 : decode cX12_does 17 = .ok (.putfield 162, 3) := by decide +kernel
theorem dX12_does_20 : decode cX12_does 20 = .ok (.return_, 1) := by decide +kernel
theorem dX12_nameOf_0 : decode cX12_nameOf 0 = .ok (.iload_n 0, 1) := by decide +kernel
theorem dX12_nameOf_1 : decode cX12_nameOf 1 = .ok (.bipush 104, 2) := by decide +kernel
theorem dX12_nameOf_3 : decode cX12_nameOf 3 = .ok (.if_icmp .ne 7, 3) := by decide +kernel
theorem dX12_nameOf_6 : decode cX12_nameOf 6 = .ok (.iconst 0, 1) := by decide +kernel
theorem dX12_nameOf_7 : decode cX12_nameOf 7 = .ok (.goto 54, 3) := by decide +kernel
theorem dX12_nameOf_10 : decode cX12_nameOf 10 = .ok (.iload_n 0, 1) := by decide +kernel
theorem dX12_nameOf_11 : decode cX12_nameOf 11 = .ok (.bipush 120, 2) := by decide +kernel
theorem dX12_nameOf_13 : decode cX12_nameOf 13 = .ok (.if_icmp .ne 7, 3) := by decide +kernel
theorem dX12_nameOf_16 : decode cX12_nameOf 16 = .ok (.iconst 1, 1) := by decide +kernel
theorem dX12_nameOf_17 : decode cX12_nameOf 17 = .ok (.goto 44, 3) := by decide +kernel
theorem dX12_nameOf_20 : decode cX12_nameOf 20 = .ok (.iload_n 0, 1) := by decide +kernel
theorem dX12_nameOf_21 : decode cX12_nameOf 21 = .ok (.bipush 115, 2) := by decide +kernel
theorem dX12_nameOf_23 : decode cX12_nameOf 23 = .ok (.if_icmp .ne 7, 3) := by decide +kernel
theorem dX12_nameOf_26 : decode cX12_nameOf 26 = .ok (.iconst 2, 1) := by decide +kernel
theorem dX12_nameOf_27 : decode cX12_nameOf 27 = .ok (.goto 34, 3) := by decide +kernel
theorem dX12_nameOf_30 : decode cX12_nameOf 30 = .ok (.iload_n 0, 1) := by decide +kernel
theorem dX12_nameOf_31 : decode cX12_nameOf 31 = .ok (.bipush 121, 2) := by decide +kernel
theorem dX12_nameOf_33 : decode cX12_nameOf 33 = .ok (.if_icmp .ne 7, 3) := by decide +kernel
theorem dX12_nameOf_36 : decode cX12_nameOf 36 = .ok (.iconst 3, 1) := by decide +kernel
theorem dX12_nameOf_37 : decode cX12_nameOf 37 = .ok (.goto 24, 3) := by decide +kernel
theorem dX12_nameOf_40 : decode cX12_nameOf 40 = .ok (.iload_n 0, 1) := by decide +kernel
theorem dX12_nameOf_41 : decode cX12_nameOf 41 = .ok (.bipush 98, 2) := by decide +kernel
theorem dX12_nameOf_43 : decode cX12_nameOf 43 = .ok (.if_icmp .ne 7, 3) := by decide +kernel
theorem dX12_nameOf_46 : decode cX12_nameOf 46 = .ok (.iconst 4, 1) := by decide +kernel
theorem dX12_nameOf_47 : decode cX12_nameOf 47 = .ok (.goto 14, 3) := by decide +kernel
theorem dX12_nameOf_50 : decode cX12_nameOf 50 = .ok (.iload_n 0, 1) := by decide +kernel
theorem dX12_nameOf_51 : decode cX12_nameOf 51 = .ok (.bipush 110, 2) := by decide +kernel
theorem dX12_nameOf_53 : decode cX12_nameOf 53 = .ok (.if_icmp .ne 7, 3) := by decide +kernel
theorem dX12_nameOf_56 : decode cX12_nameOf 56 = .ok (.iconst 5, 1) := by decide +kernel
theorem dX12_nameOf_57 : decode cX12_nameOf 57 = .ok (.goto 4, 3) := by decide +kernel
theorem dX12_nameOf_60 : decode cX12_nameOf 60 = .ok (.iconst (-1), 1) := by decide +kernel
theorem dX12_nameOf_61 : decode cX12_nameOf 61 = .ok (.ireturn, 1) := by decide +kernel
theorem dX12_rankOf_0 : decode cX12_rankOf 0 = .ok (.iload_n 0, 1) := by decide +kernel
theorem dX12_rankOf_1 : decode cX12_rankOf 1 = .ok (.bipush 42, 2) := by decide +kernel
theorem dX12_rankOf_3 : decode cX12_rankOf 3 = .ok (.if_icmp .ne 7, 3) := by decide +kernel
theorem dX12_rankOf_6 : decode cX12_rankOf 6 = .ok (.iconst 2, 1) := by decide +kernel
theorem dX12_rankOf_7 : decode cX12_rankOf 7 = .ok (.goto 20, 3) := by decide +kernel
theorem dX12_rankOf_10 : decode cX12_rankOf 10 = .ok (.iload_n 0, 1) := by decide +kernel
theorem dX12_rankOf_11 : decode cX12_rankOf 11 = .ok (.bipush 43, 2) := by decide +kernel
theorem dX12_rankOf_13 : decode cX12_rankOf 13 = .ok (.if_icmp .eq 9, 3) := by decide +kernel
theorem dX12_rankOf_16 : decode cX12_rankOf 16 = .ok (.iload_n 0, 1) := by decide +kernel
theorem dX12_rankOf_17 : decode cX12_rankOf 17 = .ok (.bipush 45, 2) := by decide +kernel
theorem dX12_rankOf_19 : decode cX12_rankOf 19 = .ok (.if_icmp .ne 7, 3) := by decide +kernel
theorem dX12_rankOf_22 : decode cX12_rankOf 22 = .ok (.iconst 1, 1) := by decide +kernel
theorem dX12_rankOf_23 : decode cX12_rankOf 23 = .ok (.goto 4, 3) := by decide +kernel
theorem dX12_rankOf_26 : decode cX12_rankOf 26 = .ok (.iconst 0, 1) := by decide +kernel
theorem dX12_rankOf_27 : decode cX12_rankOf 27 = .ok (.ireturn, 1) := by decide +kernel
theorem dX12_doesWaiting_0 : decode cX12_doesWaiting 0 = .ok (.aload_n 0, 1) := by decide +kernel
theorem dX12_doesWaiting_1 : decode cX12_doesWaiting 1 = .ok (.getfield 165, 3) := by decide +kernel
theorem dX12_doesWaiting_4 : decode cX12_doesWaiting 4 = .ok (.ifCond .le 50, 3) := by decide +kernel
theorem dX12_doesWaiting_7 : decode cX12_doesWaiting 7 = .ok (.aload_n 0, 1) := by decide +kernel
theorem dX12_doesWaiting_8 : decode cX12_doesWaiting 8 = .ok (.getfield 29, 3) := by decide +kernel
theorem dX12_doesWaiting_11 : decode cX12_doesWaiting 11 = .ok (.aload_n 0, 1) := by decide +kernel
theorem dX12_doesWaiting_12 : decode cX12_doesWaiting 12 = .ok (.getfield 165, 3) := by decide +kernel
theorem dX12_doesWaiting_15 : decode cX12_doesWaiting 15 = .ok (.iconst 1, 1) := by decide +kernel
theorem dX12_doesWaiting_16 : decode cX12_doesWaiting 16 = .ok (.isub, 1) := by decide +kernel
theorem dX12_doesWaiting_17 : decode cX12_doesWaiting 17 = .ok (.iaload, 1) := by decide +kernel
theorem dX12_doesWaiting_18 : decode cX12_doesWaiting 18 = .ok (.invokestatic 168, 3) := by decide +kernel
theorem dX12_doesWaiting_21 : decode cX12_doesWaiting 21 = .ok (.iload_n 1, 1) := by decide +kernel
theorem dX12_doesWaiting_22 : decode cX12_doesWaiting 22 = .ok (.if_icmp .lt 32, 3) := by decide +kernel
theorem dX12_doesWaiting_25 : decode cX12_doesWaiting 25 = .ok (.aload_n 0, 1) := by decide +kernel
theorem dX12_doesWaiting_26 : decode cX12_doesWaiting 26 = .ok (.dup, 1) := by decide +kernel
theorem dX12_doesWaiting_27 : decode cX12_doesWaiting 27 = .ok (.getfield 165, 3) := by decide +kernel
theorem dX12_doesWaiting_30 : decode cX12_doesWaiting 30 = .ok (.iconst 1, 1) := by decide +kernel
theorem dX12_doesWaiting_31 : decode cX12_doesWaiting 31 = .ok (.isub, 1) := by decide +kernel
theorem dX12_doesWaiting_32 : decode cX12_doesWaiting 32 = .ok (.putfield 165, 3) := by decide +kernel
theorem dX12_doesWaiting_35 : decode cX12_doesWaiting 35 = .ok (.aload_n 0, 1) := by decide +kernel
theorem dX12_doesWaiting_36 : decode cX12_doesWaiting 36 = .ok (.ldc 171, 2) := by decide +kernel
theorem dX12_doesWaiting_38 : decode cX12_doesWaiting 38 = .ok (.aload_n 0, 1) := by decide +kernel
theorem dX12_doesWaiting_39 : decode cX12_doesWaiting 39 = .ok (.getfield 29, 3) := by decide +kernel
theorem dX12_doesWaiting_42 : decode cX12_doesWaiting 42 = .ok (.aload_n 0, 1) := by decide +kernel
theorem dX12_doesWaiting_43 : decode cX12_doesWaiting 43 = .ok (.getfield 165, 3) := by decide +kernel
theorem dX12_doesWaiting_46 : decode cX12_doesWaiting 46 = .ok (.iaload, 1) := by decide +kernel
theorem dX12_doesWaiting_47 : decode cX12_doesWaiting 47 = .ok (.iadd, 1) := by decide +kernel
theorem dX12_doesWaiting_48 : decode cX12_doesWaiting 48 = .ok (.invokevirtual 172, 3) := by decide +kernel
theorem dX12_doesWaiting_51 : decode cX12_doesWaiting 51 = .ok (.goto (-51), 3) := by decide +kernel
theorem dX12_doesWaiting_54 : decode cX12_doesWaiting 54 = .ok (.return_, 1) := by decide +kernel
theorem dX12_waitsFor_0 : decode cX12_waitsFor 0 = .ok (.aload_n 0, 1) := by decide +kernel
theorem dX12_waitsFor_1 : decode cX12_waitsFor 1 = .ok (.getfield 29, 3) := by decide +kernel
theorem dX12_waitsFor_4 : decode cX12_waitsFor 4 = .ok (.aload_n 0, 1) := by decide +kernel
theorem dX12_waitsFor_5 : decode cX12_waitsFor 5 = .ok (.getfield 165, 3) := by decide +kernel
theorem dX12_waitsFor_8 : decode cX12_waitsFor 8 = .ok (.iload_n 1, 1) := by decide +kernel
theorem dX12_waitsFor_9 : decode cX12_waitsFor 9 = .ok (.iastore, 1) := by decide +kernel
theorem dX12_waitsFor_10 : decode cX12_waitsFor 10 = .ok (.aload_n 0, 1) := by decide +kernel
theorem dX12_waitsFor_11 : decode cX12_waitsFor 11 = .ok (.dup, 1) := by decide +kernel
theorem dX12_waitsFor_12 : decode cX12_waitsFor 12 = .ok (.getfield 165, 3) := by decide +kernel
theorem dX12_waitsFor_15 : decode cX12_waitsFor 15 = .ok (.iconst 1, 1) := by decide +kernel
theorem dX12_waitsFor_16 : decode cX12_waitsFor 16 = .ok (.iadd, 1) := by decide +kernel
theorem dX12_waitsFor_17 : decode cX12_waitsFor 17 = .ok (.putfield 165, 3) := by decide +kernel
theorem dX12_waitsFor_20 : decode cX12_waitsFor 20 = .ok (.aload_n 0, 1) := by decide +kernel
theorem dX12_waitsFor_21 : decode cX12_waitsFor 21 = .ok (.dup, 1) := by decide +kernel
theorem dX12_waitsFor_22 : decode cX12_waitsFor 22 = .ok (.getfield 82, 3) := by decide +kernel
theorem dX12_waitsFor_25 : decode cX12_waitsFor 25 = .ok (.iconst 1, 1) := by decide +kernel
theorem dX12_waitsFor_26 : decode cX12_waitsFor 26 = .ok (.iadd, 1) := by decide +kernel
theorem dX12_waitsFor_27 : decode cX12_waitsFor 27 = .ok (.putfield 82, 3) := by decide +kernel
theorem dX12_waitsFor_30 : decode cX12_waitsFor 30 = .ok (.return_, 1) := by decide +kernel
theorem dX12_readThing_0 : decode cX12_readThing 0 = .ok (.aload_n 0, 1) := by decide +kernel
theorem dX12_readThing_1 : decode cX12_readThing 1 = .ok (.invokevirtual 85, 3) := by decide +kernel
theorem dX12_readThing_4 : decode cX12_readThing 4 = .ok (.bipush 40, 2) := by decide +kernel
theorem dX12_readThing_6 : decode cX12_readThing 6 = .ok (.if_icmp .ne 59, 3) := by decide +kernel
theorem dX12_readThing_9 : decode cX12_readThing 9 = .ok (.aload_n 0, 1) := by decide +kernel
theorem dX12_readThing_10 : decode cX12_readThing 10 = .ok (.getfield 175, 3) := by decide +kernel
theorem dX12_readThing_13 : decode cX12_readThing 13 = .ok (.bipush 40, 2) := by decide +kernel
theorem dX12_readThing_15 : decode cX12_readThing 15 = .ok (.if_icmp .eq 12, 3) := by decide +kernel
theorem dX12_readThing_18 : decode cX12_readThing 18 = .ok (.aload_n 0, 1) := by decide +kernel
theorem dX12_readThing_19 : decode cX12_readThing 19 = .ok (.getfield 178, 3) := by decide +kernel
theorem dX12_readThing_22 : decode cX12_readThing 22 = .ok (.bipush 6, 2) := by decide +kernel
theorem dX12_readThing_24 : decode cX12_readThing 24 = .ok (.if_icmp .ne 12, 3) := by decide +kernel
theorem dX12_readThing_27 : decode cX12_readThing 27 = .ok (.aload_n 0, 1) := by decide +kernel
theorem dX12_readThing_28 : decode cX12_readThing 28 = .ok (.aload_n 0, 1) := by decide +kernel
theorem dX12_readThing_29 : decode cX12_readThing 29 = .ok (.getfield 82, 3) := by decide +kernel
theorem dX12_readThing_32 : decode cX12_readThing 32 = .ok (.invokevirtual 89, 3) := by decide +kernel
theorem dX12_readThing_35 : decode cX12_readThing 35 = .ok (.ireturn, 1) := by decide +kernel
theorem dX12_readThing_36 : decode cX12_readThing 36 = .ok (.aload_n 0, 1) := by decide +kernel
theorem dX12_readThing_37 : decode cX12_readThing 37 = .ok (.dup, 1) := by decide +kernel
theorem dX12_readThing_38 : decode cX12_readThing 38 = .ok (.getfield 175, 3) := by decide +kernel
theorem dX12_readThing_41 : decode cX12_readThing 41 = .ok (.iconst 1, 1) := by decide +kernel
theorem dX12_readThing_42 : decode cX12_readThing 42 = .ok (.iadd, 1) := by decide +kernel
theorem dX12_readThing_43 : decode cX12_readThing 43 = .ok (.putfield 175, 3) := by decide +kernel
theorem dX12_readThing_46 : decode cX12_readThing 46 = .ok (.aload_n 0, 1) := by decide +kernel
theorem dX12_readThing_47 : decode cX12_readThing 47 = .ok (.dup, 1) := by decide +kernel
theorem dX12_readThing_48 : decode cX12_readThing 48 = .ok (.getfield 178, 3) := by decide +kernel
theorem dX12_readThing_51 : decode cX12_readThing 51 = .ok (.iconst 1, 1) := by decide +kernel
theorem dX12_readThing_52 : decode cX12_readThing 52 = .ok (.iadd, 1) := by decide +kernel
theorem dX12_readThing_53 : decode cX12_readThing 53 = .ok (.putfield 178, 3) := by decide +kernel
theorem dX12_readThing_56 : decode cX12_readThing 56 = .ok (.aload_n 0, 1) := by decide +kernel
theorem dX12_readThing_57 : decode cX12_readThing 57 = .ok (.bipush 40, 2) := by decide +kernel
theorem dX12_readThing_59 : decode cX12_readThing 59 = .ok (.invokevirtual 181, 3) := by decide +kernel
theorem dX12_readThing_62 : decode cX12_readThing 62 = .ok (.goto (-62), 3) := by decide +kernel
theorem dX12_readThing_65 : decode cX12_readThing 65 = .ok (.aload_n 0, 1) := by decide +kernel
theorem dX12_readThing_66 : decode cX12_readThing 66 = .ok (.invokevirtual 85, 3) := by decide +kernel
theorem dX12_readThing_69 : decode cX12_readThing 69 = .ok (.istore_n 1, 1) := by decide +kernel
theorem dX12_readThing_70 : decode cX12_readThing 70 = .ok (.iload_n 1, 1) := by decide +kernel
theorem dX12_readThing_71 : decode cX12_readThing 71 = .ok (.invokestatic 96, 3) := by decide +kernel
theorem dX12_readThing_74 : decode cX12_readThing 74 = .ok (.ifCond .ne 11, 3) := by decide +kernel
theorem dX12_readThing_77 : decode cX12_readThing 77 = .ok (.iload_n 1, 1) := by decide +kernel
theorem dX12_readThing_78 : decode cX12_readThing 78 = .ok (.invokestatic 184, 3) := by decide +kernel
theorem dX12_readThing_81 : decode cX12_readThing 81 = .ok (.iconst (-1), 1) := by decide +kernel
theorem dX12_readThing_82 : decode cX12_readThing 82 = .ok (.if_icmp .eq 12, 3) := by decide +kernel
theorem dX12_readThing_85 : decode cX12_readThing 85 = .ok (.aload_n 0, 1) := by decide +kernel
theorem dX12_readThing_86 : decode cX12_readThing 86 = .ok (.getfield 175, 3) := by decide +kernel
theorem dX12_readThing_89 : decode cX12_readThing 89 = .ok (.bipush 40, 2) := by decide +kernel
theorem dX12_readThing_91 : decode cX12_readThing 91 = .ok (.if_icmp .ne 12, 3) := by decide +kernel
theorem dX12_readThing_94 : decode cX12_readThing 94 = .ok (.aload_n 0, 1) := by decide +kernel
theorem dX12_readThing_95 : decode cX12_readThing 95 = .ok (.aload_n 0, 1) := by decide +kernel
theorem dX12_readThing_96 : decode cX12_readThing 96 = .ok (.getfield 82, 3) := by decide +kernel
theorem dX12_readThing_99 : decode cX12_readThing 99 = .ok (.invokevirtual 89, 3) := by decide +kernel
theorem dX12_readThing_102 : decode cX12_readThing 102 = .ok (.ireturn, 1) := by decide +kernel
theorem dX12_readThing_103 : decode cX12_readThing 103 = .ok (.aload_n 0, 1) := by decide +kernel
theorem dX12_readThing_104 : decode cX12_readThing 104 = .ok (.dup, 1) := by decide +kernel
theorem dX12_readThing_105 : decode cX12_readThing 105 = .ok (.getfield 175, 3) := by decide +kernel
theorem dX12_readThing_108 : decode cX12_readThing 108 = .ok (.iconst 1, 1) := by decide +kernel
theorem dX12_readThing_109 : decode cX12_readThing 109 = .ok (.iadd, 1) := by decide +kernel
theorem dX12_readThing_110 : decode cX12_readThing 110 = .ok (.putfield 175, 3) := by decide +kernel
theorem dX12_readThing_113 : decode cX12_readThing 113 = .ok (.iload_n 1, 1) := by decide +kernel
theorem dX12_readThing_114 : decode cX12_readThing 114 = .ok (.invokestatic 96, 3) := by decide +kernel
theorem dX12_readThing_117 : decode cX12_readThing 117 = .ok (.ifCond .eq 25, 3) := by decide +kernel
theorem dX12_readThing_120 : decode cX12_readThing 120 = .ok (.aload_n 0, 1) := by decide +kernel
theorem dX12_readThing_121 : decode cX12_readThing 121 = .ok (.iconst 0, 1) := by decide +kernel
theorem dX12_readThing_122 : decode cX12_readThing 122 = .ok (.ldc 106, 2) := by decide +kernel
theorem dX12_readThing_124 : decode cX12_readThing 124 = .ok (.invokevirtual 99, 3) := by decide +kernel
theorem dX12_readThing_127 : decode cX12_readThing 127 = .ok (.ifCond .ne 5, 3) := by decide +kernel
theorem dX12_readThing_130 : decode cX12_readThing 130 = .ok (.iconst 0, 1) := by decide +kernel
theorem dX12_readThing_131 : decode cX12_readThing 131 = .ok (.ireturn, 1) := by decide +kernel
theorem dX12_readThing_132 : decode cX12_readThing 132 = .ok (.aload_n 0, 1) := by decide +kernel
theorem dX12_readThing_133 : decode cX12_readThing 133 = .ok (.aload_n 0, 1) := by decide +kernel
theorem dX12_readThing_134 : decode cX12_readThing 134 = .ok (.getfield 93, 3) := by decide +kernel
theorem dX12_readThing_137 : decode cX12_readThing 137 = .ok (.invokevirtual 172, 3) := by decide +kernel
theorem dX12_readThing_140 : decode cX12_readThing 140 = .ok (.iconst 1, 1) := by decide +kernel
theorem dX12_readThing_141 : decode cX12_readThing 141 = .ok (.ireturn, 1) := by decide +kernel
theorem dX12_readThing_142 : decode cX12_readThing 142 = .ok (.aload_n 0, 1) := by decide +kernel
theorem dX12_readThing_143 : decode cX12_readThing 143 = .ok (.ldc 187, 2) := by decide +kernel
theorem dX12_readThing_145 : decode cX12_readThing 145 = .ok (.iload_n 1, 1) := by decide +kernel
theorem dX12_readThing_146 : decode cX12_readThing 146 = .ok (.invokestatic 184, 3) := by decide +kernel
theorem dX12_readThing_149 : decode cX12_readThing 149 = .ok (.iadd, 1) := by decide +kernel
theorem dX12_readThing_150 : decode cX12_readThing 150 = .ok (.invokevirtual 172, 3) := by decide +kernel
theorem dX12_readThing_153 : decode cX12_readThing 153 = .ok (.aload_n 0, 1) := by decide +kernel
theorem dX12_readThing_154 : decode cX12_readThing 154 = .ok (.dup, 1) := by decide +kernel
theorem dX12_readThing_155 : decode cX12_readThing 155 = .ok (.getfield 82, 3) := by decide +kernel
theorem dX12_readThing_158 : decode cX12_readThing 158 = .ok (.iconst 1, 1) := by decide +kernel
theorem dX12_readThing_159 : decode cX12_readThing 159 = .ok (.iadd, 1) := by decide +kernel
theorem dX12_readThing_160 : decode cX12_readThing 160 = .ok (.putfield 82, 3) := by decide +kernel
theorem dX12_readThing_163 : decode cX12_readThing 163 = .ok (.iconst 1, 1) := by decide +kernel
theorem dX12_readThing_164 : decode cX12_readThing 164 = .ok (.ireturn, 1) := by decide +kernel
theorem dX12_closes_0 : decode cX12_closes 0 = .ok (.aload_n 0, 1) := by decide +kernel
theorem dX12_closes_1 : decode cX12_closes 1 = .ok (.invokevirtual 85, 3) := by decide +kernel
theorem dX12_closes_4 : decode cX12_closes 4 = .ok (.bipush 41, 2) := by decide +kernel
theorem dX12_closes_6 : decode cX12_closes 6 = .ok (.if_icmp .ne 48, 3) := by decide +kernel
theorem dX12_closes_9 : decode cX12_closes 9 = .ok (.aload_n 0, 1) := by decide +kernel
theorem dX12_closes_10 : decode cX12_closes 10 = .ok (.getfield 178, 3) := by decide +kernel
theorem dX12_closes_13 : decode cX12_closes 13 = .ok (.ifCond .le 41, 3) := by decide +kernel
theorem dX12_closes_16 : decode cX12_closes 16 = .ok (.aload_n 0, 1) := by decide +kernel
theorem dX12_closes_17 : decode cX12_closes 17 = .ok (.iconst 1, 1) := by decide +kernel
theorem dX12_closes_18 : decode cX12_closes 18 = .ok (.invokevirtual 188, 3) := by decide +kernel
theorem dX12_closes_21 : decode cX12_closes 21 = .ok (.aload_n 0, 1) := by decide +kernel
theorem dX12_closes_22 : decode cX12_closes 22 = .ok (.dup, 1) := by decide +kernel
theorem dX12_closes_23 : decode cX12_closes 23 = .ok (.getfield 165, 3) := by decide +kernel
theorem dX12_closes_26 : decode cX12_closes 26 = .ok (.iconst 1, 1) := by decide +kernel
theorem dX12_closes_27 : decode cX12_closes 27 = .ok (.isub, 1) := by decide +kernel
theorem dX12_closes_28 : decode cX12_closes 28 = .ok (.putfield 165, 3) := by decide +kernel
theorem dX12_closes_31 : decode cX12_closes 31 = .ok (.aload_n 0, 1) := by decide +kernel
theorem dX12_closes_32 : decode cX12_closes 32 = .ok (.dup, 1) := by decide +kernel
theorem dX12_closes_33 : decode cX12_closes 33 = .ok (.getfield 178, 3) := by decide +kernel
theorem dX12_closes_36 : decode cX12_closes 36 = .ok (.iconst 1, 1) := by decide +kernel
theorem dX12_closes_37 : decode cX12_closes 37 = .ok (.isub, 1) := by decide +kernel
theorem dX12_closes_38 : decode cX12_closes 38 = .ok (.putfield 178, 3) := by decide +kernel
theorem dX12_closes_41 : decode cX12_closes 41 = .ok (.aload_n 0, 1) := by decide +kernel
theorem dX12_closes_42 : decode cX12_closes 42 = .ok (.dup, 1) := by decide +kernel
theorem dX12_closes_43 : decode cX12_closes 43 = .ok (.getfield 82, 3) := by decide +kernel
theorem dX12_closes_46 : decode cX12_closes 46 = .ok (.iconst 1, 1) := by decide +kernel
theorem dX12_closes_47 : decode cX12_closes 47 = .ok (.iadd, 1) := by decide +kernel
theorem dX12_closes_48 : decode cX12_closes 48 = .ok (.putfield 82, 3) := by decide +kernel
theorem dX12_closes_51 : decode cX12_closes 51 = .ok (.goto (-51), 3) := by decide +kernel
theorem dX12_closes_54 : decode cX12_closes 54 = .ok (.return_, 1) := by decide +kernel
theorem dX12_readSum_0 : decode cX12_readSum 0 = .ok (.iconst 1, 1) := by decide +kernel
theorem dX12_readSum_1 : decode cX12_readSum 1 = .ok (.istore_n 1, 1) := by decide +kernel
theorem dX12_readSum_2 : decode cX12_readSum 2 = .ok (.iload_n 1, 1) := by decide +kernel
theorem dX12_readSum_3 : decode cX12_readSum 3 = .ok (.ifCond .eq 61, 3) := by decide +kernel
theorem dX12_readSum_6 : decode cX12_readSum 6 = .ok (.aload_n 0, 1) := by decide +kernel
theorem dX12_readSum_7 : decode cX12_readSum 7 = .ok (.invokevirtual 191, 3) := by decide +kernel
theorem dX12_readSum_10 : decode cX12_readSum 10 = .ok (.ifCond .ne 5, 3) := by decide +kernel
theorem dX12_readSum_13 : decode cX12_readSum 13 = .ok (.iconst 0, 1) := by decide +kernel
theorem dX12_readSum_14 : decode cX12_readSum 14 = .ok (.ireturn, 1) := by decide +kernel
theorem dX12_readSum_15 : decode cX12_readSum 15 = .ok (.aload_n 0, 1) := by decide +kernel
theorem dX12_readSum_16 : decode cX12_readSum 16 = .ok (.invokevirtual 194, 3) := by decide +kernel
theorem dX12_readSum_19 : decode cX12_readSum 19 = .ok (.aload_n 0, 1) := by decide +kernel
theorem dX12_readSum_20 : decode cX12_readSum 20 = .ok (.invokevirtual 85, 3) := by decide +kernel
theorem dX12_readSum_23 : decode cX12_readSum 23 = .ok (.invokestatic 168, 3) := by decide +kernel
theorem dX12_readSum_26 : decode cX12_readSum 26 = .ok (.ifCond .le 7, 3) := by decide +kernel
theorem dX12_readSum_29 : decode cX12_readSum 29 = .ok (.iconst 1, 1) := by decide +kernel
theorem dX12_readSum_30 : decode cX12_readSum 30 = .ok (.goto 4, 3) := by decide +kernel
theorem dX12_readSum_33 : decode cX12_readSum 33 = .ok (.iconst 0, 1) := by decide +kernel
theorem dX12_readSum_34 : decode cX12_readSum 34 = .ok (.istore_n 1, 1) := by decide +kernel
theorem dX12_readSum_35 : decode cX12_readSum 35 = .ok (.iload_n 1, 1) := by decide +kernel
theorem dX12_readSum_36 : decode cX12_readSum 36 = .ok (.ifCond .ne 6, 3) := by decide +kernel
theorem dX12_readSum_39 : decode cX12_readSum 39 = .ok (.goto (-37), 3) := by decide +kernel
theorem dX12_readSum_42 : decode cX12_readSum 42 = .ok (.aload_n 0, 1) := by decide +kernel
theorem dX12_readSum_43 : decode cX12_readSum 43 = .ok (.aload_n 0, 1) := by decide +kernel
theorem dX12_readSum_44 : decode cX12_readSum 44 = .ok (.invokevirtual 85, 3) := by decide +kernel
theorem dX12_readSum_47 : decode cX12_readSum 47 = .ok (.invokestatic 168, 3) := by decide +kernel
theorem dX12_readSum_50 : decode cX12_readSum 50 = .ok (.invokevirtual 188, 3) := by decide +kernel
theorem dX12_readSum_53 : decode cX12_readSum 53 = .ok (.aload_n 0, 1) := by decide +kernel
theorem dX12_readSum_54 : decode cX12_readSum 54 = .ok (.aload_n 0, 1) := by decide +kernel
theorem dX12_readSum_55 : decode cX12_readSum 55 = .ok (.invokevirtual 85, 3) := by decide +kernel
theorem dX12_readSum_58 : decode cX12_readSum 58 = .ok (.invokevirtual 181, 3) := by decide +kernel
theorem dX12_readSum_61 : decode cX12_readSum 61 = .ok (.goto (-59), 3) := by decide +kernel
theorem dX12_readSum_64 : decode cX12_readSum 64 = .ok (.aload_n 0, 1) := by decide +kernel
theorem dX12_readSum_65 : decode cX12_readSum 65 = .ok (.iconst 1, 1) := by decide +kernel
theorem dX12_readSum_66 : decode cX12_readSum 66 = .ok (.invokevirtual 188, 3) := by decide +kernel
theorem dX12_readSum_69 : decode cX12_readSum 69 = .ok (.aload_n 0, 1) := by decide +kernel
theorem dX12_readSum_70 : decode cX12_readSum 70 = .ok (.getfield 82, 3) := by decide +kernel
theorem dX12_readSum_73 : decode cX12_readSum 73 = .ok (.aload_n 0, 1) := by decide +kernel
theorem dX12_readSum_74 : decode cX12_readSum 74 = .ok (.getfield 76, 3) := by decide +kernel
theorem dX12_readSum_77 : decode cX12_readSum 77 = .ok (.if_icmp .ne 10, 3) := by decide +kernel
theorem dX12_readSum_80 : decode cX12_readSum 80 = .ok (.aload_n 0, 1) := by decide +kernel
theorem dX12_readSum_81 : decode cX12_readSum 81 = .ok (.getfield 178, 3) := by decide +kernel
theorem dX12_readSum_84 : decode cX12_readSum 84 = .ok (.ifCond .eq 14, 3) := by decide +kernel
theorem dX12_readSum_87 : decode cX12_readSum 87 = .ok (.aload_n 0, 1) := by decide +kernel
theorem dX12_readSum_88 : decode cX12_readSum 88 = .ok (.aload_n 0, 1) := by decide +kernel
theorem dX12_readSum_89 : decode cX12_readSum 89 = .ok (.getfield 82, 3) := by decide +kernel
theorem dX12_readSum_92 : decode cX12_readSum 92 = .ok (.invokevirtual 89, 3) := by decide +kernel
theorem dX12_readSum_95 : decode cX12_readSum 95 = .ok (.ifCond .eq 7, 3) := by decide +kernel
theorem dX12_readSum_98 : decode cX12_readSum 98 = .ok (.iconst 1, 1) := by decide +kernel
theorem dX12_readSum_99 : decode cX12_readSum 99 = .ok (.goto 4, 3) := by decide +kernel
theorem dX12_readSum_102 : decode cX12_readSum 102 = .ok (.iconst 0, 1) := by decide +kernel
theorem dX12_readSum_103 : decode cX12_readSum 103 = .ok (.ireturn, 1) := by decide +kernel
theorem dX12_policy_0 : decode cX12_policy 0 = .ok (.aload_n 0, 1) := by decide +kernel
theorem dX12_policy_1 : decode cX12_policy 1 = .ok (.invokevirtual 150, 3) := by decide +kernel
theorem dX12_policy_4 : decode cX12_policy 4 = .ok (.aload_n 0, 1) := by decide +kernel
theorem dX12_policy_5 : decode cX12_policy 5 = .ok (.iconst 0, 1) := by decide +kernel
theorem dX12_policy_6 : decode cX12_policy 6 = .ok (.putfield 162, 3) := by decide +kernel
theorem dX12_policy_9 : decode cX12_policy 9 = .ok (.aload_n 0, 1) := by decide +kernel
theorem dX12_policy_10 : decode cX12_policy 10 = .ok (.iconst 0, 1) := by decide +kernel
theorem dX12_policy_11 : decode cX12_policy 11 = .ok (.putfield 165, 3) := by decide +kernel
theorem dX12_policy_14 : decode cX12_policy 14 = .ok (.aload_n 0, 1) := by decide +kernel
theorem dX12_policy_15 : decode cX12_policy 15 = .ok (.iconst 0, 1) := by decide +kernel
theorem dX12_policy_16 : decode cX12_policy 16 = .ok (.putfield 175, 3) := by decide +kernel
theorem dX12_policy_19 : decode cX12_policy 19 = .ok (.aload_n 0, 1) := by decide +kernel
theorem dX12_policy_20 : decode cX12_policy 20 = .ok (.iconst 0, 1) := by decide +kernel
theorem dX12_policy_21 : decode cX12_policy 21 = .ok (.putfield 178, 3) := by decide +kernel
theorem dX12_policy_24 : decode cX12_policy 24 = .ok (.aload_n 0, 1) := by decide +kernel
theorem dX12_policy_25 : decode cX12_policy 25 = .ok (.getfield 76, 3) := by decide +kernel
theorem dX12_policy_28 : decode cX12_policy 28 = .ok (.ifCond .eq 10, 3) := by decide +kernel
theorem dX12_policy_31 : decode cX12_policy 31 = .ok (.aload_n 0, 1) := by decide +kernel
theorem dX12_policy_32 : decode cX12_policy 32 = .ok (.invokevirtual 197, 3) := by decide +kernel
theorem dX12_policy_35 : decode cX12_policy 35 = .ok (.ifCond .eq 7, 3) := by decide +kernel
theorem dX12_policy_38 : decode cX12_policy 38 = .ok (.iconst 1, 1) := by decide +kernel
theorem dX12_policy_39 : decode cX12_policy 39 = .ok (.goto 4, 3) := by decide +kernel
theorem dX12_policy_42 : decode cX12_policy 42 = .ok (.iconst 0, 1) := by decide +kernel
theorem dX12_policy_43 : decode cX12_policy 43 = .ok (.istore_n 1, 1) := by decide +kernel
theorem dX12_policy_44 : decode cX12_policy 44 = .ok (.aload_n 0, 1) := by decide +kernel
theorem dX12_policy_45 : decode cX12_policy 45 = .ok (.iconst 0, 1) := by decide +kernel
theorem dX12_policy_46 : decode cX12_policy 46 = .ok (.putfield 76, 3) := by decide +kernel
theorem dX12_policy_49 : decode cX12_policy 49 = .ok (.iload_n 1, 1) := by decide +kernel
theorem dX12_policy_50 : decode cX12_policy 50 = .ok (.ifCond .ne 5, 3) := by decide +kernel
theorem dX12_policy_53 : decode cX12_policy 53 = .ok (.iconst (-1), 1) := by decide +kernel
theorem dX12_policy_54 : decode cX12_policy 54 = .ok (.ireturn, 1) := by decide +kernel
theorem dX12_policy_55 : decode cX12_policy 55 = .ok (.aload_n 0, 1) := by decide +kernel
theorem dX12_policy_56 : decode cX12_policy 56 = .ok (.iconst 0, 1) := by decide +kernel
theorem dX12_policy_57 : decode cX12_policy 57 = .ok (.invokevirtual 72, 3) := by decide +kernel
theorem dX12_policy_60 : decode cX12_policy 60 = .ok (.aload_n 0, 1) := by decide +kernel
theorem dX12_policy_61 : decode cX12_policy 61 = .ok (.getfield 3, 3) := by decide +kernel
theorem dX12_policy_64 : decode cX12_policy 64 = .ok (.bipush 8, 2) := by decide +kernel
theorem dX12_policy_66 : decode cX12_policy 66 = .ok (.aload_n 0, 1) := by decide +kernel
theorem dX12_policy_67 : decode cX12_policy 67 = .ok (.getfield 175, 3) := by decide +kernel
theorem dX12_policy_70 : decode cX12_policy 70 = .ok (.iastore, 1) := by decide +kernel
theorem dX12_policy_71 : decode cX12_policy 71 = .ok (.aload_n 0, 1) := by decide +kernel
theorem dX12_policy_72 : decode cX12_policy 72 = .ok (.getfield 3, 3) := by decide +kernel
theorem dX12_policy_75 : decode cX12_policy 75 = .ok (.bipush 9, 2) := by decide +kernel
theorem dX12_policy_77 : decode cX12_policy 77 = .ok (.aload_n 0, 1) := by decide +kernel
theorem dX12_policy_78 : decode cX12_policy 78 = .ok (.getfield 162, 3) := by decide +kernel
theorem dX12_policy_81 : decode cX12_policy 81 = .ok (.iastore, 1) := by decide +kernel
theorem dX12_policy_82 : decode cX12_policy 82 = .ok (.iconst 0, 1) := by decide +kernel
theorem dX12_policy_83 : decode cX12_policy 83 = .ok (.istore_n 2, 1) := by decide +kernel
theorem dX12_policy_84 : decode cX12_policy 84 = .ok (.iload_n 2, 1) := by decide +kernel
theorem dX12_policy_85 : decode cX12_policy 85 = .ok (.aload_n 0, 1) := by decide +kernel
theorem dX12_policy_86 : decode cX12_policy 86 = .ok (.getfield 162, 3) := by decide +kernel
theorem dX12_policy_89 : decode cX12_policy 89 = .ok (.if_icmp .ge 24, 3) := by decide +kernel
theorem dX12_policy_92 : decode cX12_policy 92 = .ok (.aload_n 0, 1) := by decide +kernel
theorem dX12_policy_93 : decode cX12_policy 93 = .ok (.getfield 3, 3) := by decide +kernel
theorem dX12_policy_96 : decode cX12_policy 96 = .ok (.bipush 50, 2) := by decide +kernel
theorem dX12_policy_98 : decode cX12_policy 98 = .ok (.iload_n 2, 1) := by decide +kernel
theorem dX12_policy_99 : decode cX12_policy 99 = .ok (.iadd, 1) := by decide +kernel
theorem dX12_policy_100 : decode cX12_policy 100 = .ok (.aload_n 0, 1) := by decide +kernel
theorem dX12_policy_101 : decode cX12_policy 101 = .ok (.getfield 26, 3) := by decide +kernel
theorem dX12_policy_104 : decode cX12_policy 104 = .ok (.iload_n 2, 1) := by decide +kernel
theorem dX12_policy_105 : decode cX12_policy 105 = .ok (.iaload, 1) := by decide +kernel
theorem dX12_policy_106 : decode cX12_policy 106 = .ok (.iastore, 1) := by decide +kernel
theorem dX12_policy_107 : decode cX12_policy 107 = .ok (.iinc 2 1, 3) := by decide +kernel
theorem dX12_policy_110 : decode cX12_policy 110 = .ok (.goto (-26), 3) := by decide +kernel
theorem dX12_policy_113 : decode cX12_policy 113 = .ok (.aload_n 0, 1) := by decide +kernel
theorem dX12_policy_114 : decode cX12_policy 114 = .ok (.getfield 175, 3) := by decide +kernel
theorem dX12_policy_117 : decode cX12_policy 117 = .ok (.ireturn, 1) := by decide +kernel
theorem dX12_joined_0 : decode cX12_joined 0 = .ok (.iload_n 0, 1) := by decide +kernel
theorem dX12_joined_1 : decode cX12_joined 1 = .ok (.bipush 43, 2) := by decide +kernel
theorem dX12_joined_3 : decode cX12_joined 3 = .ok (.if_icmp .ne 9, 3) := by decide +kernel
theorem dX12_joined_6 : decode cX12_joined 6 = .ok (.lload_n 1, 1) := by decide +kernel
theorem dX12_joined_7 : decode cX12_joined 7 = .ok (.lload_n 3, 1) := by decide +kernel
theorem dX12_joined_8 : decode cX12_joined 8 = .ok (.ladd, 1) := by decide +kernel
theorem dX12_joined_9 : decode cX12_joined 9 = .ok (.goto 18, 3) := by decide +kernel
theorem dX12_joined_12 : decode cX12_joined 12 = .ok (.iload_n 0, 1) := by decide +kernel
theorem dX12_joined_13 : decode cX12_joined 13 = .ok (.bipush 45, 2) := by decide +kernel
theorem dX12_joined_15 : decode cX12_joined 15 = .ok (.if_icmp .ne 9, 3) := by decide +kernel
theorem dX12_joined_18 : decode cX12_joined 18 = .ok (.lload_n 1, 1) := by decide +kernel
theorem dX12_joined_19 : decode cX12_joined 19 = .ok (.lload_n 3, 1) := by decide +kernel
theorem dX12_joined_20 : decode cX12_joined 20 = .ok (.lsub, 1) := by decide +kernel
theorem dX12_joined_21 : decode cX12_joined 21 = .ok (.goto 6, 3) := by decide +kernel
theorem dX12_joined_24 : decode cX12_joined 24 = .ok (.lload_n 1, 1) := by decide +kernel
theorem dX12_joined_25 : decode cX12_joined 25 = .ok (.lload_n 3, 1) := by decide +kernel
theorem dX12_joined_26 : decode cX12_joined 26 = .ok (.lmul, 1) := by decide +kernel
theorem dX12_joined_27 : decode cX12_joined 27 = .ok (.lreturn, 1) := by decide +kernel
theorem dX12_worth_0 : decode cX12_worth 0 = .ok (.iconst 0, 1) := by decide +kernel
theorem dX12_worth_1 : decode cX12_worth 1 = .ok (.istore_n 1, 1) := by decide +kernel
theorem dX12_worth_2 : decode cX12_worth 2 = .ok (.iconst 0, 1) := by decide +kernel
theorem dX12_worth_3 : decode cX12_worth 3 = .ok (.istore_n 2, 1) := by decide +kernel
theorem dX12_worth_4 : decode cX12_worth 4 = .ok (.iload_n 2, 1) := by decide +kernel
theorem dX12_worth_5 : decode cX12_worth 5 = .ok (.aload_n 0, 1) := by decide +kernel
theorem dX12_worth_6 : decode cX12_worth 6 = .ok (.getfield 3, 3) := by decide +kernel
theorem dX12_worth_9 : decode cX12_worth 9 = .ok (.bipush 9, 2) := by decide +kernel
theorem dX12_worth_11 : decode cX12_worth 11 = .ok (.iaload, 1) := by decide +kernel
theorem dX12_worth_12 : decode cX12_worth 12 = .ok (.if_icmp .ge 89, 3) := by decide +kernel
theorem dX12_worth_15 : decode cX12_worth 15 = .ok (.aload_n 0, 1) := by decide +kernel
theorem dX12_worth_16 : decode cX12_worth 16 = .ok (.getfield 3, 3) := by decide +kernel
theorem dX12_worth_19 : decode cX12_worth 19 = .ok (.bipush 50, 2) := by decide +kernel
theorem dX12_worth_21 : decode cX12_worth 21 = .ok (.iload_n 2, 1) := by decide +kernel
theorem dX12_worth_22 : decode cX12_worth 22 = .ok (.iadd, 1) := by decide +kernel
theorem dX12_worth_23 : decode cX12_worth 23 = .ok (.iaload, 1) := by decide +kernel
theorem dX12_worth_24 : decode cX12_worth 24 = .ok (.istore_n 3, 1) := by decide +kernel
theorem dX12_worth_25 : decode cX12_worth 25 = .ok (.iload_n 3, 1) := by decide +kernel
theorem dX12_worth_26 : decode cX12_worth 26 = .ok (.ldc 171, 2) := by decide +kernel
theorem dX12_worth_28 : decode cX12_worth 28 = .ok (.if_icmp .ge 35, 3) := by decide +kernel
theorem dX12_worth_31 : decode cX12_worth 31 = .ok (.aload_n 0, 1) := by decide +kernel
theorem dX12_worth_32 : decode cX12_worth 32 = .ok (.getfield 36, 3) := by decide +kernel
theorem dX12_worth_35 : decode cX12_worth 35 = .ok (.iload_n 1, 1) := by decide +kernel
theorem dX12_worth_36 : decode cX12_worth 36 = .ok (.iload_n 3, 1) := by decide +kernel
theorem dX12_worth_37 : decode cX12_worth 37 = .ok (.ldc 187, 2) := by decide +kernel
theorem dX12_worth_39 : decode cX12_worth 39 = .ok (.if_icmp .ge 8, 3) := by decide +kernel
theorem dX12_worth_42 : decode cX12_worth 42 = .ok (.iload_n 3, 1) := by decide +kernel
theorem dX12_worth_43 : decode cX12_worth 43 = .ok (.i2l, 1) := by decide +kernel
theorem dX12_worth_44 : decode cX12_worth 44 = .ok (.goto 12, 3) := by decide +kernel
theorem dX12_worth_47 : decode cX12_worth 47 = .ok (.aload_n 0, 1) := by decide +kernel
theorem dX12_worth_48 : decode cX12_worth 48 = .ok (.getfield 32, 3) := by decide +kernel
theorem dX12_worth_51 : decode cX12_worth 51 = .ok (.iload_n 3, 1) := by decide +kernel
theorem dX12_worth_52 : decode cX12_worth 52 = .ok (.ldc 187, 2) := by decide +kernel
theorem dX12_worth_54 : decode cX12_worth 54 = .ok (.isub, 1) := by decide +kernel
theorem dX12_worth_55 : decode cX12_worth 55 = .ok (.laload, 1) := by decide +kernel
theorem dX12_worth_56 : decode cX12_worth 56 = .ok (.lastore, 1) := by decide +kernel
theorem dX12_worth_57 : decode cX12_worth 57 = .ok (.iinc 1 1, 3) := by decide +kernel
theorem dX12_worth_60 : decode cX12_worth 60 = .ok (.goto 35, 3) := by decide +kernel
theorem dX12_worth_63 : decode cX12_worth 63 = .ok (.iinc 1 (-1), 3) := by decide +kernel
theorem dX12_worth_66 : decode cX12_worth 66 = .ok (.aload_n 0, 1) := by decide +kernel
theorem dX12_worth_67 : decode cX12_worth 67 = .ok (.getfield 36, 3) := by decide +kernel
theorem dX12_worth_70 : decode cX12_worth 70 = .ok (.iload_n 1, 1) := by decide +kernel
theorem dX12_worth_71 : decode cX12_worth 71 = .ok (.iconst 1, 1) := by decide +kernel
theorem dX12_worth_72 : decode cX12_worth 72 = .ok (.isub, 1) := by decide +kernel
theorem dX12_worth_73 : decode cX12_worth 73 = .ok (.iload_n 3, 1) := by decide +kernel
theorem dX12_worth_74 : decode cX12_worth 74 = .ok (.ldc 171, 2) := by decide +kernel
theorem dX12_worth_76 : decode cX12_worth 76 = .ok (.isub, 1) := by decide +kernel
theorem dX12_worth_77 : decode cX12_worth 77 = .ok (.aload_n 0, 1) := by decide +kernel
theorem dX12_worth_78 : decode cX12_worth 78 = .ok (.getfield 36, 3) := by decide +kernel
theorem dX12_worth_81 : decode cX12_worth 81 = .ok (.iload_n 1, 1) := by decide +kernel
theorem dX12_worth_82 : decode cX12_worth 82 = .ok (.iconst 1, 1) := by decide +kernel
theorem dX12_worth_83 : decode cX12_worth 83 = .ok (.isub, 1) := by decide +kernel
theorem dX12_worth_84 : decode cX12_worth 84 = .ok (.laload, 1) := by decide +kernel
theorem dX12_worth_85 : decode cX12_worth 85 = .ok (.aload_n 0, 1) := by decide +kernel
theorem dX12_worth_86 : decode cX12_worth 86 = .ok (.getfield 36, 3) := by decide +kernel
theorem dX12_worth_89 : decode cX12_worth 89 = .ok (.iload_n 1, 1) := by decide +kernel
theorem dX12_worth_90 : decode cX12_worth 90 = .ok (.laload, 1) := by decide +kernel
theorem dX12_worth_91 : decode cX12_worth 91 = .ok (.invokestatic 200, 3) := by decide +kernel
theorem dX12_worth_94 : decode cX12_worth 94 = .ok (.lastore, 1) := by decide +kernel
theorem dX12_worth_95 : decode cX12_worth 95 = .ok (.iinc 2 1, 3) := by decide +kernel
theorem dX12_worth_98 : decode cX12_worth 98 = .ok (.goto (-94), 3) := by decide +kernel
theorem dX12_worth_101 : decode cX12_worth 101 = .ok (.aload_n 0, 1) := by decide +kernel
theorem dX12_worth_102 : decode cX12_worth 102 = .ok (.getfield 36, 3) := by decide +kernel
theorem dX12_worth_105 : decode cX12_worth 105 = .ok (.iconst 0, 1) := by decide +kernel
theorem dX12_worth_106 : decode cX12_worth 106 = .ok (.laload, 1) := by decide +kernel
theorem dX12_worth_107 : decode cX12_worth 107 = .ok (.lreturn, 1) := by decide +kernel
theorem dX12_isContract_0 : decode cX12_isContract 0 = .ok (.iload_n 1, 1) := by decide +kernel
theorem dX12_isContract_1 : decode cX12_isContract 1 = .ok (.i2l, 1) := by decide +kernel
theorem dX12_isContract_2 : decode cX12_isContract 2 = .ok (.lconst 0, 1) := by decide +kernel
theorem dX12_isContract_3 : decode cX12_isContract 3 = .ok (.aload_n 0, 1) := by decide +kernel
theorem dX12_isContract_4 : decode cX12_isContract 4 = .ok (.getfield 3, 3) := by decide +kernel
theorem dX12_isContract_7 : decode cX12_isContract 7 = .ok (.bipush 7, 2) := by decide +kernel
theorem dX12_isContract_9 : decode cX12_isContract 9 = .ok (.iaload, 1) := by decide +kernel
theorem dX12_isContract_10 : decode cX12_isContract 10 = .ok (.iconst 1, 1) := by decide +kernel
theorem dX12_isContract_11 : decode cX12_isContract 11 = .ok (.isub, 1) := by decide +kernel
theorem dX12_isContract_12 : decode cX12_isContract 12 = .ok (.i2l, 1) := by decide +kernel
theorem dX12_isContract_13 : decode cX12_isContract 13 = .ok (.invokestatic 68, 3) := by decide +kernel
theorem dX12_isContract_16 : decode cX12_isContract 16 = .ok (.ireturn, 1) := by decide +kernel
theorem dX12_isYear_0 : decode cX12_isYear 0 = .ok (.iload_n 0, 1) := by decide +kernel
theorem dX12_isYear_1 : decode cX12_isYear 1 = .ok (.i2l, 1) := by decide +kernel
theorem dX12_isYear_2 : decode cX12_isYear 2 = .ok (.lconst 0, 1) := by decide +kernel
theorem dX12_isYear_3 : decode cX12_isYear 3 = .ok (.ldc2_w 204, 3) := by decide +kernel
theorem dX12_isYear_6 : decode cX12_isYear 6 = .ok (.invokestatic 68, 3) := by decide +kernel
theorem dX12_isYear_9 : decode cX12_isYear 9 = .ok (.ireturn, 1) := by decide +kernel
theorem dX12_isOpen_0 : decode cX12_isOpen 0 = .ok (.aload_n 0, 1) := by decide +kernel
theorem dX12_isOpen_1 : decode cX12_isOpen 1 = .ok (.iload_n 1, 1) := by decide +kernel
theorem dX12_isOpen_2 : decode cX12_isOpen 2 = .ok (.iconst 4, 1) := by decide +kernel
theorem dX12_isOpen_3 : decode cX12_isOpen 3 = .ok (.invokevirtual 115, 3) := by decide +kernel
theorem dX12_isOpen_6 : decode cX12_isOpen 6 = .ok (.ifCond .ne 7, 3) := by decide +kernel
theorem dX12_isOpen_9 : decode cX12_isOpen 9 = .ok (.iconst 1, 1) := by decide +kernel
theorem dX12_isOpen_10 : decode cX12_isOpen 10 = .ok (.goto 4, 3) := by decide +kernel
theorem dX12_isOpen_13 : decode cX12_isOpen 13 = .ok (.iconst 0, 1) := by decide +kernel
theorem dX12_isOpen_14 : decode cX12_isOpen 14 = .ok (.ireturn, 1) := by decide +kernel
theorem dX12_canCut_0 : decode cX12_canCut 0 = .ok (.aload_n 0, 1) := by decide +kernel
theorem dX12_canCut_1 : decode cX12_canCut 1 = .ok (.iload_n 1, 1) := by decide +kernel
theorem dX12_canCut_2 : decode cX12_canCut 2 = .ok (.invokevirtual 206, 3) := by decide +kernel
theorem dX12_canCut_5 : decode cX12_canCut 5 = .ok (.ifCond .eq 30, 3) := by decide +kernel
theorem dX12_canCut_8 : decode cX12_canCut 8 = .ok (.aload_n 0, 1) := by decide +kernel
theorem dX12_canCut_9 : decode cX12_canCut 9 = .ok (.iload_n 1, 1) := by decide +kernel
theorem dX12_canCut_10 : decode cX12_canCut 10 = .ok (.invokevirtual 209, 3) := by decide +kernel
theorem dX12_canCut_13 : decode cX12_canCut 13 = .ok (.ifCond .eq 22, 3) := by decide +kernel
theorem dX12_canCut_16 : decode cX12_canCut 16 = .ok (.aload_n 0, 1) := by decide +kernel
theorem dX12_canCut_17 : decode cX12_canCut 17 = .ok (.iload_n 1, 1) := by decide +kernel
theorem dX12_canCut_18 : decode cX12_canCut 18 = .ok (.iconst 0, 1) := by decide +kernel
theorem dX12_canCut_19 : decode cX12_canCut 19 = .ok (.invokevirtual 115, 3) := by decide +kernel
theorem dX12_canCut_22 : decode cX12_canCut 22 = .ok (.aload_n 0, 1) := by decide +kernel
theorem dX12_canCut_23 : decode cX12_canCut 23 = .ok (.getfield 3, 3) := by decide +kernel
theorem dX12_canCut_26 : decode cX12_canCut 26 = .ok (.iconst 0, 1) := by decide +kernel
theorem dX12_canCut_27 : decode cX12_canCut 27 = .ok (.iaload, 1) := by decide +kernel
theorem dX12_canCut_28 : decode cX12_canCut 28 = .ok (.if_icmp .gt 7, 3) := by decide +kernel
theorem dX12_canCut_31 : decode cX12_canCut 31 = .ok (.iconst 1, 1) := by decide +kernel
theorem dX12_canCut_32 : decode cX12_canCut 32 = .ok (.goto 4, 3) := by decide +kernel
theorem dX12_canCut_35 : decode cX12_canCut 35 = .ok (.iconst 0, 1) := by decide +kernel
theorem dX12_canCut_36 : decode cX12_canCut 36 = .ok (.ireturn, 1) := by decide +kernel
theorem dX12_endOf_0 : decode cX12_endOf 0 = .ok (.aload_n 0, 1) := by decide +kernel
theorem dX12_endOf_1 : decode cX12_endOf 1 = .ok (.iload_n 1, 1) := by decide +kernel
theorem dX12_endOf_2 : decode cX12_endOf 2 = .ok (.iconst 0, 1) := by decide +kernel
theorem dX12_endOf_3 : decode cX12_endOf 3 = .ok (.invokevirtual 115, 3) := by decide +kernel
theorem dX12_endOf_6 : decode cX12_endOf 6 = .ok (.aload_n 0, 1) := by decide +kernel
theorem dX12_endOf_7 : decode cX12_endOf 7 = .ok (.iload_n 1, 1) := by decide +kernel
theorem dX12_endOf_8 : decode cX12_endOf 8 = .ok (.iconst 1, 1) := by decide +kernel
theorem dX12_endOf_9 : decode cX12_endOf 9 = .ok (.invokevirtual 115, 3) := by decide +kernel
theorem dX12_endOf_12 : decode cX12_endOf 12 = .ok (.iadd, 1) := by decide +kernel
theorem dX12_endOf_13 : decode cX12_endOf 13 = .ok (.ireturn, 1) := by decide +kernel
theorem dX12_hitOf_0 : decode cX12_hitOf 0 = .ok (.aload_n 0, 1) := by decide +kernel
theorem dX12_hitOf_1 : decode cX12_hitOf 1 = .ok (.iload_n 1, 1) := by decide +kernel
theorem dX12_hitOf_2 : decode cX12_hitOf 2 = .ok (.bipush 46, 2) := by decide +kernel
theorem dX12_hitOf_4 : decode cX12_hitOf 4 = .ok (.iload_n 2, 1) := by decide +kernel
theorem dX12_hitOf_5 : decode cX12_hitOf 5 = .ok (.iadd, 1) := by decide +kernel
theorem dX12_hitOf_6 : decode cX12_hitOf 6 = .ok (.invokevirtual 115, 3) := by decide +kernel
theorem dX12_hitOf_9 : decode cX12_hitOf 9 = .ok (.aload_n 0, 1) := by decide +kernel
theorem dX12_hitOf_10 : decode cX12_hitOf 10 = .ok (.iload_n 1, 1) := by decide +kernel
theorem dX12_hitOf_11 : decode cX12_hitOf 11 = .ok (.bipush 6, 2) := by decide +kernel
theorem dX12_hitOf_13 : decode cX12_hitOf 13 = .ok (.iload_n 2, 1) := by decide +kernel
theorem dX12_hitOf_14 : decode cX12_hitOf 14 = .ok (.iadd, 1) := by decide +kernel
theorem dX12_hitOf_15 : decode cX12_hitOf 15 = .ok (.invokevirtual 115, 3) := by decide +kernel
theorem dX12_hitOf_18 : decode cX12_hitOf 18 = .ok (.iadd, 1) := by decide +kernel
theorem dX12_hitOf_19 : decode cX12_hitOf 19 = .ok (.aload_n 0, 1) := by decide +kernel
theorem dX12_hitOf_20 : decode cX12_hitOf 20 = .ok (.iload_n 1, 1) := by decide +kernel
theorem dX12_hitOf_21 : decode cX12_hitOf 21 = .ok (.bipush 26, 2) := by decide +kernel
theorem dX12_hitOf_23 : decode cX12_hitOf 23 = .ok (.iload_n 2, 1) := by decide +kernel
theorem dX12_hitOf_24 : decode cX12_hitOf 24 = .ok (.iadd, 1) := by decide +kernel
theorem dX12_hitOf_25 : decode cX12_hitOf 25 = .ok (.invokevirtual 115, 3) := by decide +kernel
theorem dX12_hitOf_28 : decode cX12_hitOf 28 = .ok (.iadd, 1) := by decide +kernel
theorem dX12_hitOf_29 : decode cX12_hitOf 29 = .ok (.ireturn, 1) := by decide +kernel
theorem dX12_partsBehind_0 : decode cX12_partsBehind 0 = .ok (.iconst 0, 1) := by decide +kernel
theorem dX12_partsBehind_1 : decode cX12_partsBehind 1 = .ok (.istore_n 3, 1) := by decide +kernel
theorem dX12_partsBehind_2 : decode cX12_partsBehind 2 = .ok (.iload_n 2, 1) := by decide +kernel
theorem dX12_partsBehind_3 : decode cX12_partsBehind 3 = .ok (.istore 4, 2) := by decide +kernel
theorem dX12_partsBehind_5 : decode cX12_partsBehind 5 = .ok (.iload 4, 2) := by decide +kernel
theorem dX12_partsBehind_7 : decode cX12_partsBehind 7 = .ok (.bipush 20, 2) := by decide +kernel
theorem dX12_partsBehind_9 : decode cX12_partsBehind 9 = .ok (.if_icmp .ge 22, 3) := by decide +kernel
theorem dX12_partsBehind_12 : decode cX12_partsBehind 12 = .ok (.iload_n 3, 1) := by decide +kernel
theorem dX12_partsBehind_13 : decode cX12_partsBehind 13 = .ok (.aload_n 0, 1) := by decide +kernel
theorem dX12_partsBehind_14 : decode cX12_partsBehind 14 = .ok (.iload_n 1, 1) := by decide +kernel
theorem dX12_partsBehind_15 : decode cX12_partsBehind 15 = .ok (.bipush 46, 2) := by decide +kernel
theorem dX12_partsBehind_17 : decode cX12_partsBehind 17 = .ok (.iload 4, 2) := by decide +kernel
theorem dX12_partsBehind_19 : decode cX12_partsBehind 19 = .ok (.iadd, 1) := by decide +kernel
theorem dX12_partsBehind_20 : decode cX12_partsBehind 20 = .ok (.invokevirtual 115, 3) := by decide +kernel
theorem dX12_partsBehind_23 : decode cX12_partsBehind 23 = .ok (.iadd, 1) := by decide +kernel
theorem dX12_partsBehind_24 : decode cX12_partsBehind 24 = .ok (.istore_n 3, 1) := by decide +kernel
theorem dX12_partsBehind_25 : decode cX12_partsBehind 25 = .ok (.iinc 4 1, 3) := by decide +kernel
theorem dX12_partsBehind_28 : decode cX12_partsBehind 28 = .ok (.goto (-23), 3) := by decide +kernel
theorem dX12_partsBehind_31 : decode cX12_partsBehind 31 = .ok (.iload_n 3, 1) := by decide +kernel
theorem dX12_partsBehind_32 : decode cX12_partsBehind 32 = .ok (.ireturn, 1) := by decide +kernel
theorem dX12_sureOf_0 : decode cX12_sureOf 0 = .ok (.iload_n 2, 1) := by decide +kernel
theorem dX12_sureOf_1 : decode cX12_sureOf 1 = .ok (.aload_n 0, 1) := by decide +kernel
theorem dX12_sureOf_2 : decode cX12_sureOf 2 = .ok (.iload_n 1, 1) := by decide +kernel
theorem dX12_sureOf_3 : decode cX12_sureOf 3 = .ok (.iconst 0, 1) := by decide +kernel
theorem dX12_sureOf_4 : decode cX12_sureOf 4 = .ok (.invokevirtual 115, 3) := by decide +kernel
theorem dX12_sureOf_7 : decode cX12_sureOf 7 = .ok (.if_icmp .ne 25, 3) := by decide +kernel
theorem dX12_sureOf_10 : decode cX12_sureOf 10 = .ok (.aload_n 0, 1) := by decide +kernel
theorem dX12_sureOf_11 : decode cX12_sureOf 11 = .ok (.iload_n 1, 1) := by decide +kernel
theorem dX12_sureOf_12 : decode cX12_sureOf 12 = .ok (.bipush 6, 2) := by decide +kernel
theorem dX12_sureOf_14 : decode cX12_sureOf 14 = .ok (.iload_n 2, 1) := by decide +kernel
theorem dX12_sureOf_15 : decode cX12_sureOf 15 = .ok (.iadd, 1) := by decide +kernel
theorem dX12_sureOf_16 : decode cX12_sureOf 16 = .ok (.invokevirtual 115, 3) := by decide +kernel
theorem dX12_sureOf_19 : decode cX12_sureOf 19 = .ok (.aload_n 0, 1) := by decide +kernel
theorem dX12_sureOf_20 : decode cX12_sureOf 20 = .ok (.iload_n 1, 1) := by decide +kernel
theorem dX12_sureOf_21 : decode cX12_sureOf 21 = .ok (.iconst 3, 1) := by decide +kernel
theorem dX12_sureOf_22 : decode cX12_sureOf 22 = .ok (.invokevirtual 115, 3) := by decide +kernel
theorem dX12_sureOf_25 : decode cX12_sureOf 25 = .ok (.imul, 1) := by decide +kernel
theorem dX12_sureOf_26 : decode cX12_sureOf 26 = .ok (.bipush 100, 2) := by decide +kernel
theorem dX12_sureOf_28 : decode cX12_sureOf 28 = .ok (.idiv, 1) := by decide +kernel
theorem dX12_sureOf_29 : decode cX12_sureOf 29 = .ok (.goto 4, 3) := by decide +kernel
theorem dX12_sureOf_32 : decode cX12_sureOf 32 = .ok (.iconst 0, 1) := by decide +kernel
theorem dX12_sureOf_33 : decode cX12_sureOf 33 = .ok (.ireturn, 1) := by decide +kernel
theorem dX12_deadNow_0 : decode cX12_deadNow 0 = .ok (.aload_n 0, 1) := by decide +kernel
theorem dX12_deadNow_1 : decode cX12_deadNow 1 = .ok (.getfield 3, 3) := by decide +kernel
theorem dX12_deadNow_4 : decode cX12_deadNow 4 = .ok (.iconst 0, 1) := by decide +kernel
theorem dX12_deadNow_5 : decode cX12_deadNow 5 = .ok (.iaload, 1) := by decide +kernel
theorem dX12_deadNow_6 : decode cX12_deadNow 6 = .ok (.istore_n 3, 1) := by decide +kernel
theorem dX12_deadNow_7 : decode cX12_deadNow 7 = .ok (.iload_n 2, 1) := by decide +kernel
theorem dX12_deadNow_8 : decode cX12_deadNow 8 = .ok (.aload_n 0, 1) := by decide +kernel
theorem dX12_deadNow_9 : decode cX12_deadNow 9 = .ok (.getfield 3, 3) := by decide +kernel
theorem dX12_deadNow_12 : decode cX12_deadNow 12 = .ok (.iconst 2, 1) := by decide +kernel
theorem dX12_deadNow_13 : decode cX12_deadNow 13 = .ok (.iaload, 1) := by decide +kernel
theorem dX12_deadNow_14 : decode cX12_deadNow 14 = .ok (.if_icmp .lt 9, 3) := by decide +kernel
theorem dX12_deadNow_17 : decode cX12_deadNow 17 = .ok (.iload_n 3, 1) := by decide +kernel
theorem dX12_deadNow_18 : decode cX12_deadNow 18 = .ok (.bipush 19, 2) := by decide +kernel
theorem dX12_deadNow_20 : decode cX12_deadNow 20 = .ok (.if_icmp .ne 12, 3) := by decide +kernel
theorem dX12_deadNow_23 : decode cX12_deadNow 23 = .ok (.aload_n 0, 1) := by decide +kernel
theorem dX12_deadNow_24 : decode cX12_deadNow 24 = .ok (.iload_n 1, 1) := by decide +kernel
theorem dX12_deadNow_25 : decode cX12_deadNow 25 = .ok (.iload_n 3, 1) := by decide +kernel
theorem dX12_deadNow_26 : decode cX12_deadNow 26 = .ok (.invokevirtual 212, 3) := by decide +kernel
theorem dX12_deadNow_29 : decode cX12_deadNow 29 = .ok (.goto 12, 3) := by decide +kernel
theorem dX12_deadNow_32 : decode cX12_deadNow 32 = .ok (.aload_n 0, 1) := by decide +kernel
theorem dX12_deadNow_33 : decode cX12_deadNow 33 = .ok (.iload_n 1, 1) := by decide +kernel
theorem dX12_deadNow_34 : decode cX12_deadNow 34 = .ok (.bipush 46, 2) := by decide +kernel
theorem dX12_deadNow_36 : decode cX12_deadNow 36 = .ok (.iload_n 3, 1) := by decide +kernel
theorem dX12_deadNow_37 : decode cX12_deadNow 37 = .ok (.iadd, 1) := by decide +kernel
theorem dX12_deadNow_38 : decode cX12_deadNow 38 = .ok (.invokevirtual 115, 3) := by decide +kernel
theorem dX12_deadNow_41 : decode cX12_deadNow 41 = .ok (.istore 4, 2) := by decide +kernel
theorem dX12_deadNow_43 : decode cX12_deadNow 43 = .ok (.aload_n 0, 1) := by decide +kernel
theorem dX12_deadNow_44 : decode cX12_deadNow 44 = .ok (.iload_n 1, 1) := by decide +kernel
theorem dX12_deadNow_45 : decode cX12_deadNow 45 = .ok (.iload_n 3, 1) := by decide +kernel
theorem dX12_deadNow_46 : decode cX12_deadNow 46 = .ok (.invokevirtual 215, 3) := by decide +kernel
theorem dX12_deadNow_49 : decode cX12_deadNow 49 = .ok (.iload_n 2, 1) := by decide +kernel
theorem dX12_deadNow_50 : decode cX12_deadNow 50 = .ok (.aload_n 0, 1) := by decide +kernel
theorem dX12_deadNow_51 : decode cX12_deadNow 51 = .ok (.getfield 3, 3) := by decide +kernel
theorem dX12_deadNow_54 : decode cX12_deadNow 54 = .ok (.iconst 3, 1) := by decide +kernel
theorem dX12_deadNow_55 : decode cX12_deadNow 55 = .ok (.iaload, 1) := by decide +kernel
theorem dX12_deadNow_56 : decode cX12_deadNow 56 = .ok (.if_icmp .lt 15, 3) := by decide +kernel
theorem dX12_deadNow_59 : decode cX12_deadNow 59 = .ok (.aload_n 0, 1) := by decide +kernel
theorem dX12_deadNow_60 : decode cX12_deadNow 60 = .ok (.iload_n 1, 1) := by decide +kernel
theorem dX12_deadNow_61 : decode cX12_deadNow 61 = .ok (.bipush 26, 2) := by decide +kernel
theorem dX12_deadNow_63 : decode cX12_deadNow 63 = .ok (.iload_n 3, 1) := by decide +kernel
theorem dX12_deadNow_64 : decode cX12_deadNow 64 = .ok (.iadd, 1) := by decide +kernel
theorem dX12_deadNow_65 : decode cX12_deadNow 65 = .ok (.invokevirtual 115, 3) := by decide +kernel
theorem dX12_deadNow_68 : decode cX12_deadNow 68 = .ok (.goto 4, 3) := by decide +kernel
theorem dX12_deadNow_71 : decode cX12_deadNow 71 = .ok (.iconst 0, 1) := by decide +kernel
theorem dX12_deadNow_72 : decode cX12_deadNow 72 = .ok (.iadd, 1) := by decide +kernel
theorem dX12_deadNow_73 : decode cX12_deadNow 73 = .ok (.iload 4, 2) := by decide +kernel
theorem dX12_deadNow_75 : decode cX12_deadNow 75 = .ok (.iadd, 1) := by decide +kernel
theorem dX12_deadNow_76 : decode cX12_deadNow 76 = .ok (.ireturn, 1) := by decide +kernel
theorem dX12_deadLater_0 : decode cX12_deadLater 0 = .ok (.iload_n 2, 1) := by decide +kernel
theorem dX12_deadLater_1 : decode cX12_deadLater 1 = .ok (.aload_n 0, 1) := by decide +kernel
theorem dX12_deadLater_2 : decode cX12_deadLater 2 = .ok (.getfield 3, 3) := by decide +kernel
theorem dX12_deadLater_5 : decode cX12_deadLater 5 = .ok (.iconst 2, 1) := by decide +kernel
theorem dX12_deadLater_6 : decode cX12_deadLater 6 = .ok (.iaload, 1) := by decide +kernel
theorem dX12_deadLater_7 : decode cX12_deadLater 7 = .ok (.if_icmp .lt 14, 3) := by decide +kernel
theorem dX12_deadLater_10 : decode cX12_deadLater 10 = .ok (.aload_n 0, 1) := by decide +kernel
theorem dX12_deadLater_11 : decode cX12_deadLater 11 = .ok (.getfield 3, 3) := by decide +kernel
theorem dX12_deadLater_14 : decode cX12_deadLater 14 = .ok (.iconst 0, 1) := by decide +kernel
theorem dX12_deadLater_15 : decode cX12_deadLater 15 = .ok (.iaload, 1) := by decide +kernel
theorem dX12_deadLater_16 : decode cX12_deadLater 16 = .ok (.bipush 19, 2) := by decide +kernel
theorem dX12_deadLater_18 : decode cX12_deadLater 18 = .ok (.if_icmp .ne 7, 3) := by decide +kernel
theorem dX12_deadLater_21 : decode cX12_deadLater 21 = .ok (.iconst 0, 1) := by decide +kernel
theorem dX12_deadLater_22 : decode cX12_deadLater 22 = .ok (.goto 16, 3) := by decide +kernel
theorem dX12_deadLater_25 : decode cX12_deadLater 25 = .ok (.aload_n 0, 1) := by decide +kernel
theorem dX12_deadLater_26 : decode cX12_deadLater 26 = .ok (.iload_n 1, 1) := by decide +kernel
theorem dX12_deadLater_27 : decode cX12_deadLater 27 = .ok (.aload_n 0, 1) := by decide +kernel
theorem dX12_deadLater_28 : decode cX12_deadLater 28 = .ok (.getfield 3, 3) := by decide +kernel
theorem dX12_deadLater_31 : decode cX12_deadLater 31 = .ok (.iconst 0, 1) := by decide +kernel
theorem dX12_deadLater_32 : decode cX12_deadLater 32 = .ok (.iaload, 1) := by decide +kernel
theorem dX12_deadLater_33 : decode cX12_deadLater 33 = .ok (.iconst 1, 1) := by decide +kernel
theorem dX12_deadLater_34 : decode cX12_deadLater 34 = .ok (.iadd, 1) := by decide +kernel
theorem dX12_deadLater_35 : decode cX12_deadLater 35 = .ok (.invokevirtual 212, 3) := by decide +kernel
theorem dX12_deadLater_38 : decode cX12_deadLater 38 = .ok (.ireturn, 1) := by decide +kernel
theorem dX12_deadInAll_0 : decode cX12_deadInAll 0 = .ok (.aload_n 0, 1) := by decide +kernel
theorem dX12_deadInAll_1 : decode cX12_deadInAll 1 = .ok (.iload_n 1, 1) := by decide +kernel
theorem dX12_deadInAll_2 : decode cX12_deadInAll 2 = .ok (.aload_n 0, 1) := by decide +kernel
theorem dX12_deadInAll_3 : decode cX12_deadInAll 3 = .ok (.getfield 3, 3) := by decide +kernel
theorem dX12_deadInAll_6 : decode cX12_deadInAll 6 = .ok (.iconst 1, 1) := by decide +kernel
theorem dX12_deadInAll_7 : decode cX12_deadInAll 7 = .ok (.iaload, 1) := by decide +kernel
theorem dX12_deadInAll_8 : decode cX12_deadInAll 8 = .ok (.invokevirtual 218, 3) := by decide +kernel
theorem dX12_deadInAll_11 : decode cX12_deadInAll 11 = .ok (.aload_n 0, 1) := by decide +kernel
theorem dX12_deadInAll_12 : decode cX12_deadInAll 12 = .ok (.iload_n 1, 1) := by decide +kernel
theorem dX12_deadInAll_13 : decode cX12_deadInAll 13 = .ok (.aload_n 0, 1) := by decide +kernel
theorem dX12_deadInAll_14 : decode cX12_deadInAll 14 = .ok (.getfield 3, 3) := by decide +kernel
theorem dX12_deadInAll_17 : decode cX12_deadInAll 17 = .ok (.iconst 1, 1) := by decide +kernel
theorem dX12_deadInAll_18 : decode cX12_deadInAll 18 = .ok (.iaload, 1) := by decide +kernel
theorem dX12_deadInAll_19 : decode cX12_deadInAll 19 = .ok (.invokevirtual 221, 3) := by decide +kernel
theorem dX12_deadInAll_22 : decode cX12_deadInAll 22 = .ok (.iadd, 1) := by decide +kernel
theorem dX12_deadInAll_23 : decode cX12_deadInAll 23 = .ok (.ireturn, 1) := by decide +kernel
theorem dX12_mostOf_0 : decode cX12_mostOf 0 = .ok (.iconst 0, 1) := by decide +kernel
theorem dX12_mostOf_1 : decode cX12_mostOf 1 = .ok (.aload_n 0, 1) := by decide +kernel
theorem dX12_mostOf_2 : decode cX12_mostOf 2 = .ok (.iload_n 1, 1) := by decide +kernel
theorem dX12_mostOf_3 : decode cX12_mostOf 3 = .ok (.bipush 6, 2) := by decide +kernel
theorem dX12_mostOf_5 : decode cX12_mostOf 5 = .ok (.aload_n 0, 1) := by decide +kernel
theorem dX12_mostOf_6 : decode cX12_mostOf 6 = .ok (.getfield 3, 3) := by decide +kernel
theorem dX12_mostOf_9 : decode cX12_mostOf 9 = .ok (.iconst 0, 1) := by decide +kernel
theorem dX12_mostOf_10 : decode cX12_mostOf 10 = .ok (.iaload, 1) := by decide +kernel
theorem dX12_mostOf_11 : decode cX12_mostOf 11 = .ok (.iadd, 1) := by decide +kernel
theorem dX12_mostOf_12 : decode cX12_mostOf 12 = .ok (.invokevirtual 115, 3) := by decide +kernel
theorem dX12_mostOf_15 : decode cX12_mostOf 15 = .ok (.aload_n 0, 1) := by decide +kernel
theorem dX12_mostOf_16 : decode cX12_mostOf 16 = .ok (.getfield 3, 3) := by decide +kernel
theorem dX12_mostOf_19 : decode cX12_mostOf 19 = .ok (.bipush 6, 2) := by decide +kernel
theorem dX12_mostOf_21 : decode cX12_mostOf 21 = .ok (.iaload, 1) := by decide +kernel
theorem dX12_mostOf_22 : decode cX12_mostOf 22 = .ok (.isub, 1) := by decide +kernel
theorem dX12_mostOf_23 : decode cX12_mostOf 23 = .ok (.invokestatic 224, 3) := by decide +kernel
theorem dX12_mostOf_26 : decode cX12_mostOf 26 = .ok (.ireturn, 1) := by decide +kernel
theorem dX12_layHits_0 : decode cX12_layHits 0 = .ok (.aload_n 0, 1) := by decide +kernel
theorem dX12_layHits_1 : decode cX12_layHits 1 = .ok (.getfield 3, 3) := by decide +kernel
theorem dX12_layHits_4 : decode cX12_layHits 4 = .ok (.iconst 0, 1) := by decide +kernel
theorem dX12_layHits_5 : decode cX12_layHits 5 = .ok (.iaload, 1) := by decide +kernel
theorem dX12_layHits_6 : decode cX12_layHits 6 = .ok (.istore 6, 2) := by decide +kernel
theorem dX12_layHits_8 : decode cX12_layHits 8 = .ok (.iconst 0, 1) := by decide +kernel
theorem dX12_layHits_9 : decode cX12_layHits 9 = .ok (.istore 7, 2) := by decide +kernel
theorem dX12_layHits_11 : decode cX12_layHits 11 = .ok (.iload 7, 2) := by decide +kernel
theorem dX12_layHits_13 : decode cX12_layHits 13 = .ok (.aload_n 0, 1) := by decide +kernel
theorem dX12_layHits_14 : decode cX12_layHits 14 = .ok (.getfield 3, 3) := by decide +kernel
theorem dX12_layHits_17 : decode cX12_layHits 17 = .ok (.bipush 7, 2) := by decide +kernel
theorem dX12_layHits_19 : decode cX12_layHits 19 = .ok (.iaload, 1) := by decide +kernel
theorem dX12_layHits_20 : decode cX12_layHits 20 = .ok (.if_icmp .ge 130, 3) := by decide +kernel
theorem dX12_layHits_23 : decode cX12_layHits 23 = .ok (.aload_n 0, 1) := by decide +kernel
theorem dX12_layHits_24 : decode cX12_layHits 24 = .ok (.getfield 39, 3) := by decide +kernel
theorem dX12_layHits_27 : decode cX12_layHits 27 = .ok (.iload 7, 2) := by decide +kernel
theorem dX12_layHits_29 : decode cX12_layHits 29 = .ok (.iconst (-1), 1) := by decide +kernel
theorem dX12_layHits_30 : decode cX12_layHits 30 = .ok (.iastore, 1) := by decide +kernel
theorem dX12_layHits_31 : decode cX12_layHits 31 = .ok (.aload_n 0, 1) := by decide +kernel
theorem dX12_layHits_32 : decode cX12_layHits 32 = .ok (.iload 7, 2) := by decide +kernel
theorem dX12_layHits_34 : decode cX12_layHits 34 = .ok (.invokevirtual 209, 3) := by decide +kernel
theorem dX12_layHits_37 : decode cX12_layHits 37 = .ok (.ifCond .eq 107, 3) := by decide +kernel
theorem dX12_layHits_40 : decode cX12_layHits 40 = .ok (.lload_n 1, 1) := by decide +kernel
theorem dX12_layHits_41 : decode cX12_layHits 41 = .ok (.iload 7, 2) := by decide +kernel
theorem dX12_layHits_43 : decode cX12_layHits 43 = .ok (.lshr, 1) := by decide +kernel
theorem dX12_layHits_44 : decode cX12_layHits 44 = .ok (.lconst 1, 1) := by decide +kernel
theorem dX12_layHits_45 : decode cX12_layHits 45 = .ok (.land, 1) := by decide +kernel
theorem dX12_layHits_46 : decode cX12_layHits 46 = .ok (.lconst 1, 1) := by decide +kernel
theorem dX12_layHits_47 : decode cX12_layHits 47 = .ok (.lcmp, 1) := by decide +kernel
theorem dX12_layHits_48 : decode cX12_layHits 48 = .ok (.ifCond .ne 6, 3) := by decide +kernel
theorem dX12_layHits_51 : decode cX12_layHits 51 = .ok (.goto 93, 3) := by decide +kernel
theorem dX12_layHits_54 : decode cX12_layHits 54 = .ok (.lload_n 3, 1) := by decide +kernel
theorem dX12_layHits_55 : decode cX12_layHits 55 = .ok (.iload 7, 2) := by decide +kernel
theorem dX12_layHits_57 : decode cX12_layHits 57 = .ok (.lshr, 1) := by decide +kernel
theorem dX12_layHits_58 : decode cX12_layHits 58 = .ok (.lconst 1, 1) := by decide +kernel
theorem dX12_layHits_59 : decode cX12_layHits 59 = .ok (.land, 1) := by decide +kernel
theorem dX12_layHits_60 : decode cX12_layHits 60 = .ok (.lconst 1, 1) := by decide +kernel
theorem dX12_layHits_61 : decode cX12_layHits 61 = .ok (.lcmp, 1) := by decide +kernel
theorem dX12_layHits_62 : decode cX12_layHits 62 = .ok (.ifCond .ne 12, 3) := by decide +kernel
theorem dX12_layHits_65 : decode cX12_layHits 65 = .ok (.aload_n 0, 1) := by decide +kernel
theorem dX12_layHits_66 : decode cX12_layHits 66 = .ok (.iload 7, 2) := by decide +kernel
theorem dX12_layHits_68 : decode cX12_layHits 68 = .ok (.invokevirtual 227, 3) := by decide +kernel
theorem dX12_layHits_71 : decode cX12_layHits 71 = .ok (.goto 4, 3) := by decide +kernel
theorem dX12_layHits_74 : decode cX12_layHits 74 = .ok (.iconst 0, 1) := by decide +kernel
theorem dX12_layHits_75 : decode cX12_layHits 75 = .ok (.istore 8, 2) := by decide +kernel
theorem dX12_layHits_77 : decode cX12_layHits 77 = .ok (.iload 8, 2) := by decide +kernel
theorem dX12_layHits_79 : decode cX12_layHits 79 = .ok (.ifCond .ne 7, 3) := by decide +kernel
theorem dX12_layHits_82 : decode cX12_layHits 82 = .ok (.iconst 0, 1) := by decide +kernel
theorem dX12_layHits_83 : decode cX12_layHits 83 = .ok (.goto 17, 3) := by decide +kernel
theorem dX12_layHits_86 : decode cX12_layHits 86 = .ok (.iload 8, 2) := by decide +kernel
theorem dX12_layHits_88 : decode cX12_layHits 88 = .ok (.aload_n 0, 1) := by decide +kernel
theorem dX12_layHits_89 : decode cX12_layHits 89 = .ok (.iload 7, 2) := by decide +kernel
theorem dX12_layHits_91 : decode cX12_layHits 91 = .ok (.iload 6, 2) := by decide +kernel
theorem dX12_layHits_93 : decode cX12_layHits 93 = .ok (.invokevirtual 125, 3) := by decide +kernel
theorem dX12_layHits_96 : decode cX12_layHits 96 = .ok (.iconst 0, 1) := by decide +kernel
theorem dX12_layHits_97 : decode cX12_layHits 97 = .ok (.invokestatic 128, 3) := by decide +kernel
theorem dX12_layHits_100 : decode cX12_layHits 100 = .ok (.istore 9, 2) := by decide +kernel
theorem dX12_layHits_102 : decode cX12_layHits 102 = .ok (.aload_n 0, 1) := by decide +kernel
theorem dX12_layHits_103 : decode cX12_layHits 103 = .ok (.getfield 39, 3) := by decide +kernel
theorem dX12_layHits_106 : decode cX12_layHits 106 = .ok (.iload 7, 2) := by decide +kernel
theorem dX12_layHits_108 : decode cX12_layHits 108 = .ok (.aload_n 0, 1) := by decide +kernel
theorem dX12_layHits_109 : decode cX12_layHits 109 = .ok (.iload 7, 2) := by decide +kernel
theorem dX12_layHits_111 : decode cX12_layHits 111 = .ok (.iload 6, 2) := by decide +kernel
theorem dX12_layHits_113 : decode cX12_layHits 113 = .ok (.invokevirtual 230, 3) := by decide +kernel
theorem dX12_layHits_116 : decode cX12_layHits 116 = .ok (.iload 8, 2) := by decide +kernel
theorem dX12_layHits_118 : decode cX12_layHits 118 = .ok (.isub, 1) := by decide +kernel
theorem dX12_layHits_119 : decode cX12_layHits 119 = .ok (.iload 9, 2) := by decide +kernel
theorem dX12_layHits_121 : decode cX12_layHits 121 = .ok (.iadd, 1) := by decide +kernel
theorem dX12_layHits_122 : decode cX12_layHits 122 = .ok (.iastore, 1) := by decide +kernel
theorem dX12_layHits_123 : decode cX12_layHits 123 = .ok (.aload_n 0, 1) := by decide +kernel
theorem dX12_layHits_124 : decode cX12_layHits 124 = .ok (.getfield 42, 3) := by decide +kernel
theorem dX12_layHits_127 : decode cX12_layHits 127 = .ok (.iload 7, 2) := by decide +kernel
theorem dX12_layHits_129 : decode cX12_layHits 129 = .ok (.aload_n 0, 1) := by decide +kernel
theorem dX12_layHits_130 : decode cX12_layHits 130 = .ok (.iload 7, 2) := by decide +kernel
theorem dX12_layHits_132 : decode cX12_layHits 132 = .ok (.bipush 46, 2) := by decide +kernel
theorem dX12_layHits_134 : decode cX12_layHits 134 = .ok (.iload 6, 2) := by decide +kernel
theorem dX12_layHits_136 : decode cX12_layHits 136 = .ok (.iadd, 1) := by decide +kernel
theorem dX12_layHits_137 : decode cX12_layHits 137 = .ok (.invokevirtual 115, 3) := by decide +kernel
theorem dX12_layHits_140 : decode cX12_layHits 140 = .ok (.iload 9, 2) := by decide +kernel
theorem dX12_layHits_142 : decode cX12_layHits 142 = .ok (.iadd, 1) := by decide +kernel
theorem dX12_layHits_143 : decode cX12_layHits 143 = .ok (.iastore, 1) := by decide +kernel
theorem dX12_layHits_144 : decode cX12_layHits 144 = .ok (.iinc 7 1, 3) := by decide +kernel
theorem dX12_layHits_147 : decode cX12_layHits 147 = .ok (.goto (-136), 3) := by decide +kernel
theorem dX12_layHits_150 : decode cX12_layHits 150 = .ok (.iconst 0, 1) := by decide +kernel
theorem dX12_layHits_151 : decode cX12_layHits 151 = .ok (.istore 7, 2) := by decide +kernel
theorem dX12_layHits_153 : decode cX12_layHits 153 = .ok (.iload 7, 2) := by decide +kernel
theorem dX12_layHits_155 : decode cX12_layHits 155 = .ok (.aload_n 0, 1) := by decide +kernel
theorem dX12_layHits_156 : decode cX12_layHits 156 = .ok (.getfield 3, 3) := by decide +kernel
theorem dX12_layHits_159 : decode cX12_layHits 159 = .ok (.bipush 7, 2) := by decide +kernel
theorem dX12_layHits_161 : decode cX12_layHits 161 = .ok (.iaload, 1) := by decide +kernel
theorem dX12_layHits_162 : decode cX12_layHits 162 = .ok (.if_icmp .ge 129, 3) := by decide +kernel
theorem dX12_layHits_165 : decode cX12_layHits 165 = .ok (.iconst 0, 1) := by decide +kernel
theorem dX12_layHits_166 : decode cX12_layHits 166 = .ok (.istore 8, 2) := by decide +kernel
theorem dX12_layHits_168 : decode cX12_layHits 168 = .ok (.iconst 0, 1) := by decide +kernel
theorem dX12_layHits_169 : decode cX12_layHits 169 = .ok (.istore 9, 2) := by decide +kernel
theorem dX12_layHits_171 : decode cX12_layHits 171 = .ok (.iload 9, 2) := by decide +kernel
theorem dX12_layHits_173 : decode cX12_layHits 173 = .ok (.aload_n 0, 1) := by decide +kernel
theorem dX12_layHits_174 : decode cX12_layHits 174 = .ok (.getfield 3, 3) := by decide +kernel
theorem dX12_layHits_177 : decode cX12_layHits 177 = .ok (.bipush 7, 2) := by decide +kernel
theorem dX12_layHits_179 : decode cX12_layHits 179 = .ok (.iaload, 1) := by decide +kernel
theorem dX12_layHits_180 : decode cX12_layHits 180 = .ok (.if_icmp .ge 60, 3) := by decide +kernel
theorem dX12_layHits_183 : decode cX12_layHits 183 = .ok (.iload 8, 2) := by decide +kernel
theorem dX12_layHits_185 : decode cX12_layHits 185 = .ok (.aload_n 0, 1) := by decide +kernel
theorem dX12_layHits_186 : decode cX12_layHits 186 = .ok (.getfield 39, 3) := by decide +kernel
theorem dX12_layHits_189 : decode cX12_layHits 189 = .ok (.iload 9, 2) := by decide +kernel
theorem dX12_layHits_191 : decode cX12_layHits 191 = .ok (.iaload, 1) := by decide +kernel
theorem dX12_layHits_192 : decode cX12_layHits 192 = .ok (.aload_n 0, 1) := by decide +kernel
theorem dX12_layHits_193 : decode cX12_layHits 193 = .ok (.getfield 39, 3) := by decide +kernel
theorem dX12_layHits_196 : decode cX12_layHits 196 = .ok (.iload 7, 2) := by decide +kernel
theorem dX12_layHits_198 : decode cX12_layHits 198 = .ok (.iaload, 1) := by decide +kernel
theorem dX12_layHits_199 : decode cX12_layHits 199 = .ok (.if_icmp .gt 27, 3) := by decide +kernel
theorem dX12_layHits_202 : decode cX12_layHits 202 = .ok (.aload_n 0, 1) := by decide +kernel
theorem dX12_layHits_203 : decode cX12_layHits 203 = .ok (.getfield 39, 3) := by decide +kernel
theorem dX12_layHits_206 : decode cX12_layHits 206 = .ok (.iload 9, 2) := by decide +kernel
theorem dX12_layHits_208 : decode cX12_layHits 208 = .ok (.iaload, 1) := by decide +kernel
theorem dX12_layHits_209 : decode cX12_layHits 209 = .ok (.aload_n 0, 1) := by decide +kernel
theorem dX12_layHits_210 : decode cX12_layHits 210 = .ok (.getfield 39, 3) := by decide +kernel
theorem dX12_layHits_213 : decode cX12_layHits 213 = .ok (.iload 7, 2) := by decide +kernel
theorem dX12_layHits_215 : decode cX12_layHits 215 = .ok (.iaload, 1) := by decide +kernel
theorem dX12_layHits_216 : decode cX12_layHits 216 = .ok (.if_icmp .ne 14, 3) := by decide +kernel
theorem dX12_layHits_219 : decode cX12_layHits 219 = .ok (.iload 9, 2) := by decide +kernel
theorem dX12_layHits_221 : decode cX12_layHits 221 = .ok (.iload 7, 2) := by decide +kernel
theorem dX12_layHits_223 : decode cX12_layHits 223 = .ok (.if_icmp .ge 7, 3) := by decide +kernel
theorem dX12_layHits_226 : decode cX12_layHits 226 = .ok (.iconst 1, 1) := by decide +kernel
theorem dX12_layHits_227 : decode cX12_layHits 227 = .ok (.goto 4, 3) := by decide +kernel
theorem dX12_layHits_230 : decode cX12_layHits 230 = .ok (.iconst 0, 1) := by decide +kernel
theorem dX12_layHits_231 : decode cX12_layHits 231 = .ok (.iadd, 1) := by decide +kernel
theorem dX12_layHits_232 : decode cX12_layHits 232 = .ok (.istore 8, 2) := by decide +kernel
theorem dX12_layHits_234 : decode cX12_layHits 234 = .ok (.iinc 9 1, 3) := by decide +kernel
theorem dX12_layHits_237 : decode cX12_layHits 237 = .ok (.goto (-66), 3) := by decide +kernel
theorem dX12_layHits_240 : decode cX12_layHits 240 = .ok (.aload_n 0, 1) := by decide +kernel
theorem dX12_layHits_241 : decode cX12_layHits 241 = .ok (.getfield 45, 3) := by decide +kernel
theorem dX12_layHits_244 : decode cX12_layHits 244 = .ok (.iload 7, 2) := by decide +kernel
theorem dX12_layHits_246 : decode cX12_layHits 246 = .ok (.aload_n 0, 1) := by decide +kernel
theorem dX12_layHits_247 : decode cX12_layHits 247 = .ok (.getfield 39, 3) := by decide +kernel
theorem dX12_layHits_250 : decode cX12_layHits 250 = .ok (.iload 7, 2) := by decide +kernel
theorem dX12_layHits_252 : decode cX12_layHits 252 = .ok (.iaload, 1) := by decide +kernel
theorem dX12_layHits_253 : decode cX12_layHits 253 = .ok (.iconst (-1), 1) := by decide +kernel
theorem dX12_layHits_254 : decode cX12_layHits 254 = .ok (.if_icmp .eq 29, 3) := by decide +kernel
theorem dX12_layHits_257 : decode cX12_layHits 257 = .ok (.iload 5, 2) := by decide +kernel
theorem dX12_layHits_259 : decode cX12_layHits 259 = .ok (.aload_n 0, 1) := by decide +kernel
theorem dX12_layHits_260 : decode cX12_layHits 260 = .ok (.getfield 3, 3) := by decide +kernel
theorem dX12_layHits_263 : decode cX12_layHits 263 = .ok (.iconst 4, 1) := by decide +kernel
theorem dX12_layHits_264 : decode cX12_layHits 264 = .ok (.iaload, 1) := by decide +kernel
theorem dX12_layHits_265 : decode cX12_layHits 265 = .ok (.if_icmp .ge 14, 3) := by decide +kernel
theorem dX12_layHits_268 : decode cX12_layHits 268 = .ok (.iload 8, 2) := by decide +kernel
theorem dX12_layHits_270 : decode cX12_layHits 270 = .ok (.aload_n 0, 1) := by decide +kernel
theorem dX12_layHits_271 : decode cX12_layHits 271 = .ok (.getfield 3, 3) := by decide +kernel
theorem dX12_layHits_274 : decode cX12_layHits 274 = .ok (.iconst 5, 1) := by decide +kernel
theorem dX12_layHits_275 : decode cX12_layHits 275 = .ok (.iaload, 1) := by decide +kernel
theorem dX12_layHits_276 : decode cX12_layHits 276 = .ok (.if_icmp .ge 7, 3) := by decide +kernel
theorem dX12_layHits_279 : decode cX12_layHits 279 = .ok (.iconst 1, 1) := by decide +kernel
theorem dX12_layHits_280 : decode cX12_layHits 280 = .ok (.goto 4, 3) := by decide +kernel
theorem dX12_layHits_283 : decode cX12_layHits 283 = .ok (.iconst 0, 1) := by decide +kernel
theorem dX12_layHits_284 : decode cX12_layHits 284 = .ok (.bastore, 1) := by decide +kernel
theorem dX12_layHits_285 : decode cX12_layHits 285 = .ok (.iinc 7 1, 3) := by decide +kernel
theorem dX12_layHits_288 : decode cX12_layHits 288 = .ok (.goto (-135), 3) := by decide +kernel
theorem dX12_layHits_291 : decode cX12_layHits 291 = .ok (.return_, 1) := by decide +kernel
theorem dX12_promisesOf_0 : decode cX12_promisesOf 0 = .ok (.iconst 0, 1) := by decide +kernel
theorem dX12_promisesOf_1 : decode cX12_promisesOf 1 = .ok (.istore 5, 2) := by decide +kernel
theorem dX12_promisesOf_3 : decode cX12_promisesOf 3 = .ok (.iconst 0, 1) := by decide +kernel
theorem dX12_promisesOf_4 : decode cX12_promisesOf 4 = .ok (.istore 6, 2) := by decide +kernel
theorem dX12_promisesOf_6 : decode cX12_promisesOf 6 = .ok (.iload 6, 2) := by decide +kernel
theorem dX12_promisesOf_8 : decode cX12_promisesOf 8 = .ok (.aload_n 0, 1) := by decide +kernel
theorem dX12_promisesOf_9 : decode cX12_promisesOf 9 = .ok (.getfield 3, 3) := by decide +kernel
theorem dX12_promisesOf_12 : decode cX12_promisesOf 12 = .ok (.sipush 3571, 3) := by decide +kernel
theorem dX12_promisesOf_15 : decode cX12_promisesOf 15 = .ok (.iaload, 1) := by decide +kernel
theorem dX12_promisesOf_16 : decode cX12_promisesOf 16 = .ok (.if_icmp .ge 90, 3) := by decide +kernel
theorem dX12_promisesOf_19 : decode cX12_promisesOf 19 = .ok (.sipush 3620, 3) := by decide +kernel
theorem dX12_promisesOf_22 : decode cX12_promisesOf 22 = .ok (.iconst 5, 1) := by decide +kernel
theorem dX12_promisesOf_23 : decode cX12_promisesOf 23 = .ok (.iload 6, 2) := by decide +kernel
theorem dX12_promisesOf_25 : decode cX12_promisesOf 25 = .ok (.imul, 1) := by decide +kernel
theorem dX12_promisesOf_26 : decode cX12_promisesOf 26 = .ok (.iadd, 1) := by decide +kernel
theorem dX12_promisesOf_27 : decode cX12_promisesOf 27 = .ok (.istore 7, 2) := by decide +kernel
theorem dX12_promisesOf_29 : decode cX12_promisesOf 29 = .ok (.aload_n 0, 1) := by decide +kernel
theorem dX12_promisesOf_30 : decode cX12_promisesOf 30 = .ok (.getfield 3, 3) := by decide +kernel
theorem dX12_promisesOf_33 : decode cX12_promisesOf 33 = .ok (.iload 7, 2) := by decide +kernel
theorem dX12_promisesOf_35 : decode cX12_promisesOf 35 = .ok (.iaload, 1) := by decide +kernel
theorem dX12_promisesOf_36 : decode cX12_promisesOf 36 = .ok (.iload_n 1, 1) := by decide +kernel
theorem dX12_promisesOf_37 : decode cX12_promisesOf 37 = .ok (.if_icmp .ne 63, 3) := by decide +kernel
theorem dX12_promisesOf_40 : decode cX12_promisesOf 40 = .ok (.aload_n 0, 1) := by decide +kernel
theorem dX12_promisesOf_41 : decode cX12_promisesOf 41 = .ok (.getfield 3, 3) := by decide +kernel
theorem dX12_promisesOf_44 : decode cX12_promisesOf 44 = .ok (.iload 7, 2) := by decide +kernel
theorem dX12_promisesOf_46 : decode cX12_promisesOf 46 = .ok (.iconst 1, 1) := by decide +kernel
theorem dX12_promisesOf_47 : decode cX12_promisesOf 47 = .ok (.iadd, 1) := by decide +kernel
theorem dX12_promisesOf_48 : decode cX12_promisesOf 48 = .ok (.iaload, 1) := by decide +kernel
theorem dX12_promisesOf_49 : decode cX12_promisesOf 49 = .ok (.iload_n 2, 1) := by decide +kernel
theorem dX12_promisesOf_50 : decode cX12_promisesOf 50 = .ok (.if_icmp .ne 50, 3) := by decide +kernel
theorem dX12_promisesOf_53 : decode cX12_promisesOf 53 = .ok (.aload_n 0, 1) := by decide +kernel
theorem dX12_promisesOf_54 : decode cX12_promisesOf 54 = .ok (.getfield 3, 3) := by decide +kernel
theorem dX12_promisesOf_57 : decode cX12_promisesOf 57 = .ok (.iload 7, 2) := by decide +kernel
theorem dX12_promisesOf_59 : decode cX12_promisesOf 59 = .ok (.iconst 3, 1) := by decide +kernel
theorem dX12_promisesOf_60 : decode cX12_promisesOf 60 = .ok (.iadd, 1) := by decide +kernel
theorem dX12_promisesOf_61 : decode cX12_promisesOf 61 = .ok (.iaload, 1) := by decide +kernel
theorem dX12_promisesOf_62 : decode cX12_promisesOf 62 = .ok (.iload_n 3, 1) := by decide +kernel
theorem dX12_promisesOf_63 : decode cX12_promisesOf 63 = .ok (.if_icmp .ne 37, 3) := by decide +kernel
theorem dX12_promisesOf_66 : decode cX12_promisesOf 66 = .ok (.iload 4, 2) := by decide +kernel
theorem dX12_promisesOf_68 : decode cX12_promisesOf 68 = .ok (.iconst (-1), 1) := by decide +kernel
theorem dX12_promisesOf_69 : decode cX12_promisesOf 69 = .ok (.if_icmp .eq 17, 3) := by decide +kernel
theorem dX12_promisesOf_72 : decode cX12_promisesOf 72 = .ok (.aload_n 0, 1) := by decide +kernel
theorem dX12_promisesOf_73 : decode cX12_promisesOf 73 = .ok (.getfield 3, 3) := by decide +kernel
theorem dX12_promisesOf_76 : decode cX12_promisesOf 76 = .ok (.iload 7, 2) := by decide +kernel
theorem dX12_promisesOf_78 : decode cX12_promisesOf 78 = .ok (.iconst 4, 1) := by decide +kernel
theorem dX12_promisesOf_79 : decode cX12_promisesOf 79 = .ok (.iadd, 1) := by decide +kernel
theorem dX12_promisesOf_80 : decode cX12_promisesOf 80 = .ok (.iaload, 1) := by decide +kernel
theorem dX12_promisesOf_81 : decode cX12_promisesOf 81 = .ok (.iload 4, 2) := by decide +kernel
theorem dX12_promisesOf_83 : decode cX12_promisesOf 83 = .ok (.if_icmp .ne 17, 3) := by decide +kernel
theorem dX12_promisesOf_86 : decode cX12_promisesOf 86 = .ok (.iload 5, 2) := by decide +kernel
theorem dX12_promisesOf_88 : decode cX12_promisesOf 88 = .ok (.aload_n 0, 1) := by decide +kernel
theorem dX12_promisesOf_89 : decode cX12_promisesOf 89 = .ok (.getfield 3, 3) := by decide +kernel
theorem dX12_promisesOf_92 : decode cX12_promisesOf 92 = .ok (.iload 7, 2) := by decide +kernel
theorem dX12_promisesOf_94 : decode cX12_promisesOf 94 = .ok (.iconst 2, 1) := by decide +kernel
theorem dX12_promisesOf_95 : decode cX12_promisesOf 95 = .ok (.iadd, 1) := by decide +kernel
theorem dX12_promisesOf_96 : decode cX12_promisesOf 96 = .ok (.iaload, 1) := by decide +kernel
theorem dX12_promisesOf_97 : decode cX12_promisesOf 97 = .ok (.iadd, 1) := by decide +kernel
theorem dX12_promisesOf_98 : decode cX12_promisesOf 98 = .ok (.istore 5, 2) := by decide +kernel
theorem dX12_promisesOf_100 : decode cX12_promisesOf 100 = .ok (.iinc 6 1, 3) := by decide +kernel
theorem dX12_promisesOf_103 : decode cX12_promisesOf 103 = .ok (.goto (-97), 3) := by decide +kernel
theorem dX12_promisesOf_106 : decode cX12_promisesOf 106 = .ok (.iload 5, 2) := by decide +kernel
theorem dX12_promisesOf_108 : decode cX12_promisesOf 108 = .ok (.ireturn, 1) := by decide +kernel
theorem dX12_countOf_0 : decode cX12_countOf 0 = .ok (.aload_n 0, 1) := by decide +kernel
theorem dX12_countOf_1 : decode cX12_countOf 1 = .ok (.lload_n 1, 1) := by decide +kernel
theorem dX12_countOf_2 : decode cX12_countOf 2 = .ok (.lload_n 3, 1) := by decide +kernel
theorem dX12_countOf_3 : decode cX12_countOf 3 = .ok (.iload 5, 2) := by decide +kernel
theorem dX12_countOf_5 : decode cX12_countOf 5 = .ok (.invokevirtual 233, 3) := by decide +kernel
theorem dX12_countOf_8 : decode cX12_countOf 8 = .ok (.aload_n 0, 1) := by decide +kernel
theorem dX12_countOf_9 : decode cX12_countOf 9 = .ok (.getfield 3, 3) := by decide +kernel
theorem dX12_countOf_12 : decode cX12_countOf 12 = .ok (.bipush 30, 2) := by decide +kernel
theorem dX12_countOf_14 : decode cX12_countOf 14 = .ok (.aload_n 0, 1) := by decide +kernel
theorem dX12_countOf_15 : decode cX12_countOf 15 = .ok (.getfield 3, 3) := by decide +kernel
theorem dX12_countOf_18 : decode cX12_countOf 18 = .ok (.iconst 0, 1) := by decide +kernel
theorem dX12_countOf_19 : decode cX12_countOf 19 = .ok (.iaload, 1) := by decide +kernel
theorem dX12_countOf_20 : decode cX12_countOf 20 = .ok (.iadd, 1) := by decide +kernel
theorem dX12_countOf_21 : decode cX12_countOf 21 = .ok (.iaload, 1) := by decide +kernel
theorem dX12_countOf_22 : decode cX12_countOf 22 = .ok (.istore 6, 2) := by decide +kernel
theorem dX12_countOf_24 : decode cX12_countOf 24 = .ok (.iconst 0, 1) := by decide +kernel
theorem dX12_countOf_25 : decode cX12_countOf 25 = .ok (.istore 7, 2) := by decide +kernel
theorem dX12_countOf_27 : decode cX12_countOf 27 = .ok (.iload 7, 2) := by decide +kernel
theorem dX12_countOf_29 : decode cX12_countOf 29 = .ok (.aload_n 0, 1) := by decide +kernel
theorem dX12_countOf_30 : decode cX12_countOf 30 = .ok (.getfield 3, 3) := by decide +kernel
theorem dX12_countOf_33 : decode cX12_countOf 33 = .ok (.bipush 7, 2) := by decide +kernel
theorem dX12_countOf_35 : decode cX12_countOf 35 = .ok (.iaload, 1) := by decide +kernel
theorem dX12_countOf_36 : decode cX12_countOf 36 = .ok (.if_icmp .ge 94, 3) := by decide +kernel
theorem dX12_countOf_39 : decode cX12_countOf 39 = .ok (.lload_n 1, 1) := by decide +kernel
theorem dX12_countOf_40 : decode cX12_countOf 40 = .ok (.iload 7, 2) := by decide +kernel
theorem dX12_countOf_42 : decode cX12_countOf 42 = .ok (.lshr, 1) := by decide +kernel
theorem dX12_countOf_43 : decode cX12_countOf 43 = .ok (.lconst 1, 1) := by decide +kernel
theorem dX12_countOf_44 : decode cX12_countOf 44 = .ok (.land, 1) := by decide +kernel
theorem dX12_countOf_45 : decode cX12_countOf 45 = .ok (.lconst 1, 1) := by decide +kernel
theorem dX12_countOf_46 : decode cX12_countOf 46 = .ok (.lcmp, 1) := by decide +kernel
theorem dX12_countOf_47 : decode cX12_countOf 47 = .ok (.ifCond .ne 19, 3) := by decide +kernel
theorem dX12_countOf_50 : decode cX12_countOf 50 = .ok (.iload 6, 2) := by decide +kernel
theorem dX12_countOf_52 : decode cX12_countOf 52 = .ok (.aload_n 0, 1) := by decide +kernel
theorem dX12_countOf_53 : decode cX12_countOf 53 = .ok (.iload 7, 2) := by decide +kernel
theorem dX12_countOf_55 : decode cX12_countOf 55 = .ok (.iload 5, 2) := by decide +kernel
theorem dX12_countOf_57 : decode cX12_countOf 57 = .ok (.invokevirtual 218, 3) := by decide +kernel
theorem dX12_countOf_60 : decode cX12_countOf 60 = .ok (.iadd, 1) := by decide +kernel
theorem dX12_countOf_61 : decode cX12_countOf 61 = .ok (.istore 6, 2) := by decide +kernel
theorem dX12_countOf_63 : decode cX12_countOf 63 = .ok (.goto 61, 3) := by decide +kernel
theorem dX12_countOf_66 : decode cX12_countOf 66 = .ok (.aload_n 0, 1) := by decide +kernel
theorem dX12_countOf_67 : decode cX12_countOf 67 = .ok (.getfield 39, 3) := by decide +kernel
theorem dX12_countOf_70 : decode cX12_countOf 70 = .ok (.iload 7, 2) := by decide +kernel
theorem dX12_countOf_72 : decode cX12_countOf 72 = .ok (.iaload, 1) := by decide +kernel
theorem dX12_countOf_73 : decode cX12_countOf 73 = .ok (.iconst (-1), 1) := by decide +kernel
theorem dX12_countOf_74 : decode cX12_countOf 74 = .ok (.if_icmp .eq 50, 3) := by decide +kernel
theorem dX12_countOf_77 : decode cX12_countOf 77 = .ok (.iload 6, 2) := by decide +kernel
theorem dX12_countOf_79 : decode cX12_countOf 79 = .ok (.aload_n 0, 1) := by decide +kernel
theorem dX12_countOf_80 : decode cX12_countOf 80 = .ok (.getfield 45, 3) := by decide +kernel
theorem dX12_countOf_83 : decode cX12_countOf 83 = .ok (.iload 7, 2) := by decide +kernel
theorem dX12_countOf_85 : decode cX12_countOf 85 = .ok (.baload, 1) := by decide +kernel
theorem dX12_countOf_86 : decode cX12_countOf 86 = .ok (.ifCond .eq 13, 3) := by decide +kernel
theorem dX12_countOf_89 : decode cX12_countOf 89 = .ok (.aload_n 0, 1) := by decide +kernel
theorem dX12_countOf_90 : decode cX12_countOf 90 = .ok (.getfield 39, 3) := by decide +kernel
theorem dX12_countOf_93 : decode cX12_countOf 93 = .ok (.iload 7, 2) := by decide +kernel
theorem dX12_countOf_95 : decode cX12_countOf 95 = .ok (.iaload, 1) := by decide +kernel
theorem dX12_countOf_96 : decode cX12_countOf 96 = .ok (.goto 10, 3) := by decide +kernel
theorem dX12_countOf_99 : decode cX12_countOf 99 = .ok (.aload_n 0, 1) := by decide +kernel
theorem dX12_countOf_100 : decode cX12_countOf 100 = .ok (.getfield 42, 3) := by decide +kernel
theorem dX12_countOf_103 : decode cX12_countOf 103 = .ok (.iload 7, 2) := by decide +kernel
theorem dX12_countOf_105 : decode cX12_countOf 105 = .ok (.iaload, 1) := by decide +kernel
theorem dX12_countOf_106 : decode cX12_countOf 106 = .ok (.aload_n 0, 1) := by decide +kernel
theorem dX12_countOf_107 : decode cX12_countOf 107 = .ok (.iload 7, 2) := by decide +kernel
theorem dX12_countOf_109 : decode cX12_countOf 109 = .ok (.aload_n 0, 1) := by decide +kernel
theorem dX12_countOf_110 : decode cX12_countOf 110 = .ok (.getfield 3, 3) := by decide +kernel
theorem dX12_countOf_113 : decode cX12_countOf 113 = .ok (.iconst 0, 1) := by decide +kernel
theorem dX12_countOf_114 : decode cX12_countOf 114 = .ok (.iaload, 1) := by decide +kernel
theorem dX12_countOf_115 : decode cX12_countOf 115 = .ok (.iconst 1, 1) := by decide +kernel
theorem dX12_countOf_116 : decode cX12_countOf 116 = .ok (.iconst (-1), 1) := by decide +kernel
theorem dX12_countOf_117 : decode cX12_countOf 117 = .ok (.invokevirtual 237, 3) := by decide +kernel
theorem dX12_countOf_120 : decode cX12_countOf 120 = .ok (.iadd, 1) := by decide +kernel
theorem dX12_countOf_121 : decode cX12_countOf 121 = .ok (.iadd, 1) := by decide +kernel
theorem dX12_countOf_122 : decode cX12_countOf 122 = .ok (.istore 6, 2) := by decide +kernel
theorem dX12_countOf_124 : decode cX12_countOf 124 = .ok (.iinc 7 1, 3) := by decide +kernel
theorem dX12_countOf_127 : decode cX12_countOf 127 = .ok (.goto (-100), 3) := by decide +kernel
theorem dX12_countOf_130 : decode cX12_countOf 130 = .ok (.iload 6, 2) := by decide +kernel
theorem dX12_countOf_132 : decode cX12_countOf 132 = .ok (.ireturn, 1) := by decide +kernel
theorem dX12_roomOf_0 : decode cX12_roomOf 0 = .ok (.aload_n 0, 1) := by decide +kernel
theorem dX12_roomOf_1 : decode cX12_roomOf 1 = .ok (.getfield 3, 3) := by decide +kernel
theorem dX12_roomOf_4 : decode cX12_roomOf 4 = .ok (.bipush 10, 2) := by decide +kernel
theorem dX12_roomOf_6 : decode cX12_roomOf 6 = .ok (.aload_n 0, 1) := by decide +kernel
theorem dX12_roomOf_7 : decode cX12_roomOf 7 = .ok (.getfield 3, 3) := by decide +kernel
theorem dX12_roomOf_10 : decode cX12_roomOf 10 = .ok (.iconst 0, 1) := by decide +kernel
theorem dX12_roomOf_11 : decode cX12_roomOf 11 = .ok (.iaload, 1) := by decide +kernel
theorem dX12_roomOf_12 : decode cX12_roomOf 12 = .ok (.iadd, 1) := by decide +kernel
theorem dX12_roomOf_13 : decode cX12_roomOf 13 = .ok (.iaload, 1) := by decide +kernel
theorem dX12_roomOf_14 : decode cX12_roomOf 14 = .ok (.aload_n 0, 1) := by decide +kernel
theorem dX12_roomOf_15 : decode cX12_roomOf 15 = .ok (.lload_n 1, 1) := by decide +kernel
theorem dX12_roomOf_16 : decode cX12_roomOf 16 = .ok (.lload_n 3, 1) := by decide +kernel
theorem dX12_roomOf_17 : decode cX12_roomOf 17 = .ok (.aload_n 0, 1) := by decide +kernel
theorem dX12_roomOf_18 : decode cX12_roomOf 18 = .ok (.getfield 3, 3) := by decide +kernel
theorem dX12_roomOf_21 : decode cX12_roomOf 21 = .ok (.iconst 1, 1) := by decide +kernel
theorem dX12_roomOf_22 : decode cX12_roomOf 22 = .ok (.iaload, 1) := by decide +kernel
theorem dX12_roomOf_23 : decode cX12_roomOf 23 = .ok (.invokevirtual 241, 3) := by decide +kernel
theorem dX12_roomOf_26 : decode cX12_roomOf 26 = .ok (.isub, 1) := by decide +kernel
theorem dX12_roomOf_27 : decode cX12_roomOf 27 = .ok (.ireturn, 1) := by decide +kernel
theorem dX12_savedOn_0 : decode cX12_savedOn 0 = .ok (.aload_n 0, 1) := by decide +kernel
theorem dX12_savedOn_1 : decode cX12_savedOn 1 = .ok (.lconst 0, 1) := by decide +kernel
theorem dX12_savedOn_2 : decode cX12_savedOn 2 = .ok (.lconst 0, 1) := by decide +kernel
theorem dX12_savedOn_3 : decode cX12_savedOn 3 = .ok (.iload_n 2, 1) := by decide +kernel
theorem dX12_savedOn_4 : decode cX12_savedOn 4 = .ok (.invokevirtual 241, 3) := by decide +kernel
theorem dX12_savedOn_7 : decode cX12_savedOn 7 = .ok (.aload_n 0, 1) := by decide +kernel
theorem dX12_savedOn_8 : decode cX12_savedOn 8 = .ok (.lconst 1, 1) := by decide +kernel
theorem dX12_savedOn_9 : decode cX12_savedOn 9 = .ok (.iload_n 1, 1) := by decide +kernel
theorem dX12_savedOn_10 : decode cX12_savedOn 10 = .ok (.lshl, 1) := by decide +kernel
theorem dX12_savedOn_11 : decode cX12_savedOn 11 = .ok (.lconst 0, 1) := by decide +kernel
theorem dX12_savedOn_12 : decode cX12_savedOn 12 = .ok (.iload_n 2, 1) := by decide +kernel
theorem dX12_savedOn_13 : decode cX12_savedOn 13 = .ok (.invokevirtual 241, 3) := by decide +kernel
theorem dX12_savedOn_16 : decode cX12_savedOn 16 = .ok (.isub, 1) := by decide +kernel
theorem dX12_savedOn_17 : decode cX12_savedOn 17 = .ok (.ireturn, 1) := by decide +kernel
theorem dX12_now_0 : decode cX12_now 0 = .ok (.iload_n 1, 1) := by decide +kernel
theorem dX12_now_1 : decode cX12_now 1 = .ok (.i2l, 1) := by decide +kernel
theorem dX12_now_2 : decode cX12_now 2 = .ok (.lconst 0, 1) := by decide +kernel
theorem dX12_now_3 : decode cX12_now 3 = .ok (.lconst 1, 1) := by decide +kernel
theorem dX12_now_4 : decode cX12_now 4 = .ok (.invokestatic 68, 3) := by decide +kernel
theorem dX12_now_7 : decode cX12_now 7 = .ok (.ifCond .ne 6, 3) := by decide +kernel
theorem dX12_now_10 : decode cX12_now 10 = .ok (.ldc 245, 2) := by decide +kernel
theorem dX12_now_12 : decode cX12_now 12 = .ok (.ireturn, 1) := by decide +kernel
theorem dX12_now_13 : decode cX12_now 13 = .ok (.iload_n 1, 1) := by decide +kernel
theorem dX12_now_14 : decode cX12_now 14 = .ok (.ifCond .ne 18, 3) := by decide +kernel
theorem dX12_now_17 : decode cX12_now 17 = .ok (.aload_n 0, 1) := by decide +kernel
theorem dX12_now_18 : decode cX12_now 18 = .ok (.lconst 0, 1) := by decide +kernel
theorem dX12_now_19 : decode cX12_now 19 = .ok (.lconst 0, 1) := by decide +kernel
theorem dX12_now_20 : decode cX12_now 20 = .ok (.aload_n 0, 1) := by decide +kernel
theorem dX12_now_21 : decode cX12_now 21 = .ok (.getfield 3, 3) := by decide +kernel
theorem dX12_now_24 : decode cX12_now 24 = .ok (.iconst 1, 1) := by decide +kernel
theorem dX12_now_25 : decode cX12_now 25 = .ok (.iaload, 1) := by decide +kernel
theorem dX12_now_26 : decode cX12_now 26 = .ok (.invokevirtual 241, 3) := by decide +kernel
theorem dX12_now_29 : decode cX12_now 29 = .ok (.goto 9, 3) := by decide +kernel
theorem dX12_now_32 : decode cX12_now 32 = .ok (.aload_n 0, 1) := by decide +kernel
theorem dX12_now_33 : decode cX12_now 33 = .ok (.lconst 0, 1) := by decide +kernel
theorem dX12_now_34 : decode cX12_now 34 = .ok (.lconst 0, 1) := by decide +kernel
theorem dX12_now_35 : decode cX12_now 35 = .ok (.invokevirtual 246, 3) := by decide +kernel
theorem dX12_now_38 : decode cX12_now 38 = .ok (.ireturn, 1) := by decide +kernel
theorem dX12_howMany_0 : decode cX12_howMany 0 = .ok (.iconst 0, 1) := by decide +kernel
theorem dX12_howMany_1 : decode cX12_howMany 1 = .ok (.istore_n 2, 1) := by decide +kernel
theorem dX12_howMany_2 : decode cX12_howMany 2 = .ok (.iconst 0, 1) := by decide +kernel
theorem dX12_howMany_3 : decode cX12_howMany 3 = .ok (.istore_n 3, 1) := by decide +kernel
theorem dX12_howMany_4 : decode cX12_howMany 4 = .ok (.iload_n 3, 1) := by decide +kernel
theorem dX12_howMany_5 : decode cX12_howMany 5 = .ok (.aload_n 0, 1) := by decide +kernel
theorem dX12_howMany_6 : decode cX12_howMany 6 = .ok (.getfield 3, 3) := by decide +kernel
theorem dX12_howMany_9 : decode cX12_howMany 9 = .ok (.bipush 7, 2) := by decide +kernel
theorem dX12_howMany_11 : decode cX12_howMany 11 = .ok (.iaload, 1) := by decide +kernel
theorem dX12_howMany_12 : decode cX12_howMany 12 = .ok (.if_icmp .ge 27, 3) := by decide +kernel
theorem dX12_howMany_15 : decode cX12_howMany 15 = .ok (.iload_n 2, 1) := by decide +kernel
theorem dX12_howMany_16 : decode cX12_howMany 16 = .ok (.aload_n 0, 1) := by decide +kernel
theorem dX12_howMany_17 : decode cX12_howMany 17 = .ok (.iload_n 3, 1) := by decide +kernel
theorem dX12_howMany_18 : decode cX12_howMany 18 = .ok (.iconst 4, 1) := by decide +kernel
theorem dX12_howMany_19 : decode cX12_howMany 19 = .ok (.invokevirtual 115, 3) := by decide +kernel
theorem dX12_howMany_22 : decode cX12_howMany 22 = .ok (.iload_n 1, 1) := by decide +kernel
theorem dX12_howMany_23 : decode cX12_howMany 23 = .ok (.if_icmp .ne 7, 3) := by decide +kernel
theorem dX12_howMany_26 : decode cX12_howMany 26 = .ok (.iconst 1, 1) := by decide +kernel
theorem dX12_howMany_27 : decode cX12_howMany 27 = .ok (.goto 4, 3) := by decide +kernel
theorem dX12_howMany_30 : decode cX12_howMany 30 = .ok (.iconst 0, 1) := by decide +kernel
theorem dX12_howMany_31 : decode cX12_howMany 31 = .ok (.iadd, 1) := by decide +kernel
theorem dX12_howMany_32 : decode cX12_howMany 32 = .ok (.istore_n 2, 1) := by decide +kernel
theorem dX12_howMany_33 : decode cX12_howMany 33 = .ok (.iinc 3 1, 3) := by decide +kernel
theorem dX12_howMany_36 : decode cX12_howMany 36 = .ok (.goto (-32), 3) := by decide +kernel
theorem dX12_howMany_39 : decode cX12_howMany 39 = .ok (.iload_n 2, 1) := by decide +kernel
theorem dX12_howMany_40 : decode cX12_howMany 40 = .ok (.ireturn, 1) := by decide +kernel
theorem dX12_is_0 : decode cX12_is 0 = .ok (.iload_n 1, 1) := by decide +kernel
theorem dX12_is_1 : decode cX12_is 1 = .ok (.tableswitch 93 0 12 #[67, 67, 67, 67, 67, 67, 67, 67, 74, 74, 74, 83, 88], 67) := by decide +kernel
theorem dX12_is_68 : decode cX12_is 68 = .ok (.aload_n 0, 1) := by decide +kernel
theorem dX12_is_69 : decode cX12_is 69 = .ok (.getfield 3, 3) := by decide +kernel
theorem dX12_is_72 : decode cX12_is 72 = .ok (.iload_n 1, 1) := by decide +kernel
theorem dX12_is_73 : decode cX12_is 73 = .ok (.iaload, 1) := by decide +kernel
theorem dX12_is_74 : decode cX12_is 74 = .ok (.ireturn, 1) := by decide +kernel
theorem dX12_is_75 : decode cX12_is 75 = .ok (.aload_n 0, 1) := by decide +kernel
theorem dX12_is_76 : decode cX12_is 76 = .ok (.iload_n 1, 1) := by decide +kernel
theorem dX12_is_77 : decode cX12_is 77 = .ok (.bipush 8, 2) := by decide +kernel
theorem dX12_is_79 : decode cX12_is 79 = .ok (.isub, 1) := by decide +kernel
theorem dX12_is_80 : decode cX12_is 80 = .ok (.invokevirtual 250, 3) := by decide +kernel
theorem dX12_is_83 : decode cX12_is 83 = .ok (.ireturn, 1) := by decide +kernel
theorem dX12_is_84 : decode cX12_is 84 = .ok (.aload_n 0, 1) := by decide +kernel
theorem dX12_is_85 : decode cX12_is 85 = .ok (.getfield 61, 3) := by decide +kernel
theorem dX12_is_88 : decode cX12_is 88 = .ok (.ireturn, 1) := by decide +kernel
theorem dX12_is_89 : decode cX12_is 89 = .ok (.aload_n 0, 1) := by decide +kernel
theorem dX12_is_90 : decode cX12_is 90 = .ok (.getfield 76, 3) := by decide +kernel
theorem dX12_is_93 : decode cX12_is 93 = .ok (.ireturn, 1) := by decide +kernel
theorem dX12_is_94 : decode cX12_is 94 = .ok (.iconst (-1), 1) := by decide +kernel
theorem dX12_is_95 : decode cX12_is 95 = .ok (.ireturn, 1) := by decide +kernel
theorem dX12_limit_0 : decode cX12_limit 0 = .ok (.iload_n 1, 1) := by decide +kernel
theorem dX12_limit_1 : decode cX12_limit 1 = .ok (.invokestatic 253, 3) := by decide +kernel
theorem dX12_limit_4 : decode cX12_limit 4 = .ok (.ifCond .eq 15, 3) := by decide +kernel
theorem dX12_limit_7 : decode cX12_limit 7 = .ok (.aload_n 0, 1) := by decide +kernel
theorem dX12_limit_8 : decode cX12_limit 8 = .ok (.getfield 3, 3) := by decide +kernel
theorem dX12_limit_11 : decode cX12_limit 11 = .ok (.bipush 10, 2) := by decide +kernel
theorem dX12_limit_13 : decode cX12_limit 13 = .ok (.iload_n 1, 1) := by decide +kernel
theorem dX12_limit_14 : decode cX12_limit 14 = .ok (.iadd, 1) := by decide +kernel
theorem dX12_limit_15 : decode cX12_limit 15 = .ok (.iaload, 1) := by decide +kernel
theorem dX12_limit_16 : decode cX12_limit 16 = .ok (.goto 4, 3) := by decide +kernel
theorem dX12_limit_19 : decode cX12_limit 19 = .ok (.iconst (-1), 1) := by decide +kernel
theorem dX12_limit_20 : decode cX12_limit 20 = .ok (.ireturn, 1) := by decide +kernel
theorem dX12_dead_0 : decode cX12_dead 0 = .ok (.iload_n 1, 1) := by decide +kernel
theorem dX12_dead_1 : decode cX12_dead 1 = .ok (.invokestatic 253, 3) := by decide +kernel
theorem dX12_dead_4 : decode cX12_dead 4 = .ok (.ifCond .eq 15, 3) := by decide +kernel
theorem dX12_dead_7 : decode cX12_dead 7 = .ok (.aload_n 0, 1) := by decide +kernel
theorem dX12_dead_8 : decode cX12_dead 8 = .ok (.getfield 3, 3) := by decide +kernel
theorem dX12_dead_11 : decode cX12_dead 11 = .ok (.bipush 30, 2) := by decide +kernel
theorem dX12_dead_13 : decode cX12_dead 13 = .ok (.iload_n 1, 1) := by decide +kernel
theorem dX12_dead_14 : decode cX12_dead 14 = .ok (.iadd, 1) := by decide +kernel
theorem dX12_dead_15 : decode cX12_dead 15 = .ok (.iaload, 1) := by decide +kernel
theorem dX12_dead_16 : decode cX12_dead 16 = .ok (.goto 4, 3) := by decide +kernel
theorem dX12_dead_19 : decode cX12_dead 19 = .ok (.iconst (-1), 1) := by decide +kernel
theorem dX12_dead_20 : decode cX12_dead 20 = .ok (.ireturn, 1) := by decide +kernel
theorem dX12_yearsLeft_0 : decode cX12_yearsLeft 0 = .ok (.aload_n 0, 1) := by decide +kernel
theorem dX12_yearsLeft_1 : decode cX12_yearsLeft 1 = .ok (.iload_n 1, 1) := by decide +kernel
theorem dX12_yearsLeft_2 : decode cX12_yearsLeft 2 = .ok (.invokevirtual 209, 3) := by decide +kernel
theorem dX12_yearsLeft_5 : decode cX12_yearsLeft 5 = .ok (.ifCond .eq 33, 3) := by decide +kernel
theorem dX12_yearsLeft_8 : decode cX12_yearsLeft 8 = .ok (.aload_n 0, 1) := by decide +kernel
theorem dX12_yearsLeft_9 : decode cX12_yearsLeft 9 = .ok (.iload_n 1, 1) := by decide +kernel
theorem dX12_yearsLeft_10 : decode cX12_yearsLeft 10 = .ok (.iconst 0, 1) := by decide +kernel
theorem dX12_yearsLeft_11 : decode cX12_yearsLeft 11 = .ok (.invokevirtual 115, 3) := by decide +kernel
theorem dX12_yearsLeft_14 : decode cX12_yearsLeft 14 = .ok (.aload_n 0, 1) := by decide +kernel
theorem dX12_yearsLeft_15 : decode cX12_yearsLeft 15 = .ok (.getfield 3, 3) := by decide +kernel
theorem dX12_yearsLeft_18 : decode cX12_yearsLeft 18 = .ok (.iconst 0, 1) := by decide +kernel
theorem dX12_yearsLeft_19 : decode cX12_yearsLeft 19 = .ok (.iaload, 1) := by decide +kernel
theorem dX12_yearsLeft_20 : decode cX12_yearsLeft 20 = .ok (.if_icmp .gt 18, 3) := by decide +kernel
theorem dX12_yearsLeft_23 : decode cX12_yearsLeft 23 = .ok (.aload_n 0, 1) := by decide +kernel
theorem dX12_yearsLeft_24 : decode cX12_yearsLeft 24 = .ok (.iload_n 1, 1) := by decide +kernel
theorem dX12_yearsLeft_25 : decode cX12_yearsLeft 25 = .ok (.invokevirtual 132, 3) := by decide +kernel
theorem dX12_yearsLeft_28 : decode cX12_yearsLeft 28 = .ok (.aload_n 0, 1) := by decide +kernel
theorem dX12_yearsLeft_29 : decode cX12_yearsLeft 29 = .ok (.getfield 3, 3) := by decide +kernel
theorem dX12_yearsLeft_32 : decode cX12_yearsLeft 32 = .ok (.iconst 0, 1) := by decide +kernel
theorem dX12_yearsLeft_33 : decode cX12_yearsLeft 33 = .ok (.iaload, 1) := by decide +kernel
theorem dX12_yearsLeft_34 : decode cX12_yearsLeft 34 = .ok (.isub, 1) := by decide +kernel
theorem dX12_yearsLeft_35 : decode cX12_yearsLeft 35 = .ok (.goto 4, 3) := by decide +kernel
theorem dX12_yearsLeft_38 : decode cX12_yearsLeft 38 = .ok (.iconst 0, 1) := by decide +kernel
theorem dX12_yearsLeft_39 : decode cX12_yearsLeft 39 = .ok (.ireturn, 1) := by decide +kernel
theorem dX12_contract_0 : decode cX12_contract 0 = .ok (.aload_n 0, 1) := by decide +kernel
theorem dX12_contract_1 : decode cX12_contract 1 = .ok (.iload_n 1, 1) := by decide +kernel
theorem dX12_contract_2 : decode cX12_contract 2 = .ok (.invokevirtual 206, 3) := by decide +kernel
theorem dX12_contract_5 : decode cX12_contract 5 = .ok (.ifCond .eq 15, 3) := by decide +kernel
theorem dX12_contract_8 : decode cX12_contract 8 = .ok (.iload_n 2, 1) := by decide +kernel
theorem dX12_contract_9 : decode cX12_contract 9 = .ok (.i2l, 1) := by decide +kernel
theorem dX12_contract_10 : decode cX12_contract 10 = .ok (.lconst 0, 1) := by decide +kernel
theorem dX12_contract_11 : decode cX12_contract 11 = .ok (.ldc2_w 256, 3) := by decide +kernel
theorem dX12_contract_14 : decode cX12_contract 14 = .ok (.invokestatic 68, 3) := by decide +kernel
theorem dX12_contract_17 : decode cX12_contract 17 = .ok (.ifCond .ne 5, 3) := by decide +kernel
theorem dX12_contract_20 : decode cX12_contract 20 = .ok (.iconst (-1), 1) := by decide +kernel
theorem dX12_contract_21 : decode cX12_contract 21 = .ok (.ireturn, 1) := by decide +kernel
theorem dX12_contract_22 : decode cX12_contract 22 = .ok (.iload_n 2, 1) := by decide +kernel
theorem dX12_contract_23 : decode cX12_contract 23 = .ok (.bipush 7, 2) := by decide +kernel
theorem dX12_contract_25 : decode cX12_contract 25 = .ok (.if_icmp .ne 30, 3) := by decide +kernel
theorem dX12_contract_28 : decode cX12_contract 28 = .ok (.aload_n 0, 1) := by decide +kernel
theorem dX12_contract_29 : decode cX12_contract 29 = .ok (.lconst 0, 1) := by decide +kernel
theorem dX12_contract_30 : decode cX12_contract 30 = .ok (.lconst 0, 1) := by decide +kernel
theorem dX12_contract_31 : decode cX12_contract 31 = .ok (.aload_n 0, 1) := by decide +kernel
theorem dX12_contract_32 : decode cX12_contract 32 = .ok (.getfield 3, 3) := by decide +kernel
theorem dX12_contract_35 : decode cX12_contract 35 = .ok (.iconst 1, 1) := by decide +kernel
theorem dX12_contract_36 : decode cX12_contract 36 = .ok (.iaload, 1) := by decide +kernel
theorem dX12_contract_37 : decode cX12_contract 37 = .ok (.invokevirtual 233, 3) := by decide +kernel
theorem dX12_contract_40 : decode cX12_contract 40 = .ok (.aload_n 0, 1) := by decide +kernel
theorem dX12_contract_41 : decode cX12_contract 41 = .ok (.getfield 45, 3) := by decide +kernel
theorem dX12_contract_44 : decode cX12_contract 44 = .ok (.iload_n 1, 1) := by decide +kernel
theorem dX12_contract_45 : decode cX12_contract 45 = .ok (.baload, 1) := by decide +kernel
theorem dX12_contract_46 : decode cX12_contract 46 = .ok (.ifCond .eq 7, 3) := by decide +kernel
theorem dX12_contract_49 : decode cX12_contract 49 = .ok (.iconst 1, 1) := by decide +kernel
theorem dX12_contract_50 : decode cX12_contract 50 = .ok (.goto 4, 3) := by decide +kernel
theorem dX12_contract_53 : decode cX12_contract 53 = .ok (.iconst 0, 1) := by decide +kernel
theorem dX12_contract_54 : decode cX12_contract 54 = .ok (.ireturn, 1) := by decide +kernel
theorem dX12_contract_55 : decode cX12_contract 55 = .ok (.iload_n 2, 1) := by decide +kernel
theorem dX12_contract_56 : decode cX12_contract 56 = .ok (.iconst 5, 1) := by decide +kernel
theorem dX12_contract_57 : decode cX12_contract 57 = .ok (.if_icmp .ge 12, 3) := by decide +kernel
theorem dX12_contract_60 : decode cX12_contract 60 = .ok (.aload_n 0, 1) := by decide +kernel
theorem dX12_contract_61 : decode cX12_contract 61 = .ok (.iload_n 1, 1) := by decide +kernel
theorem dX12_contract_62 : decode cX12_contract 62 = .ok (.iload_n 2, 1) := by decide +kernel
theorem dX12_contract_63 : decode cX12_contract 63 = .ok (.invokevirtual 115, 3) := by decide +kernel
theorem dX12_contract_66 : decode cX12_contract 66 = .ok (.goto 39, 3) := by decide +kernel
theorem dX12_contract_69 : decode cX12_contract 69 = .ok (.iload_n 2, 1) := by decide +kernel
theorem dX12_contract_70 : decode cX12_contract 70 = .ok (.iconst 5, 1) := by decide +kernel
theorem dX12_contract_71 : decode cX12_contract 71 = .ok (.if_icmp .ne 11, 3) := by decide +kernel
theorem dX12_contract_74 : decode cX12_contract 74 = .ok (.aload_n 0, 1) := by decide +kernel
theorem dX12_contract_75 : decode cX12_contract 75 = .ok (.iload_n 1, 1) := by decide +kernel
theorem dX12_contract_76 : decode cX12_contract 76 = .ok (.invokevirtual 258, 3) := by decide +kernel
theorem dX12_contract_79 : decode cX12_contract 79 = .ok (.goto 26, 3) := by decide +kernel
theorem dX12_contract_82 : decode cX12_contract 82 = .ok (.aload_n 0, 1) := by decide +kernel
theorem dX12_contract_83 : decode cX12_contract 83 = .ok (.iload_n 1, 1) := by decide +kernel
theorem dX12_contract_84 : decode cX12_contract 84 = .ok (.invokevirtual 209, 3) := by decide +kernel
theorem dX12_contract_87 : decode cX12_contract 87 = .ok (.ifCond .eq 17, 3) := by decide +kernel
theorem dX12_contract_90 : decode cX12_contract 90 = .ok (.aload_n 0, 1) := by decide +kernel
theorem dX12_contract_91 : decode cX12_contract 91 = .ok (.iload_n 1, 1) := by decide +kernel
theorem dX12_contract_92 : decode cX12_contract 92 = .ok (.aload_n 0, 1) := by decide +kernel
theorem dX12_contract_93 : decode cX12_contract 93 = .ok (.getfield 3, 3) := by decide +kernel
theorem dX12_contract_96 : decode cX12_contract 96 = .ok (.iconst 0, 1) := by decide +kernel
theorem dX12_contract_97 : decode cX12_contract 97 = .ok (.iaload, 1) := by decide +kernel
theorem dX12_contract_98 : decode cX12_contract 98 = .ok (.invokevirtual 230, 3) := by decide +kernel
theorem dX12_contract_101 : decode cX12_contract 101 = .ok (.goto 4, 3) := by decide +kernel
theorem dX12_contract_104 : decode cX12_contract 104 = .ok (.iconst 0, 1) := by decide +kernel
theorem dX12_contract_105 : decode cX12_contract 105 = .ok (.ireturn, 1) := by decide +kernel
theorem dX12_pay_0 : decode cX12_pay 0 = .ok (.aload_n 0, 1) := by decide +kernel
theorem dX12_pay_1 : decode cX12_pay 1 = .ok (.iload_n 1, 1) := by decide +kernel
theorem dX12_pay_2 : decode cX12_pay 2 = .ok (.invokevirtual 206, 3) := by decide +kernel
theorem dX12_pay_5 : decode cX12_pay 5 = .ok (.ifCond .eq 10, 3) := by decide +kernel
theorem dX12_pay_8 : decode cX12_pay 8 = .ok (.iload_n 2, 1) := by decide +kernel
theorem dX12_pay_9 : decode cX12_pay 9 = .ok (.invokestatic 253, 3) := by decide +kernel
theorem dX12_pay_12 : decode cX12_pay 12 = .ok (.ifCond .ne 5, 3) := by decide +kernel
theorem dX12_pay_15 : decode cX12_pay 15 = .ok (.iconst (-1), 1) := by decide +kernel
theorem dX12_pay_16 : decode cX12_pay 16 = .ok (.ireturn, 1) := by decide +kernel
theorem dX12_pay_17 : decode cX12_pay 17 = .ok (.iload_n 3, 1) := by decide +kernel
theorem dX12_pay_18 : decode cX12_pay 18 = .ok (.tableswitch 67 0 3 #[30, 40, 50, 60], 30) := by decide +kernel
theorem dX12_pay_48 : decode cX12_pay 48 = .ok (.aload_n 0, 1) := by decide +kernel
theorem dX12_pay_49 : decode cX12_pay 49 = .ok (.iload_n 1, 1) := by decide +kernel
theorem dX12_pay_50 : decode cX12_pay 50 = .ok (.bipush 6, 2) := by decide +kernel
theorem dX12_pay_52 : decode cX12_pay 52 = .ok (.iload_n 2, 1) := by decide +kernel
theorem dX12_pay_53 : decode cX12_pay 53 = .ok (.iadd, 1) := by decide +kernel
theorem dX12_pay_54 : decode cX12_pay 54 = .ok (.invokevirtual 115, 3) := by decide +kernel
theorem dX12_pay_57 : decode cX12_pay 57 = .ok (.ireturn, 1) := by decide +kernel
theorem dX12_pay_58 : decode cX12_pay 58 = .ok (.aload_n 0, 1) := by decide +kernel
theorem dX12_pay_59 : decode cX12_pay 59 = .ok (.iload_n 1, 1) := by decide +kernel
theorem dX12_pay_60 : decode cX12_pay 60 = .ok (.bipush 26, 2) := by decide +kernel
theorem dX12_pay_62 : decode cX12_pay 62 = .ok (.iload_n 2, 1) := by decide +kernel
theorem dX12_pay_63 : decode cX12_pay 63 = .ok (.iadd, 1) := by decide +kernel
theorem dX12_pay_64 : decode cX12_pay 64 = .ok (.invokevirtual 115, 3) := by decide +kernel
theorem dX12_pay_67 : decode cX12_pay 67 = .ok (.ireturn, 1) := by decide +kernel
theorem dX12_pay_68 : decode cX12_pay 68 = .ok (.aload_n 0, 1) := by decide +kernel
theorem dX12_pay_69 : decode cX12_pay 69 = .ok (.iload_n 1, 1) := by decide +kernel
theorem dX12_pay_70 : decode cX12_pay 70 = .ok (.bipush 46, 2) := by decide +kernel
theorem dX12_pay_72 : decode cX12_pay 72 = .ok (.iload_n 2, 1) := by decide +kernel
theorem dX12_pay_73 : decode cX12_pay 73 = .ok (.iadd, 1) := by decide +kernel
theorem dX12_pay_74 : decode cX12_pay 74 = .ok (.invokevirtual 115, 3) := by decide +kernel
theorem dX12_pay_77 : decode cX12_pay 77 = .ok (.ireturn, 1) := by decide +kernel
theorem dX12_pay_78 : decode cX12_pay 78 = .ok (.aload_n 0, 1) := by decide +kernel
theorem dX12_pay_79 : decode cX12_pay 79 = .ok (.iload_n 1, 1) := by decide +kernel
theorem dX12_pay_80 : decode cX12_pay 80 = .ok (.iload_n 2, 1) := by decide +kernel
theorem dX12_pay_81 : decode cX12_pay 81 = .ok (.invokevirtual 230, 3) := by decide +kernel
theorem dX12_pay_84 : decode cX12_pay 84 = .ok (.ireturn, 1) := by decide +kernel
theorem dX12_pay_85 : decode cX12_pay 85 = .ok (.iconst (-1), 1) := by decide +kernel
theorem dX12_pay_86 : decode cX12_pay 86 = .ok (.ireturn, 1) := by decide +kernel
theorem dX12_would_0 : decode cX12_would 0 = .ok (.aload_n 0, 1) := by decide +kernel
theorem dX12_would_1 : decode cX12_would 1 = .ok (.iload_n 1, 1) := by decide +kernel
theorem dX12_would_2 : decode cX12_would 2 = .ok (.invokevirtual 261, 3) := by decide +kernel
theorem dX12_would_5 : decode cX12_would 5 = .ok (.ifCond .eq 15, 3) := by decide +kernel
theorem dX12_would_8 : decode cX12_would 8 = .ok (.iload_n 2, 1) := by decide +kernel
theorem dX12_would_9 : decode cX12_would 9 = .ok (.i2l, 1) := by decide +kernel
theorem dX12_would_10 : decode cX12_would 10 = .ok (.lconst 0, 1) := by decide +kernel
theorem dX12_would_11 : decode cX12_would 11 = .ok (.ldc2_w 264, 3) := by decide +kernel
theorem dX12_would_14 : decode cX12_would 14 = .ok (.invokestatic 68, 3) := by decide +kernel
theorem dX12_would_17 : decode cX12_would 17 = .ok (.ifCond .ne 6, 3) := by decide +kernel
theorem dX12_would_20 : decode cX12_would 20 = .ok (.ldc 245, 2) := by decide +kernel
theorem dX12_would_22 : decode cX12_would 22 = .ok (.ireturn, 1) := by decide +kernel
theorem dX12_would_23 : decode cX12_would 23 = .ok (.iload_n 2, 1) := by decide +kernel
theorem dX12_would_24 : decode cX12_would 24 = .ok (.ifCond .ne 17, 3) := by decide +kernel
theorem dX12_would_27 : decode cX12_would 27 = .ok (.aload_n 0, 1) := by decide +kernel
theorem dX12_would_28 : decode cX12_would 28 = .ok (.iload_n 1, 1) := by decide +kernel
theorem dX12_would_29 : decode cX12_would 29 = .ok (.aload_n 0, 1) := by decide +kernel
theorem dX12_would_30 : decode cX12_would 30 = .ok (.getfield 3, 3) := by decide +kernel
theorem dX12_would_33 : decode cX12_would 33 = .ok (.iconst 1, 1) := by decide +kernel
theorem dX12_would_34 : decode cX12_would 34 = .ok (.iaload, 1) := by decide +kernel
theorem dX12_would_35 : decode cX12_would 35 = .ok (.invokevirtual 218, 3) := by decide +kernel
theorem dX12_would_38 : decode cX12_would 38 = .ok (.goto 46, 3) := by decide +kernel
theorem dX12_would_41 : decode cX12_would 41 = .ok (.iload_n 2, 1) := by decide +kernel
theorem dX12_would_42 : decode cX12_would 42 = .ok (.iconst 1, 1) := by decide +kernel
theorem dX12_would_43 : decode cX12_would 43 = .ok (.if_icmp .ne 17, 3) := by decide +kernel
theorem dX12_would_46 : decode cX12_would 46 = .ok (.aload_n 0, 1) := by decide +kernel
theorem dX12_would_47 : decode cX12_would 47 = .ok (.iload_n 1, 1) := by decide +kernel
theorem dX12_would_48 : decode cX12_would 48 = .ok (.aload_n 0, 1) := by decide +kernel
theorem dX12_would_49 : decode cX12_would 49 = .ok (.getfield 3, 3) := by decide +kernel
theorem dX12_would_52 : decode cX12_would 52 = .ok (.iconst 1, 1) := by decide +kernel
theorem dX12_would_53 : decode cX12_would 53 = .ok (.iaload, 1) := by decide +kernel
theorem dX12_would_54 : decode cX12_would 54 = .ok (.invokevirtual 221, 3) := by decide +kernel
theorem dX12_would_57 : decode cX12_would 57 = .ok (.goto 27, 3) := by decide +kernel
theorem dX12_would_60 : decode cX12_would 60 = .ok (.iload_n 2, 1) := by decide +kernel
theorem dX12_would_61 : decode cX12_would 61 = .ok (.iconst 2, 1) := by decide +kernel
theorem dX12_would_62 : decode cX12_would 62 = .ok (.if_icmp .ne 11, 3) := by decide +kernel
theorem dX12_would_65 : decode cX12_would 65 = .ok (.aload_n 0, 1) := by decide +kernel
theorem dX12_would_66 : decode cX12_would 66 = .ok (.iload_n 1, 1) := by decide +kernel
theorem dX12_would_67 : decode cX12_would 67 = .ok (.invokevirtual 266, 3) := by decide +kernel
theorem dX12_would_70 : decode cX12_would 70 = .ok (.goto 14, 3) := by decide +kernel
theorem dX12_would_73 : decode cX12_would 73 = .ok (.aload_n 0, 1) := by decide +kernel
theorem dX12_would_74 : decode cX12_would 74 = .ok (.iload_n 1, 1) := by decide +kernel
theorem dX12_would_75 : decode cX12_would 75 = .ok (.aload_n 0, 1) := by decide +kernel
theorem dX12_would_76 : decode cX12_would 76 = .ok (.getfield 3, 3) := by decide +kernel
theorem dX12_would_79 : decode cX12_would 79 = .ok (.iconst 1, 1) := by decide +kernel
theorem dX12_would_80 : decode cX12_would 80 = .ok (.iaload, 1) := by decide +kernel
theorem dX12_would_81 : decode cX12_would 81 = .ok (.invokevirtual 269, 3) := by decide +kernel
theorem dX12_would_84 : decode cX12_would 84 = .ok (.ireturn, 1) := by decide +kernel
theorem dX12_refuses_0 : decode cX12_refuses 0 = .ok (.aload_n 0, 1) := by decide +kernel
theorem dX12_refuses_1 : decode cX12_refuses 1 = .ok (.iload_n 1, 1) := by decide +kernel
theorem dX12_refuses_2 : decode cX12_refuses 2 = .ok (.putfield 272, 3) := by decide +kernel
theorem dX12_refuses_5 : decode cX12_refuses 5 = .ok (.iload_n 1, 1) := by decide +kernel
theorem dX12_refuses_6 : decode cX12_refuses 6 = .ok (.ifCond .eq 7, 3) := by decide +kernel
theorem dX12_refuses_9 : decode cX12_refuses 9 = .ok (.iconst 1, 1) := by decide +kernel
theorem dX12_refuses_10 : decode cX12_refuses 10 = .ok (.goto 4, 3) := by decide +kernel
theorem dX12_refuses_13 : decode cX12_refuses 13 = .ok (.iconst 0, 1) := by decide +kernel
theorem dX12_refuses_14 : decode cX12_refuses 14 = .ok (.ireturn, 1) := by decide +kernel
theorem dX12_why_0 : decode cX12_why 0 = .ok (.aload_n 0, 1) := by decide +kernel
theorem dX12_why_1 : decode cX12_why 1 = .ok (.getfield 272, 3) := by decide +kernel
theorem dX12_why_4 : decode cX12_why 4 = .ok (.ireturn, 1) := by decide +kernel
theorem dX12_whyNot_0 : decode cX12_whyNot 0 = .ok (.aload_n 0, 1) := by decide +kernel
theorem dX12_whyNot_1 : decode cX12_whyNot 1 = .ok (.iload_n 1, 1) := by decide +kernel
theorem dX12_whyNot_2 : decode cX12_whyNot 2 = .ok (.invokevirtual 206, 3) := by decide +kernel
theorem dX12_whyNot_5 : decode cX12_whyNot 5 = .ok (.ifCond .ne 7, 3) := by decide +kernel
theorem dX12_whyNot_8 : decode cX12_whyNot 8 = .ok (.iconst 1, 1) := by decide +kernel
theorem dX12_whyNot_9 : decode cX12_whyNot 9 = .ok (.goto 35, 3) := by decide +kernel
theorem dX12_whyNot_12 : decode cX12_whyNot 12 = .ok (.aload_n 0, 1) := by decide +kernel
theorem dX12_whyNot_13 : decode cX12_whyNot 13 = .ok (.iload_n 1, 1) := by decide +kernel
theorem dX12_whyNot_14 : decode cX12_whyNot 14 = .ok (.invokevirtual 209, 3) := by decide +kernel
theorem dX12_whyNot_17 : decode cX12_whyNot 17 = .ok (.ifCond .ne 7, 3) := by decide +kernel
theorem dX12_whyNot_20 : decode cX12_whyNot 20 = .ok (.iconst 2, 1) := by decide +kernel
theorem dX12_whyNot_21 : decode cX12_whyNot 21 = .ok (.goto 23, 3) := by decide +kernel
theorem dX12_whyNot_24 : decode cX12_whyNot 24 = .ok (.aload_n 0, 1) := by decide +kernel
theorem dX12_whyNot_25 : decode cX12_whyNot 25 = .ok (.iload_n 1, 1) := by decide +kernel
theorem dX12_whyNot_26 : decode cX12_whyNot 26 = .ok (.iconst 0, 1) := by decide +kernel
theorem dX12_whyNot_27 : decode cX12_whyNot 27 = .ok (.invokevirtual 115, 3) := by decide +kernel
theorem dX12_whyNot_30 : decode cX12_whyNot 30 = .ok (.aload_n 0, 1) := by decide +kernel
theorem dX12_whyNot_31 : decode cX12_whyNot 31 = .ok (.getfield 3, 3) := by decide +kernel
theorem dX12_whyNot_34 : decode cX12_whyNot 34 = .ok (.iconst 0, 1) := by decide +kernel
theorem dX12_whyNot_35 : decode cX12_whyNot 35 = .ok (.iaload, 1) := by decide +kernel
theorem dX12_whyNot_36 : decode cX12_whyNot 36 = .ok (.if_icmp .le 7, 3) := by decide +kernel
theorem dX12_whyNot_39 : decode cX12_whyNot 39 = .ok (.iconst 3, 1) := by decide +kernel
theorem dX12_whyNot_40 : decode cX12_whyNot 40 = .ok (.goto 4, 3) := by decide +kernel
theorem dX12_whyNot_43 : decode cX12_whyNot 43 = .ok (.iconst 0, 1) := by decide +kernel
theorem dX12_whyNot_44 : decode cX12_whyNot 44 = .ok (.ireturn, 1) := by decide +kernel
theorem dX12_cuts_0 : decode cX12_cuts 0 = .ok (.aload_n 0, 1) := by decide +kernel
theorem dX12_cuts_1 : decode cX12_cuts 1 = .ok (.getfield 3, 3) := by decide +kernel
theorem dX12_cuts_4 : decode cX12_cuts 4 = .ok (.iconst 0, 1) := by decide +kernel
theorem dX12_cuts_5 : decode cX12_cuts 5 = .ok (.iaload, 1) := by decide +kernel
theorem dX12_cuts_6 : decode cX12_cuts 6 = .ok (.istore_n 2, 1) := by decide +kernel
theorem dX12_cuts_7 : decode cX12_cuts 7 = .ok (.aload_n 0, 1) := by decide +kernel
theorem dX12_cuts_8 : decode cX12_cuts 8 = .ok (.getfield 3, 3) := by decide +kernel
theorem dX12_cuts_11 : decode cX12_cuts 11 = .ok (.bipush 30, 2) := by decide +kernel
theorem dX12_cuts_13 : decode cX12_cuts 13 = .ok (.iload_n 2, 1) := by decide +kernel
theorem dX12_cuts_14 : decode cX12_cuts 14 = .ok (.iadd, 1) := by decide +kernel
theorem dX12_cuts_15 : decode cX12_cuts 15 = .ok (.dup2, 1) := by decide +kernel
theorem dX12_cuts_16 : decode cX12_cuts 16 = .ok (.iaload, 1) := by decide +kernel
theorem dX12_cuts_17 : decode cX12_cuts 17 = .ok (.aload_n 0, 1) := by decide +kernel
theorem dX12_cuts_18 : decode cX12_cuts 18 = .ok (.iload_n 1, 1) := by decide +kernel
theorem dX12_cuts_19 : decode cX12_cuts 19 = .ok (.aload_n 0, 1) := by decide +kernel
theorem dX12_cuts_20 : decode cX12_cuts 20 = .ok (.getfield 3, 3) := by decide +kernel
theorem dX12_cuts_23 : decode cX12_cuts 23 = .ok (.iconst 1, 1) := by decide +kernel
theorem dX12_cuts_24 : decode cX12_cuts 24 = .ok (.iaload, 1) := by decide +kernel
theorem dX12_cuts_25 : decode cX12_cuts 25 = .ok (.invokevirtual 218, 3) := by decide +kernel
theorem dX12_cuts_28 : decode cX12_cuts 28 = .ok (.iadd, 1) := by decide +kernel
theorem dX12_cuts_29 : decode cX12_cuts 29 = .ok (.iastore, 1) := by decide +kernel
theorem dX12_cuts_30 : decode cX12_cuts 30 = .ok (.iload_n 2, 1) := by decide +kernel
theorem dX12_cuts_31 : decode cX12_cuts 31 = .ok (.bipush 19, 2) := by decide +kernel
theorem dX12_cuts_33 : decode cX12_cuts 33 = .ok (.if_icmp .ge 28, 3) := by decide +kernel
theorem dX12_cuts_36 : decode cX12_cuts 36 = .ok (.aload_n 0, 1) := by decide +kernel
theorem dX12_cuts_37 : decode cX12_cuts 37 = .ok (.getfield 3, 3) := by decide +kernel
theorem dX12_cuts_40 : decode cX12_cuts 40 = .ok (.bipush 30, 2) := by decide +kernel
theorem dX12_cuts_42 : decode cX12_cuts 42 = .ok (.iload_n 2, 1) := by decide +kernel
theorem dX12_cuts_43 : decode cX12_cuts 43 = .ok (.iadd, 1) := by decide +kernel
theorem dX12_cuts_44 : decode cX12_cuts 44 = .ok (.iconst 1, 1) := by decide +kernel
theorem dX12_cuts_45 : decode cX12_cuts 45 = .ok (.iadd, 1) := by decide +kernel
theorem dX12_cuts_46 : decode cX12_cuts 46 = .ok (.dup2, 1) := by decide +kernel
theorem dX12_cuts_47 : decode cX12_cuts 47 = .ok (.iaload, 1) := by decide +kernel
theorem dX12_cuts_48 : decode cX12_cuts 48 = .ok (.aload_n 0, 1) := by decide +kernel
theorem dX12_cuts_49 : decode cX12_cuts 49 = .ok (.iload_n 1, 1) := by decide +kernel
theorem dX12_cuts_50 : decode cX12_cuts 50 = .ok (.aload_n 0, 1) := by decide +kernel
theorem dX12_cuts_51 : decode cX12_cuts 51 = .ok (.getfield 3, 3) := by decide +kernel
theorem dX12_cuts_54 : decode cX12_cuts 54 = .ok (.iconst 1, 1) := by decide +kernel
theorem dX12_cuts_55 : decode cX12_cuts 55 = .ok (.iaload, 1) := by decide +kernel
theorem dX12_cuts_56 : decode cX12_cuts 56 = .ok (.invokevirtual 221, 3) := by decide +kernel
theorem dX12_cuts_59 : decode cX12_cuts 59 = .ok (.iadd, 1) := by decide +kernel
theorem dX12_cuts_60 : decode cX12_cuts 60 = .ok (.iastore, 1) := by decide +kernel
theorem dX12_cuts_61 : decode cX12_cuts 61 = .ok (.aload_n 0, 1) := by decide +kernel
theorem dX12_cuts_62 : decode cX12_cuts 62 = .ok (.iload_n 1, 1) := by decide +kernel
theorem dX12_cuts_63 : decode cX12_cuts 63 = .ok (.iconst 1, 1) := by decide +kernel
theorem dX12_cuts_64 : decode cX12_cuts 64 = .ok (.invokevirtual 275, 3) := by decide +kernel
theorem dX12_cuts_67 : decode cX12_cuts 67 = .ok (.return_, 1) := by decide +kernel
theorem dX12_closesFor_0 : decode cX12_closesFor 0 = .ok (.aload_n 0, 1) := by decide +kernel
theorem dX12_closesFor_1 : decode cX12_closesFor 1 = .ok (.getfield 3, 3) := by decide +kernel
theorem dX12_closesFor_4 : decode cX12_closesFor 4 = .ok (.iload_n 1, 1) := by decide +kernel
theorem dX12_closesFor_5 : decode cX12_closesFor 5 = .ok (.iconst 4, 1) := by decide +kernel
theorem dX12_closesFor_6 : decode cX12_closesFor 6 = .ok (.invokestatic 111, 3) := by decide +kernel
theorem dX12_closesFor_9 : decode cX12_closesFor 9 = .ok (.iload_n 2, 1) := by decide +kernel
theorem dX12_closesFor_10 : decode cX12_closesFor 10 = .ok (.iastore, 1) := by decide +kernel
theorem dX12_closesFor_11 : decode cX12_closesFor 11 = .ok (.aload_n 0, 1) := by decide +kernel
theorem dX12_closesFor_12 : decode cX12_closesFor 12 = .ok (.getfield 3, 3) := by decide +kernel
theorem dX12_closesFor_15 : decode cX12_closesFor 15 = .ok (.iload_n 1, 1) := by decide +kernel
theorem dX12_closesFor_16 : decode cX12_closesFor 16 = .ok (.iconst 5, 1) := by decide +kernel
theorem dX12_closesFor_17 : decode cX12_closesFor 17 = .ok (.invokestatic 111, 3) := by decide +kernel
theorem dX12_closesFor_20 : decode cX12_closesFor 20 = .ok (.aload_n 0, 1) := by decide +kernel
theorem dX12_closesFor_21 : decode cX12_closesFor 21 = .ok (.getfield 3, 3) := by decide +kernel
theorem dX12_closesFor_24 : decode cX12_closesFor 24 = .ok (.iconst 0, 1) := by decide +kernel
theorem dX12_closesFor_25 : decode cX12_closesFor 25 = .ok (.iaload, 1) := by decide +kernel
theorem dX12_closesFor_26 : decode cX12_closesFor 26 = .ok (.iastore, 1) := by decide +kernel
theorem dX12_closesFor_27 : decode cX12_closesFor 27 = .ok (.return_, 1) := by decide +kernel
theorem dX12_cut_0 : decode cX12_cut 0 = .ok (.aload_n 0, 1) := by decide +kernel
theorem dX12_cut_1 : decode cX12_cut 1 = .ok (.aload_n 0, 1) := by decide +kernel
theorem dX12_cut_2 : decode cX12_cut 2 = .ok (.iload_n 1, 1) := by decide +kernel
theorem dX12_cut_3 : decode cX12_cut 3 = .ok (.invokevirtual 278, 3) := by decide +kernel
theorem dX12_cut_6 : decode cX12_cut 6 = .ok (.invokevirtual 281, 3) := by decide +kernel
theorem dX12_cut_9 : decode cX12_cut 9 = .ok (.ifCond .eq 5, 3) := by decide +kernel
theorem dX12_cut_12 : decode cX12_cut 12 = .ok (.iconst (-1), 1) := by decide +kernel
theorem dX12_cut_13 : decode cX12_cut 13 = .ok (.ireturn, 1) := by decide +kernel
theorem dX12_cut_14 : decode cX12_cut 14 = .ok (.aload_n 0, 1) := by decide +kernel
theorem dX12_cut_15 : decode cX12_cut 15 = .ok (.iconst 0, 1) := by decide +kernel
theorem dX12_cut_16 : decode cX12_cut 16 = .ok (.invokevirtual 72, 3) := by decide +kernel
theorem dX12_cut_19 : decode cX12_cut 19 = .ok (.aload_n 0, 1) := by decide +kernel
theorem dX12_cut_20 : decode cX12_cut 20 = .ok (.iload_n 1, 1) := by decide +kernel
theorem dX12_cut_21 : decode cX12_cut 21 = .ok (.invokevirtual 284, 3) := by decide +kernel
theorem dX12_cut_24 : decode cX12_cut 24 = .ok (.aload_n 0, 1) := by decide +kernel
theorem dX12_cut_25 : decode cX12_cut 25 = .ok (.iconst 0, 1) := by decide +kernel
theorem dX12_cut_26 : decode cX12_cut 26 = .ok (.invokevirtual 250, 3) := by decide +kernel
theorem dX12_cut_29 : decode cX12_cut 29 = .ok (.ireturn, 1) := by decide +kernel
theorem dX12_trade_0 : decode cX12_trade 0 = .ok (.aload_n 0, 1) := by decide +kernel
theorem dX12_trade_1 : decode cX12_trade 1 = .ok (.aload_n 0, 1) := by decide +kernel
theorem dX12_trade_2 : decode cX12_trade 2 = .ok (.iload_n 1, 1) := by decide +kernel
theorem dX12_trade_3 : decode cX12_trade 3 = .ok (.invokevirtual 278, 3) := by decide +kernel
theorem dX12_trade_6 : decode cX12_trade 6 = .ok (.invokevirtual 281, 3) := by decide +kernel
theorem dX12_trade_9 : decode cX12_trade 9 = .ok (.ifCond .eq 5, 3) := by decide +kernel
theorem dX12_trade_12 : decode cX12_trade 12 = .ok (.iconst (-1), 1) := by decide +kernel
theorem dX12_trade_13 : decode cX12_trade 13 = .ok (.ireturn, 1) := by decide +kernel
theorem dX12_trade_14 : decode cX12_trade 14 = .ok (.aload_n 0, 1) := by decide +kernel
theorem dX12_trade_15 : decode cX12_trade 15 = .ok (.iconst 0, 1) := by decide +kernel
theorem dX12_trade_16 : decode cX12_trade 16 = .ok (.invokevirtual 72, 3) := by decide +kernel
theorem dX12_trade_19 : decode cX12_trade 19 = .ok (.aload_n 0, 1) := by decide +kernel
theorem dX12_trade_20 : decode cX12_trade 20 = .ok (.getfield 3, 3) := by decide +kernel
theorem dX12_trade_23 : decode cX12_trade 23 = .ok (.iconst 0, 1) := by decide +kernel
theorem dX12_trade_24 : decode cX12_trade 24 = .ok (.iaload, 1) := by decide +kernel
theorem dX12_trade_25 : decode cX12_trade 25 = .ok (.istore_n 2, 1) := by decide +kernel
theorem dX12_trade_26 : decode cX12_trade 26 = .ok (.aload_n 0, 1) := by decide +kernel
theorem dX12_trade_27 : decode cX12_trade 27 = .ok (.iload_n 1, 1) := by decide +kernel
theorem dX12_trade_28 : decode cX12_trade 28 = .ok (.aload_n 0, 1) := by decide +kernel
theorem dX12_trade_29 : decode cX12_trade 29 = .ok (.getfield 3, 3) := by decide +kernel
theorem dX12_trade_32 : decode cX12_trade 32 = .ok (.iconst 1, 1) := by decide +kernel
theorem dX12_trade_33 : decode cX12_trade 33 = .ok (.iaload, 1) := by decide +kernel
theorem dX12_trade_34 : decode cX12_trade 34 = .ok (.invokevirtual 221, 3) := by decide +kernel
theorem dX12_trade_37 : decode cX12_trade 37 = .ok (.istore_n 3, 1) := by decide +kernel
theorem dX12_trade_38 : decode cX12_trade 38 = .ok (.aload_n 0, 1) := by decide +kernel
theorem dX12_trade_39 : decode cX12_trade 39 = .ok (.getfield 3, 3) := by decide +kernel
theorem dX12_trade_42 : decode cX12_trade 42 = .ok (.bipush 30, 2) := by decide +kernel
theorem dX12_trade_44 : decode cX12_trade 44 = .ok (.iload_n 2, 1) := by decide +kernel
theorem dX12_trade_45 : decode cX12_trade 45 = .ok (.iadd, 1) := by decide +kernel
theorem dX12_trade_46 : decode cX12_trade 46 = .ok (.dup2, 1) := by decide +kernel
theorem dX12_trade_47 : decode cX12_trade 47 = .ok (.iaload, 1) := by decide +kernel
theorem dX12_trade_48 : decode cX12_trade 48 = .ok (.aload_n 0, 1) := by decide +kernel
theorem dX12_trade_49 : decode cX12_trade 49 = .ok (.iload_n 1, 1) := by decide +kernel
theorem dX12_trade_50 : decode cX12_trade 50 = .ok (.iload_n 2, 1) := by decide +kernel
theorem dX12_trade_51 : decode cX12_trade 51 = .ok (.invokevirtual 212, 3) := by decide +kernel
theorem dX12_trade_54 : decode cX12_trade 54 = .ok (.iload_n 3, 1) := by decide +kernel
theorem dX12_trade_55 : decode cX12_trade 55 = .ok (.isub, 1) := by decide +kernel
theorem dX12_trade_56 : decode cX12_trade 56 = .ok (.iadd, 1) := by decide +kernel
theorem dX12_trade_57 : decode cX12_trade 57 = .ok (.iastore, 1) := by decide +kernel
theorem dX12_trade_58 : decode cX12_trade 58 = .ok (.iload_n 2, 1) := by decide +kernel
theorem dX12_trade_59 : decode cX12_trade 59 = .ok (.bipush 19, 2) := by decide +kernel
theorem dX12_trade_61 : decode cX12_trade 61 = .ok (.if_icmp .ge 18, 3) := by decide +kernel
theorem dX12_trade_64 : decode cX12_trade 64 = .ok (.aload_n 0, 1) := by decide +kernel
theorem dX12_trade_65 : decode cX12_trade 65 = .ok (.getfield 3, 3) := by decide +kernel
theorem dX12_trade_68 : decode cX12_trade 68 = .ok (.bipush 30, 2) := by decide +kernel
theorem dX12_trade_70 : decode cX12_trade 70 = .ok (.iload_n 2, 1) := by decide +kernel
theorem dX12_trade_71 : decode cX12_trade 71 = .ok (.iadd, 1) := by decide +kernel
theorem dX12_trade_72 : decode cX12_trade 72 = .ok (.iconst 1, 1) := by decide +kernel
theorem dX12_trade_73 : decode cX12_trade 73 = .ok (.iadd, 1) := by decide +kernel
theorem dX12_trade_74 : decode cX12_trade 74 = .ok (.dup2, 1) := by decide +kernel
theorem dX12_trade_75 : decode cX12_trade 75 = .ok (.iaload, 1) := by decide +kernel
theorem dX12_trade_76 : decode cX12_trade 76 = .ok (.iload_n 3, 1) := by decide +kernel
theorem dX12_trade_77 : decode cX12_trade 77 = .ok (.iadd, 1) := by decide +kernel
theorem dX12_trade_78 : decode cX12_trade 78 = .ok (.iastore, 1) := by decide +kernel
theorem dX12_trade_79 : decode cX12_trade 79 = .ok (.aload_n 0, 1) := by decide +kernel
theorem dX12_trade_80 : decode cX12_trade 80 = .ok (.iload_n 1, 1) := by decide +kernel
theorem dX12_trade_81 : decode cX12_trade 81 = .ok (.iconst 1, 1) := by decide +kernel
theorem dX12_trade_82 : decode cX12_trade 82 = .ok (.invokevirtual 275, 3) := by decide +kernel
theorem dX12_trade_85 : decode cX12_trade 85 = .ok (.aload_n 0, 1) := by decide +kernel
theorem dX12_trade_86 : decode cX12_trade 86 = .ok (.iconst 0, 1) := by decide +kernel
theorem dX12_trade_87 : decode cX12_trade 87 = .ok (.invokevirtual 250, 3) := by decide +kernel
theorem dX12_trade_90 : decode cX12_trade 90 = .ok (.ireturn, 1) := by decide +kernel
theorem dX12_promise_0 : decode cX12_promise 0 = .ok (.aload_n 0, 1) := by decide +kernel
theorem dX12_promise_1 : decode cX12_promise 1 = .ok (.iload_n 1, 1) := by decide +kernel
theorem dX12_promise_2 : decode cX12_promise 2 = .ok (.invokevirtual 206, 3) := by decide +kernel
theorem dX12_promise_5 : decode cX12_promise 5 = .ok (.ifCond .eq 54, 3) := by decide +kernel
theorem dX12_promise_8 : decode cX12_promise 8 = .ok (.aload_n 0, 1) := by decide +kernel
theorem dX12_promise_9 : decode cX12_promise 9 = .ok (.iload_n 1, 1) := by decide +kernel
theorem dX12_promise_10 : decode cX12_promise 10 = .ok (.invokevirtual 209, 3) := by decide +kernel
theorem dX12_promise_13 : decode cX12_promise 13 = .ok (.ifCond .eq 46, 3) := by decide +kernel
theorem dX12_promise_16 : decode cX12_promise 16 = .ok (.iload_n 2, 1) := by decide +kernel
theorem dX12_promise_17 : decode cX12_promise 17 = .ok (.i2l, 1) := by decide +kernel
theorem dX12_promise_18 : decode cX12_promise 18 = .ok (.aload_n 0, 1) := by decide +kernel
theorem dX12_promise_19 : decode cX12_promise 19 = .ok (.getfield 3, 3) := by decide +kernel
theorem dX12_promise_22 : decode cX12_promise 22 = .ok (.iconst 0, 1) := by decide +kernel
theorem dX12_promise_23 : decode cX12_promise 23 = .ok (.iaload, 1) := by decide +kernel
theorem dX12_promise_24 : decode cX12_promise 24 = .ok (.i2l, 1) := by decide +kernel
theorem dX12_promise_25 : decode cX12_promise 25 = .ok (.ldc2_w 204, 3) := by decide +kernel
theorem dX12_promise_28 : decode cX12_promise 28 = .ok (.invokestatic 68, 3) := by decide +kernel
theorem dX12_promise_31 : decode cX12_promise 31 = .ok (.ifCond .eq 28, 3) := by decide +kernel
theorem dX12_promise_34 : decode cX12_promise 34 = .ok (.iload_n 3, 1) := by decide +kernel
theorem dX12_promise_35 : decode cX12_promise 35 = .ok (.i2l, 1) := by decide +kernel
theorem dX12_promise_36 : decode cX12_promise 36 = .ok (.lconst 1, 1) := by decide +kernel
theorem dX12_promise_37 : decode cX12_promise 37 = .ok (.ldc2_w 287, 3) := by decide +kernel
theorem dX12_promise_40 : decode cX12_promise 40 = .ok (.invokestatic 68, 3) := by decide +kernel
theorem dX12_promise_43 : decode cX12_promise 43 = .ok (.ifCond .eq 16, 3) := by decide +kernel
theorem dX12_promise_46 : decode cX12_promise 46 = .ok (.aload_n 0, 1) := by decide +kernel
theorem dX12_promise_47 : decode cX12_promise 47 = .ok (.getfield 3, 3) := by decide +kernel
theorem dX12_promise_50 : decode cX12_promise 50 = .ok (.sipush 3571, 3) := by decide +kernel
theorem dX12_promise_53 : decode cX12_promise 53 = .ok (.iaload, 1) := by decide +kernel
theorem dX12_promise_54 : decode cX12_promise 54 = .ok (.bipush 24, 2) := by decide +kernel
theorem dX12_promise_56 : decode cX12_promise 56 = .ok (.if_icmp .ne 5, 3) := by decide +kernel
theorem dX12_promise_59 : decode cX12_promise 59 = .ok (.iconst (-1), 1) := by decide +kernel
theorem dX12_promise_60 : decode cX12_promise 60 = .ok (.ireturn, 1) := by decide +kernel
theorem dX12_promise_61 : decode cX12_promise 61 = .ok (.aload_n 0, 1) := by decide +kernel
theorem dX12_promise_62 : decode cX12_promise 62 = .ok (.iconst 0, 1) := by decide +kernel
