theorem dX5_init_0 : decode cX5_init 0 = .ok (.aload_n 0, 1) := by decide +kernel
theorem dX5_init_1 : decode cX5_init 1 = .ok (.invokespecial 5, 3) := by decide +kernel
theorem dX5_init_4 : decode cX5_init 4 = .ok (.aload_n 0, 1) := by decide +kernel
theorem dX5_init_5 : decode cX5_init 5 = .ok (.bipush 80, 2) := by decide +kernel
theorem dX5_init_7 : decode cX5_init 7 = .ok (.newarray .int, 2) := by decide +kernel
theorem dX5_init_9 : decode cX5_init 9 = .ok (.putfield 11, 3) := by decide +kernel
theorem dX5_init_12 : decode cX5_init 12 = .ok (.aload_n 0, 1) := by decide +kernel
theorem dX5_init_13 : decode cX5_init 13 = .ok (.bipush 21, 2) := by decide +kernel
theorem dX5_init_15 : decode cX5_init 15 = .ok (.newarray .int, 2) := by decide +kernel
theorem dX5_init_17 : decode cX5_init 17 = .ok (.putfield 15, 3) := by decide +kernel
theorem dX5_init_20 : decode cX5_init 20 = .ok (.aload_n 0, 1) := by decide +kernel
theorem dX5_init_21 : decode cX5_init 21 = .ok (.bipush 6, 2) := by decide +kernel
theorem dX5_init_23 : decode cX5_init 23 = .ok (.newarray .int, 2) := by decide +kernel
theorem dX5_init_25 : decode cX5_init 25 = .ok (.putfield 18, 3) := by decide +kernel
theorem dX5_init_28 : decode cX5_init 28 = .ok (.aload_n 0, 1) := by decide +kernel
theorem dX5_init_29 : decode cX5_init 29 = .ok (.bipush 21, 2) := by decide +kernel
theorem dX5_init_31 : decode cX5_init 31 = .ok (.newarray .long, 2) := by decide +kernel
theorem dX5_init_33 : decode cX5_init 33 = .ok (.putfield 21, 3) := by decide +kernel
theorem dX5_init_36 : decode cX5_init 36 = .ok (.return_, 1) := by decide +kernel
theorem dX5_copyFrom_0 : decode cX5_copyFrom 0 = .ok (.aload_n 0, 1) := by decide +kernel
theorem dX5_copyFrom_1 : decode cX5_copyFrom 1 = .ok (.aload_n 1, 1) := by decide +kernel
theorem dX5_copyFrom_2 : decode cX5_copyFrom 2 = .ok (.getfield 25, 3) := by decide +kernel
theorem dX5_copyFrom_5 : decode cX5_copyFrom 5 = .ok (.putfield 25, 3) := by decide +kernel
theorem dX5_copyFrom_8 : decode cX5_copyFrom 8 = .ok (.aload_n 1, 1) := by decide +kernel
theorem dX5_copyFrom_9 : decode cX5_copyFrom 9 = .ok (.getfield 11, 3) := by decide +kernel
theorem dX5_copyFrom_12 : decode cX5_copyFrom 12 = .ok (.iconst 0, 1) := by decide +kernel
theorem dX5_copyFrom_13 : decode cX5_copyFrom 13 = .ok (.aload_n 0, 1) := by decide +kernel
theorem dX5_copyFrom_14 : decode cX5_copyFrom 14 = .ok (.getfield 11, 3) := by decide +kernel
theorem dX5_copyFrom_17 : decode cX5_copyFrom 17 = .ok (.iconst 0, 1) := by decide +kernel
theorem dX5_copyFrom_18 : decode cX5_copyFrom 18 = .ok (.bipush 80, 2) := by decide +kernel
theorem dX5_copyFrom_20 : decode cX5_copyFrom 20 = .ok (.invokestatic 29, 3) := by decide +kernel
theorem dX5_copyFrom_23 : decode cX5_copyFrom 23 = .ok (.return_, 1) := by decide +kernel
theorem dX5_read_0 : decode cX5_read 0 = .ok (.aload_n 0, 1) := by decide +kernel
theorem dX5_read_1 : decode cX5_read 1 = .ok (.iconst 0, 1) := by decide +kernel
theorem dX5_read_2 : decode cX5_read 2 = .ok (.putfield 25, 3) := by decide +kernel
theorem dX5_read_5 : decode cX5_read 5 = .ok (.aload_n 0, 1) := by decide +kernel
theorem dX5_read_6 : decode cX5_read 6 = .ok (.iconst 0, 1) := by decide +kernel
theorem dX5_read_7 : decode cX5_read 7 = .ok (.putfield 35, 3) := by decide +kernel
theorem dX5_read_10 : decode cX5_read 10 = .ok (.iconst 0, 1) := by decide +kernel
theorem dX5_read_11 : decode cX5_read 11 = .ok (.istore_n 2, 1) := by decide +kernel
theorem dX5_read_12 : decode cX5_read 12 = .ok (.iconst 0, 1) := by decide +kernel
theorem dX5_read_13 : decode cX5_read 13 = .ok (.istore_n 3, 1) := by decide +kernel
theorem dX5_read_14 : decode cX5_read 14 = .ok (.aload_n 1, 1) := by decide +kernel
theorem dX5_read_15 : decode cX5_read 15 = .ok (.invokevirtual 38, 3) := by decide +kernel
theorem dX5_read_18 : decode cX5_read 18 = .ok (.istore 4, 2) := by decide +kernel
theorem dX5_read_20 : decode cX5_read 20 = .ok (.iconst 0, 1) := by decide +kernel
theorem dX5_read_21 : decode cX5_read 21 = .ok (.istore 5, 2) := by decide +kernel
theorem dX5_read_23 : decode cX5_read 23 = .ok (.iload 5, 2) := by decide +kernel
theorem dX5_read_25 : decode cX5_read 25 = .ok (.sipush 500, 3) := by decide +kernel
theorem dX5_read_28 : decode cX5_read 28 = .ok (.if_icmp .ge 137, 3) := by decide +kernel
theorem dX5_read_31 : decode cX5_read 31 = .ok (.aload_n 1, 1) := by decide +kernel
theorem dX5_read_32 : decode cX5_read 32 = .ok (.invokevirtual 38, 3) := by decide +kernel
theorem dX5_read_35 : decode cX5_read 35 = .ok (.ifCond .eq 130, 3) := by decide +kernel
theorem dX5_read_38 : decode cX5_read 38 = .ok (.aload_n 1, 1) := by decide +kernel
theorem dX5_read_39 : decode cX5_read 39 = .ok (.invokevirtual 44, 3) := by decide +kernel
theorem dX5_read_42 : decode cX5_read 42 = .ok (.istore 6, 2) := by decide +kernel
theorem dX5_read_44 : decode cX5_read 44 = .ok (.iload 4, 2) := by decide +kernel
theorem dX5_read_46 : decode cX5_read 46 = .ok (.ifCond .eq 80, 3) := by decide +kernel
theorem dX5_read_49 : decode cX5_read 49 = .ok (.iload 6, 2) := by decide +kernel
theorem dX5_read_51 : decode cX5_read 51 = .ok (.bipush 40, 2) := by decide +kernel
theorem dX5_read_53 : decode cX5_read 53 = .ok (.if_icmp .ne 7, 3) := by decide +kernel
theorem dX5_read_56 : decode cX5_read 56 = .ok (.iconst 1, 1) := by decide +kernel
theorem dX5_read_57 : decode cX5_read 57 = .ok (.goto 4, 3) := by decide +kernel
theorem dX5_read_60 : decode cX5_read 60 = .ok (.iconst 0, 1) := by decide +kernel
theorem dX5_read_61 : decode cX5_read 61 = .ok (.istore 7, 2) := by decide +kernel
theorem dX5_read_63 : decode cX5_read 63 = .ok (.iload_n 2, 1) := by decide +kernel
theorem dX5_read_64 : decode cX5_read 64 = .ok (.bipush 40, 2) := by decide +kernel
theorem dX5_read_66 : decode cX5_read 66 = .ok (.if_icmp .ge 14, 3) := by decide +kernel
theorem dX5_read_69 : decode cX5_read 69 = .ok (.iload 7, 2) := by decide +kernel
theorem dX5_read_71 : decode cX5_read 71 = .ok (.ifCond .eq 20, 3) := by decide +kernel
theorem dX5_read_74 : decode cX5_read 74 = .ok (.iload_n 3, 1) := by decide +kernel
theorem dX5_read_75 : decode cX5_read 75 = .ok (.bipush 6, 2) := by decide +kernel
theorem dX5_read_77 : decode cX5_read 77 = .ok (.if_icmp .lt 14, 3) := by decide +kernel
theorem dX5_read_80 : decode cX5_read 80 = .ok (.aload_n 1, 1) := by decide +kernel
theorem dX5_read_81 : decode cX5_read 81 = .ok (.aload_n 1, 1) := by decide +kernel
theorem dX5_read_82 : decode cX5_read 82 = .ok (.getfield 48, 3) := by decide +kernel
theorem dX5_read_85 : decode cX5_read 85 = .ok (.invokevirtual 51, 3) := by decide +kernel
theorem dX5_read_88 : decode cX5_read 88 = .ok (.goto 32, 3) := by decide +kernel
theorem dX5_read_91 : decode cX5_read 91 = .ok (.iload 7, 2) := by decide +kernel
theorem dX5_read_93 : decode cX5_read 93 = .ok (.ifCond .eq 19, 3) := by decide +kernel
theorem dX5_read_96 : decode cX5_read 96 = .ok (.aload_n 1, 1) := by decide +kernel
theorem dX5_read_97 : decode cX5_read 97 = .ok (.invokevirtual 55, 3) := by decide +kernel
theorem dX5_read_100 : decode cX5_read 100 = .ok (.aload_n 0, 1) := by decide +kernel
theorem dX5_read_101 : decode cX5_read 101 = .ok (.iload 6, 2) := by decide +kernel
theorem dX5_read_103 : decode cX5_read 103 = .ok (.invokevirtual 58, 3) := by decide +kernel
theorem dX5_read_106 : decode cX5_read 106 = .ok (.iinc 3 1, 3) := by decide +kernel
theorem dX5_read_109 : decode cX5_read 109 = .ok (.goto 11, 3) := by decide +kernel
theorem dX5_read_112 : decode cX5_read 112 = .ok (.aload_n 0, 1) := by decide +kernel
theorem dX5_read_113 : decode cX5_read 113 = .ok (.aload_n 1, 1) := by decide +kernel
theorem dX5_read_114 : decode cX5_read 114 = .ok (.invokevirtual 61, 3) := by decide +kernel
theorem dX5_read_117 : decode cX5_read 117 = .ok (.iconst 0, 1) := by decide +kernel
theorem dX5_read_118 : decode cX5_read 118 = .ok (.istore 4, 2) := by decide +kernel
theorem dX5_read_120 : decode cX5_read 120 = .ok (.iinc 2 1, 3) := by decide +kernel
theorem dX5_read_123 : decode cX5_read 123 = .ok (.goto 36, 3) := by decide +kernel
theorem dX5_read_126 : decode cX5_read 126 = .ok (.iload 6, 2) := by decide +kernel
theorem dX5_read_128 : decode cX5_read 128 = .ok (.bipush 41, 2) := by decide +kernel
theorem dX5_read_130 : decode cX5_read 130 = .ok (.if_icmp .ne 21, 3) := by decide +kernel
theorem dX5_read_133 : decode cX5_read 133 = .ok (.iload_n 3, 1) := by decide +kernel
theorem dX5_read_134 : decode cX5_read 134 = .ok (.ifCond .le 17, 3) := by decide +kernel
theorem dX5_read_137 : decode cX5_read 137 = .ok (.aload_n 1, 1) := by decide +kernel
theorem dX5_read_138 : decode cX5_read 138 = .ok (.invokevirtual 55, 3) := by decide +kernel
theorem dX5_read_141 : decode cX5_read 141 = .ok (.aload_n 0, 1) := by decide +kernel
theorem dX5_read_142 : decode cX5_read 142 = .ok (.invokevirtual 65, 3) := by decide +kernel
theorem dX5_read_145 : decode cX5_read 145 = .ok (.iinc 3 (-1), 3) := by decide +kernel
theorem dX5_read_148 : decode cX5_read 148 = .ok (.goto 11, 3) := by decide +kernel
theorem dX5_read_151 : decode cX5_read 151 = .ok (.aload_n 0, 1) := by decide +kernel
theorem dX5_read_152 : decode cX5_read 152 = .ok (.aload_n 1, 1) := by decide +kernel
theorem dX5_read_153 : decode cX5_read 153 = .ok (.invokevirtual 68, 3) := by decide +kernel
theorem dX5_read_156 : decode cX5_read 156 = .ok (.iconst 1, 1) := by decide +kernel
theorem dX5_read_157 : decode cX5_read 157 = .ok (.istore 4, 2) := by decide +kernel
theorem dX5_read_159 : decode cX5_read 159 = .ok (.iinc 5 1, 3) := by decide +kernel
theorem dX5_read_162 : decode cX5_read 162 = .ok (.goto (-139), 3) := by decide +kernel
theorem dX5_read_165 : decode cX5_read 165 = .ok (.iload 4, 2) := by decide +kernel
theorem dX5_read_167 : decode cX5_read 167 = .ok (.ifCond .ne 7, 3) := by decide +kernel
theorem dX5_read_170 : decode cX5_read 170 = .ok (.iload_n 3, 1) := by decide +kernel
theorem dX5_read_171 : decode cX5_read 171 = .ok (.ifCond .le 11, 3) := by decide +kernel
theorem dX5_read_174 : decode cX5_read 174 = .ok (.aload_n 1, 1) := by decide +kernel
theorem dX5_read_175 : decode cX5_read 175 = .ok (.aload_n 1, 1) := by decide +kernel
theorem dX5_read_176 : decode cX5_read 176 = .ok (.getfield 48, 3) := by decide +kernel
theorem dX5_read_179 : decode cX5_read 179 = .ok (.invokevirtual 51, 3) := by decide +kernel
theorem dX5_read_182 : decode cX5_read 182 = .ok (.aload_n 0, 1) := by decide +kernel
theorem dX5_read_183 : decode cX5_read 183 = .ok (.iconst 0, 1) := by decide +kernel
theorem dX5_read_184 : decode cX5_read 184 = .ok (.invokevirtual 71, 3) := by decide +kernel
theorem dX5_read_187 : decode cX5_read 187 = .ok (.iload_n 2, 1) := by decide +kernel
theorem dX5_read_188 : decode cX5_read 188 = .ok (.ireturn, 1) := by decide +kernel
theorem dX5_readThing_0 : decode cX5_readThing 0 = .ok (.aload_n 1, 1) := by decide +kernel
theorem dX5_readThing_1 : decode cX5_readThing 1 = .ok (.invokevirtual 44, 3) := by decide +kernel
theorem dX5_readThing_4 : decode cX5_readThing 4 = .ok (.invokestatic 74, 3) := by decide +kernel
theorem dX5_readThing_7 : decode cX5_readThing 7 = .ok (.istore_n 2, 1) := by decide +kernel
theorem dX5_readThing_8 : decode cX5_readThing 8 = .ok (.iload_n 2, 1) := by decide +kernel
theorem dX5_readThing_9 : decode cX5_readThing 9 = .ok (.iconst (-1), 1) := by decide +kernel
theorem dX5_readThing_10 : decode cX5_readThing 10 = .ok (.if_icmp .ne 17, 3) := by decide +kernel
theorem dX5_readThing_13 : decode cX5_readThing 13 = .ok (.aload_n 0, 1) := by decide +kernel
theorem dX5_readThing_14 : decode cX5_readThing 14 = .ok (.aload_n 1, 1) := by decide +kernel
theorem dX5_readThing_15 : decode cX5_readThing 15 = .ok (.iconst 0, 1) := by decide +kernel
theorem dX5_readThing_16 : decode cX5_readThing 16 = .ok (.ldc 78, 2) := by decide +kernel
theorem dX5_readThing_18 : decode cX5_readThing 18 = .ok (.invokevirtual 79, 3) := by decide +kernel
theorem dX5_readThing_21 : decode cX5_readThing 21 = .ok (.invokevirtual 83, 3) := by decide +kernel
theorem dX5_readThing_24 : decode cX5_readThing 24 = .ok (.goto 14, 3) := by decide +kernel
theorem dX5_readThing_27 : decode cX5_readThing 27 = .ok (.aload_n 1, 1) := by decide +kernel
theorem dX5_readThing_28 : decode cX5_readThing 28 = .ok (.invokevirtual 55, 3) := by decide +kernel
theorem dX5_readThing_31 : decode cX5_readThing 31 = .ok (.aload_n 0, 1) := by decide +kernel
theorem dX5_readThing_32 : decode cX5_readThing 32 = .ok (.iconst (-1), 1) := by decide +kernel
theorem dX5_readThing_33 : decode cX5_readThing 33 = .ok (.iload_n 2, 1) := by decide +kernel
theorem dX5_readThing_34 : decode cX5_readThing 34 = .ok (.isub, 1) := by decide +kernel
theorem dX5_readThing_35 : decode cX5_readThing 35 = .ok (.invokevirtual 83, 3) := by decide +kernel
theorem dX5_readThing_38 : decode cX5_readThing 38 = .ok (.return_, 1) := by decide +kernel
theorem dX5_placeOf_0 : decode cX5_placeOf 0 = .ok (.iconst 0, 1) := by decide +kernel
theorem dX5_placeOf_1 : decode cX5_placeOf 1 = .ok (.istore_n 1, 1) := by decide +kernel
theorem dX5_placeOf_2 : decode cX5_placeOf 2 = .ok (.iload_n 1, 1) := by decide +kernel
theorem dX5_placeOf_3 : decode cX5_placeOf 3 = .ok (.bipush 6, 2) := by decide +kernel
theorem dX5_placeOf_5 : decode cX5_placeOf 5 = .ok (.if_icmp .ge 21, 3) := by decide +kernel
theorem dX5_placeOf_8 : decode cX5_placeOf 8 = .ok (.ldc 86, 2) := by decide +kernel
theorem dX5_placeOf_10 : decode cX5_placeOf 10 = .ok (.iload_n 1, 1) := by decide +kernel
theorem dX5_placeOf_11 : decode cX5_placeOf 11 = .ok (.invokevirtual 88, 3) := by decide +kernel
theorem dX5_placeOf_14 : decode cX5_placeOf 14 = .ok (.iload_n 0, 1) := by decide +kernel
theorem dX5_placeOf_15 : decode cX5_placeOf 15 = .ok (.if_icmp .ne 5, 3) := by decide +kernel
theorem dX5_placeOf_18 : decode cX5_placeOf 18 = .ok (.iload_n 1, 1) := by decide +kernel
theorem dX5_placeOf_19 : decode cX5_placeOf 19 = .ok (.ireturn, 1) := by decide +kernel
theorem dX5_placeOf_20 : decode cX5_placeOf 20 = .ok (.iinc 1 1, 3) := by decide +kernel
theorem dX5_placeOf_23 : decode cX5_placeOf 23 = .ok (.goto (-21), 3) := by decide +kernel
theorem dX5_placeOf_26 : decode cX5_placeOf 26 = .ok (.iconst (-1), 1) := by decide +kernel
theorem dX5_placeOf_27 : decode cX5_placeOf 27 = .ok (.ireturn, 1) := by decide +kernel
theorem dX5_readOperator_0 : decode cX5_readOperator 0 = .ok (.aload_n 1, 1) := by decide +kernel
theorem dX5_readOperator_1 : decode cX5_readOperator 1 = .ok (.invokevirtual 44, 3) := by decide +kernel
theorem dX5_readOperator_4 : decode cX5_readOperator 4 = .ok (.istore_n 2, 1) := by decide +kernel
theorem dX5_readOperator_5 : decode cX5_readOperator 5 = .ok (.iload_n 2, 1) := by decide +kernel
theorem dX5_readOperator_6 : decode cX5_readOperator 6 = .ok (.bipush 43, 2) := by decide +kernel
theorem dX5_readOperator_8 : decode cX5_readOperator 8 = .ok (.if_icmp .eq 24, 3) := by decide +kernel
theorem dX5_readOperator_11 : decode cX5_readOperator 11 = .ok (.iload_n 2, 1) := by decide +kernel
theorem dX5_readOperator_12 : decode cX5_readOperator 12 = .ok (.bipush 45, 2) := by decide +kernel
theorem dX5_readOperator_14 : decode cX5_readOperator 14 = .ok (.if_icmp .eq 18, 3) := by decide +kernel
theorem dX5_readOperator_17 : decode cX5_readOperator 17 = .ok (.iload_n 2, 1) := by decide +kernel
theorem dX5_readOperator_18 : decode cX5_readOperator 18 = .ok (.bipush 42, 2) := by decide +kernel
theorem dX5_readOperator_20 : decode cX5_readOperator 20 = .ok (.if_icmp .eq 12, 3) := by decide +kernel
theorem dX5_readOperator_23 : decode cX5_readOperator 23 = .ok (.aload_n 1, 1) := by decide +kernel
theorem dX5_readOperator_24 : decode cX5_readOperator 24 = .ok (.aload_n 1, 1) := by decide +kernel
theorem dX5_readOperator_25 : decode cX5_readOperator 25 = .ok (.getfield 48, 3) := by decide +kernel
theorem dX5_readOperator_28 : decode cX5_readOperator 28 = .ok (.invokevirtual 51, 3) := by decide +kernel
theorem dX5_readOperator_31 : decode cX5_readOperator 31 = .ok (.return_, 1) := by decide +kernel
theorem dX5_readOperator_32 : decode cX5_readOperator 32 = .ok (.aload_n 1, 1) := by decide +kernel
theorem dX5_readOperator_33 : decode cX5_readOperator 33 = .ok (.invokevirtual 55, 3) := by decide +kernel
theorem dX5_readOperator_36 : decode cX5_readOperator 36 = .ok (.aload_n 0, 1) := by decide +kernel
theorem dX5_readOperator_37 : decode cX5_readOperator 37 = .ok (.iload_n 2, 1) := by decide +kernel
theorem dX5_readOperator_38 : decode cX5_readOperator 38 = .ok (.invokestatic 94, 3) := by decide +kernel
theorem dX5_readOperator_41 : decode cX5_readOperator 41 = .ok (.invokevirtual 71, 3) := by decide +kernel
theorem dX5_readOperator_44 : decode cX5_readOperator 44 = .ok (.aload_n 0, 1) := by decide +kernel
theorem dX5_readOperator_45 : decode cX5_readOperator 45 = .ok (.iload_n 2, 1) := by decide +kernel
theorem dX5_readOperator_46 : decode cX5_readOperator 46 = .ok (.invokevirtual 58, 3) := by decide +kernel
theorem dX5_readOperator_49 : decode cX5_readOperator 49 = .ok (.return_, 1) := by decide +kernel
theorem dX5_strength_0 : decode cX5_strength 0 = .ok (.iload_n 0, 1) := by decide +kernel
theorem dX5_strength_1 : decode cX5_strength 1 = .ok (.bipush 42, 2) := by decide +kernel
theorem dX5_strength_3 : decode cX5_strength 3 = .ok (.if_icmp .ne 5, 3) := by decide +kernel
theorem dX5_strength_6 : decode cX5_strength 6 = .ok (.iconst 2, 1) := by decide +kernel
theorem dX5_strength_7 : decode cX5_strength 7 = .ok (.ireturn, 1) := by decide +kernel
theorem dX5_strength_8 : decode cX5_strength 8 = .ok (.iload_n 0, 1) := by decide +kernel
theorem dX5_strength_9 : decode cX5_strength 9 = .ok (.bipush 40, 2) := by decide +kernel
theorem dX5_strength_11 : decode cX5_strength 11 = .ok (.if_icmp .ne 7, 3) := by decide +kernel
theorem dX5_strength_14 : decode cX5_strength 14 = .ok (.iconst 0, 1) := by decide +kernel
theorem dX5_strength_15 : decode cX5_strength 15 = .ok (.goto 4, 3) := by decide +kernel
theorem dX5_strength_18 : decode cX5_strength 18 = .ok (.iconst 1, 1) := by decide +kernel
theorem dX5_strength_19 : decode cX5_strength 19 = .ok (.ireturn, 1) := by decide +kernel
theorem dX5_emit_0 : decode cX5_emit 0 = .ok (.aload_n 0, 1) := by decide +kernel
theorem dX5_emit_1 : decode cX5_emit 1 = .ok (.getfield 25, 3) := by decide +kernel
theorem dX5_emit_4 : decode cX5_emit 4 = .ok (.ifCond .lt 32, 3) := by decide +kernel
theorem dX5_emit_7 : decode cX5_emit 7 = .ok (.aload_n 0, 1) := by decide +kernel
theorem dX5_emit_8 : decode cX5_emit 8 = .ok (.getfield 25, 3) := by decide +kernel
theorem dX5_emit_11 : decode cX5_emit 11 = .ok (.bipush 80, 2) := by decide +kernel
theorem dX5_emit_13 : decode cX5_emit 13 = .ok (.if_icmp .ge 23, 3) := by decide +kernel
theorem dX5_emit_16 : decode cX5_emit 16 = .ok (.aload_n 0, 1) := by decide +kernel
theorem dX5_emit_17 : decode cX5_emit 17 = .ok (.getfield 11, 3) := by decide +kernel
theorem dX5_emit_20 : decode cX5_emit 20 = .ok (.aload_n 0, 1) := by decide +kernel
theorem dX5_emit_21 : decode cX5_emit 21 = .ok (.getfield 25, 3) := by decide +kernel
theorem dX5_emit_24 : decode cX5_emit 24 = .ok (.iload_n 1, 1) := by decide +kernel
theorem dX5_emit_25 : decode cX5_emit 25 = .ok (.iastore, 1) := by decide +kernel
theorem dX5_emit_26 : decode cX5_emit 26 = .ok (.aload_n 0, 1) := by decide +kernel
theorem dX5_emit_27 : decode cX5_emit 27 = .ok (.dup, 1) := by decide +kernel
theorem dX5_emit_28 : decode cX5_emit 28 = .ok (.getfield 25, 3) := by decide +kernel
theorem dX5_emit_31 : decode cX5_emit 31 = .ok (.iconst 1, 1) := by decide +kernel
theorem dX5_emit_32 : decode cX5_emit 32 = .ok (.iadd, 1) := by decide +kernel
theorem dX5_emit_33 : decode cX5_emit 33 = .ok (.putfield 25, 3) := by decide +kernel
theorem dX5_emit_36 : decode cX5_emit 36 = .ok (.return_, 1) := by decide +kernel
theorem dX5_hold_0 : decode cX5_hold 0 = .ok (.aload_n 0, 1) := by decide +kernel
theorem dX5_hold_1 : decode cX5_hold 1 = .ok (.getfield 35, 3) := by decide +kernel
theorem dX5_hold_4 : decode cX5_hold 4 = .ok (.ifCond .lt 32, 3) := by decide +kernel
theorem dX5_hold_7 : decode cX5_hold 7 = .ok (.aload_n 0, 1) := by decide +kernel
theorem dX5_hold_8 : decode cX5_hold 8 = .ok (.getfield 35, 3) := by decide +kernel
theorem dX5_hold_11 : decode cX5_hold 11 = .ok (.bipush 21, 2) := by decide +kernel
theorem dX5_hold_13 : decode cX5_hold 13 = .ok (.if_icmp .ge 23, 3) := by decide +kernel
theorem dX5_hold_16 : decode cX5_hold 16 = .ok (.aload_n 0, 1) := by decide +kernel
theorem dX5_hold_17 : decode cX5_hold 17 = .ok (.getfield 15, 3) := by decide +kernel
theorem dX5_hold_20 : decode cX5_hold 20 = .ok (.aload_n 0, 1) := by decide +kernel
theorem dX5_hold_21 : decode cX5_hold 21 = .ok (.getfield 35, 3) := by decide +kernel
theorem dX5_hold_24 : decode cX5_hold 24 = .ok (.iload_n 1, 1) := by decide +kernel
theorem dX5_hold_25 : decode cX5_hold 25 = .ok (.iastore, 1) := by decide +kernel
theorem dX5_hold_26 : decode cX5_hold 26 = .ok (.aload_n 0, 1) := by decide +kernel
theorem dX5_hold_27 : decode cX5_hold 27 = .ok (.dup, 1) := by decide +kernel
theorem dX5_hold_28 : decode cX5_hold 28 = .ok (.getfield 35, 3) := by decide +kernel
theorem dX5_hold_31 : decode cX5_hold 31 = .ok (.iconst 1, 1) := by decide +kernel
theorem dX5_hold_32 : decode cX5_hold 32 = .ok (.iadd, 1) := by decide +kernel
theorem dX5_hold_33 : decode cX5_hold 33 = .ok (.putfield 35, 3) := by decide +kernel
theorem dX5_hold_36 : decode cX5_hold 36 = .ok (.return_, 1) := by decide +kernel
theorem dX5_emitWaiting_0 : decode cX5_emitWaiting 0 = .ok (.iconst 1, 1) := by decide +kernel
theorem dX5_emitWaiting_1 : decode cX5_emitWaiting 1 = .ok (.iload_n 1, 1) := by decide +kernel
theorem dX5_emitWaiting_2 : decode cX5_emitWaiting 2 = .ok (.invokestatic 97, 3) := by decide +kernel
theorem dX5_emitWaiting_5 : decode cX5_emitWaiting 5 = .ok (.istore_n 2, 1) := by decide +kernel
theorem dX5_emitWaiting_6 : decode cX5_emitWaiting 6 = .ok (.aload_n 0, 1) := by decide +kernel
theorem dX5_emitWaiting_7 : decode cX5_emitWaiting 7 = .ok (.getfield 35, 3) := by decide +kernel
theorem dX5_emitWaiting_10 : decode cX5_emitWaiting 10 = .ok (.iconst 1, 1) := by decide +kernel
theorem dX5_emitWaiting_11 : decode cX5_emitWaiting 11 = .ok (.isub, 1) := by decide +kernel
theorem dX5_emitWaiting_12 : decode cX5_emitWaiting 12 = .ok (.istore_n 3, 1) := by decide +kernel
theorem dX5_emitWaiting_13 : decode cX5_emitWaiting 13 = .ok (.iload_n 3, 1) := by decide +kernel
theorem dX5_emitWaiting_14 : decode cX5_emitWaiting 14 = .ok (.ifCond .lt 44, 3) := by decide +kernel
theorem dX5_emitWaiting_17 : decode cX5_emitWaiting 17 = .ok (.iload_n 3, 1) := by decide +kernel
theorem dX5_emitWaiting_18 : decode cX5_emitWaiting 18 = .ok (.bipush 21, 2) := by decide +kernel
theorem dX5_emitWaiting_20 : decode cX5_emitWaiting 20 = .ok (.if_icmp .ge 38, 3) := by decide +kernel
theorem dX5_emitWaiting_23 : decode cX5_emitWaiting 23 = .ok (.aload_n 0, 1) := by decide +kernel
theorem dX5_emitWaiting_24 : decode cX5_emitWaiting 24 = .ok (.getfield 15, 3) := by decide +kernel
theorem dX5_emitWaiting_27 : decode cX5_emitWaiting 27 = .ok (.iload_n 3, 1) := by decide +kernel
theorem dX5_emitWaiting_28 : decode cX5_emitWaiting 28 = .ok (.iaload, 1) := by decide +kernel
theorem dX5_emitWaiting_29 : decode cX5_emitWaiting 29 = .ok (.invokestatic 94, 3) := by decide +kernel
theorem dX5_emitWaiting_32 : decode cX5_emitWaiting 32 = .ok (.iload_n 2, 1) := by decide +kernel
theorem dX5_emitWaiting_33 : decode cX5_emitWaiting 33 = .ok (.if_icmp .lt 25, 3) := by decide +kernel
theorem dX5_emitWaiting_36 : decode cX5_emitWaiting 36 = .ok (.aload_n 0, 1) := by decide +kernel
theorem dX5_emitWaiting_37 : decode cX5_emitWaiting 37 = .ok (.aload_n 0, 1) := by decide +kernel
theorem dX5_emitWaiting_38 : decode cX5_emitWaiting 38 = .ok (.getfield 15, 3) := by decide +kernel
theorem dX5_emitWaiting_41 : decode cX5_emitWaiting 41 = .ok (.iload_n 3, 1) := by decide +kernel
theorem dX5_emitWaiting_42 : decode cX5_emitWaiting 42 = .ok (.iaload, 1) := by decide +kernel
theorem dX5_emitWaiting_43 : decode cX5_emitWaiting 43 = .ok (.ineg, 1) := by decide +kernel
theorem dX5_emitWaiting_44 : decode cX5_emitWaiting 44 = .ok (.invokevirtual 83, 3) := by decide +kernel
theorem dX5_emitWaiting_47 : decode cX5_emitWaiting 47 = .ok (.aload_n 0, 1) := by decide +kernel
theorem dX5_emitWaiting_48 : decode cX5_emitWaiting 48 = .ok (.iload_n 3, 1) := by decide +kernel
theorem dX5_emitWaiting_49 : decode cX5_emitWaiting 49 = .ok (.putfield 35, 3) := by decide +kernel
theorem dX5_emitWaiting_52 : decode cX5_emitWaiting 52 = .ok (.iinc 3 (-1), 3) := by decide +kernel
theorem dX5_emitWaiting_55 : decode cX5_emitWaiting 55 = .ok (.goto (-42), 3) := by decide +kernel
theorem dX5_emitWaiting_58 : decode cX5_emitWaiting 58 = .ok (.return_, 1) := by decide +kernel
theorem dX5_closeBracket_0 : decode cX5_closeBracket 0 = .ok (.aload_n 0, 1) := by decide +kernel
theorem dX5_closeBracket_1 : decode cX5_closeBracket 1 = .ok (.iconst 0, 1) := by decide +kernel
theorem dX5_closeBracket_2 : decode cX5_closeBracket 2 = .ok (.invokevirtual 71, 3) := by decide +kernel
theorem dX5_closeBracket_5 : decode cX5_closeBracket 5 = .ok (.aload_n 0, 1) := by decide +kernel
theorem dX5_closeBracket_6 : decode cX5_closeBracket 6 = .ok (.iconst 0, 1) := by decide +kernel
theorem dX5_closeBracket_7 : decode cX5_closeBracket 7 = .ok (.aload_n 0, 1) := by decide +kernel
theorem dX5_closeBracket_8 : decode cX5_closeBracket 8 = .ok (.getfield 35, 3) := by decide +kernel
theorem dX5_closeBracket_11 : decode cX5_closeBracket 11 = .ok (.iconst 1, 1) := by decide +kernel
theorem dX5_closeBracket_12 : decode cX5_closeBracket 12 = .ok (.isub, 1) := by decide +kernel
theorem dX5_closeBracket_13 : decode cX5_closeBracket 13 = .ok (.invokestatic 97, 3) := by decide +kernel
theorem dX5_closeBracket_16 : decode cX5_closeBracket 16 = .ok (.putfield 35, 3) := by decide +kernel
theorem dX5_closeBracket_19 : decode cX5_closeBracket 19 = .ok (.return_, 1) := by decide +kernel
theorem dX5_put_0 : decode cX5_put 0 = .ok (.iload_n 1, 1) := by decide +kernel
theorem dX5_put_1 : decode cX5_put 1 = .ok (.invokestatic 74, 3) := by decide +kernel
theorem dX5_put_4 : decode cX5_put 4 = .ok (.istore_n 3, 1) := by decide +kernel
theorem dX5_put_5 : decode cX5_put 5 = .ok (.iload_n 3, 1) := by decide +kernel
theorem dX5_put_6 : decode cX5_put 6 = .ok (.iconst (-1), 1) := by decide +kernel
theorem dX5_put_7 : decode cX5_put 7 = .ok (.if_icmp .eq 10, 3) := by decide +kernel
theorem dX5_put_10 : decode cX5_put 10 = .ok (.aload_n 0, 1) := by decide +kernel
theorem dX5_put_11 : decode cX5_put 11 = .ok (.getfield 18, 3) := by decide +kernel
theorem dX5_put_14 : decode cX5_put 14 = .ok (.iload_n 3, 1) := by decide +kernel
theorem dX5_put_15 : decode cX5_put 15 = .ok (.iload_n 2, 1) := by decide +kernel
theorem dX5_put_16 : decode cX5_put 16 = .ok (.iastore, 1) := by decide +kernel
theorem dX5_put_17 : decode cX5_put 17 = .ok (.return_, 1) := by decide +kernel
theorem dX5_value_0 : decode cX5_value 0 = .ok (.iconst 0, 1) := by decide +kernel
theorem dX5_value_1 : decode cX5_value 1 = .ok (.istore_n 1, 1) := by decide +kernel
theorem dX5_value_2 : decode cX5_value 2 = .ok (.iconst 0, 1) := by decide +kernel
theorem dX5_value_3 : decode cX5_value 3 = .ok (.istore_n 2, 1) := by decide +kernel
theorem dX5_value_4 : decode cX5_value 4 = .ok (.iload_n 2, 1) := by decide +kernel
theorem dX5_value_5 : decode cX5_value 5 = .ok (.aload_n 0, 1) := by decide +kernel
theorem dX5_value_6 : decode cX5_value 6 = .ok (.getfield 25, 3) := by decide +kernel
theorem dX5_value_9 : decode cX5_value 9 = .ok (.if_icmp .ge 98, 3) := by decide +kernel
theorem dX5_value_12 : decode cX5_value 12 = .ok (.iload_n 2, 1) := by decide +kernel
theorem dX5_value_13 : decode cX5_value 13 = .ok (.bipush 80, 2) := by decide +kernel
theorem dX5_value_15 : decode cX5_value 15 = .ok (.if_icmp .ge 92, 3) := by decide +kernel
theorem dX5_value_18 : decode cX5_value 18 = .ok (.aload_n 0, 1) := by decide +kernel
theorem dX5_value_19 : decode cX5_value 19 = .ok (.getfield 11, 3) := by decide +kernel
theorem dX5_value_22 : decode cX5_value 22 = .ok (.iload_n 2, 1) := by decide +kernel
theorem dX5_value_23 : decode cX5_value 23 = .ok (.iaload, 1) := by decide +kernel
theorem dX5_value_24 : decode cX5_value 24 = .ok (.istore_n 3, 1) := by decide +kernel
theorem dX5_value_25 : decode cX5_value 25 = .ok (.iload_n 3, 1) := by decide +kernel
theorem dX5_value_26 : decode cX5_value 26 = .ok (.bipush (-6), 2) := by decide +kernel
theorem dX5_value_28 : decode cX5_value 28 = .ok (.if_icmp .ge 40, 3) := by decide +kernel
theorem dX5_value_31 : decode cX5_value 31 = .ok (.iload_n 1, 1) := by decide +kernel
theorem dX5_value_32 : decode cX5_value 32 = .ok (.iconst 1, 1) := by decide +kernel
theorem dX5_value_33 : decode cX5_value 33 = .ok (.isub, 1) := by decide +kernel
theorem dX5_value_34 : decode cX5_value 34 = .ok (.iconst 1, 1) := by decide +kernel
theorem dX5_value_35 : decode cX5_value 35 = .ok (.invokestatic 97, 3) := by decide +kernel
theorem dX5_value_38 : decode cX5_value 38 = .ok (.istore_n 1, 1) := by decide +kernel
theorem dX5_value_39 : decode cX5_value 39 = .ok (.aload_n 0, 1) := by decide +kernel
theorem dX5_value_40 : decode cX5_value 40 = .ok (.getfield 21, 3) := by decide +kernel
theorem dX5_value_43 : decode cX5_value 43 = .ok (.iload_n 1, 1) := by decide +kernel
theorem dX5_value_44 : decode cX5_value 44 = .ok (.iconst 1, 1) := by decide +kernel
theorem dX5_value_45 : decode cX5_value 45 = .ok (.isub, 1) := by decide +kernel
theorem dX5_value_46 : decode cX5_value 46 = .ok (.iload_n 3, 1) := by decide +kernel
theorem dX5_value_47 : decode cX5_value 47 = .ok (.aload_n 0, 1) := by decide +kernel
theorem dX5_value_48 : decode cX5_value 48 = .ok (.getfield 21, 3) := by decide +kernel
theorem dX5_value_51 : decode cX5_value 51 = .ok (.iload_n 1, 1) := by decide +kernel
theorem dX5_value_52 : decode cX5_value 52 = .ok (.iconst 1, 1) := by decide +kernel
theorem dX5_value_53 : decode cX5_value 53 = .ok (.isub, 1) := by decide +kernel
theorem dX5_value_54 : decode cX5_value 54 = .ok (.laload, 1) := by decide +kernel
theorem dX5_value_55 : decode cX5_value 55 = .ok (.aload_n 0, 1) := by decide +kernel
theorem dX5_value_56 : decode cX5_value 56 = .ok (.getfield 21, 3) := by decide +kernel
theorem dX5_value_59 : decode cX5_value 59 = .ok (.iload_n 1, 1) := by decide +kernel
theorem dX5_value_60 : decode cX5_value 60 = .ok (.laload, 1) := by decide +kernel
theorem dX5_value_61 : decode cX5_value 61 = .ok (.invokestatic 102, 3) := by decide +kernel
theorem dX5_value_64 : decode cX5_value 64 = .ok (.lastore, 1) := by decide +kernel
theorem dX5_value_65 : decode cX5_value 65 = .ok (.goto 36, 3) := by decide +kernel
theorem dX5_value_68 : decode cX5_value 68 = .ok (.iload_n 1, 1) := by decide +kernel
theorem dX5_value_69 : decode cX5_value 69 = .ok (.bipush 20, 2) := by decide +kernel
theorem dX5_value_71 : decode cX5_value 71 = .ok (.if_icmp .ge 30, 3) := by decide +kernel
theorem dX5_value_74 : decode cX5_value 74 = .ok (.aload_n 0, 1) := by decide +kernel
theorem dX5_value_75 : decode cX5_value 75 = .ok (.getfield 21, 3) := by decide +kernel
theorem dX5_value_78 : decode cX5_value 78 = .ok (.iload_n 1, 1) := by decide +kernel
theorem dX5_value_79 : decode cX5_value 79 = .ok (.iload_n 3, 1) := by decide +kernel
theorem dX5_value_80 : decode cX5_value 80 = .ok (.ifCond .ge 15, 3) := by decide +kernel
theorem dX5_value_83 : decode cX5_value 83 = .ok (.aload_n 0, 1) := by decide +kernel
theorem dX5_value_84 : decode cX5_value 84 = .ok (.getfield 18, 3) := by decide +kernel
theorem dX5_value_87 : decode cX5_value 87 = .ok (.iconst (-1), 1) := by decide +kernel
theorem dX5_value_88 : decode cX5_value 88 = .ok (.iload_n 3, 1) := by decide +kernel
theorem dX5_value_89 : decode cX5_value 89 = .ok (.isub, 1) := by decide +kernel
theorem dX5_value_90 : decode cX5_value 90 = .ok (.iaload, 1) := by decide +kernel
theorem dX5_value_91 : decode cX5_value 91 = .ok (.i2l, 1) := by decide +kernel
theorem dX5_value_92 : decode cX5_value 92 = .ok (.goto 5, 3) := by decide +kernel
theorem dX5_value_95 : decode cX5_value 95 = .ok (.iload_n 3, 1) := by decide +kernel
theorem dX5_value_96 : decode cX5_value 96 = .ok (.i2l, 1) := by decide +kernel
theorem dX5_value_97 : decode cX5_value 97 = .ok (.lastore, 1) := by decide +kernel
theorem dX5_value_98 : decode cX5_value 98 = .ok (.iinc 1 1, 3) := by decide +kernel
theorem dX5_value_101 : decode cX5_value 101 = .ok (.iinc 2 1, 3) := by decide +kernel
theorem dX5_value_104 : decode cX5_value 104 = .ok (.goto (-100), 3) := by decide +kernel
theorem dX5_value_107 : decode cX5_value 107 = .ok (.aload_n 0, 1) := by decide +kernel
theorem dX5_value_108 : decode cX5_value 108 = .ok (.getfield 21, 3) := by decide +kernel
theorem dX5_value_111 : decode cX5_value 111 = .ok (.iconst 0, 1) := by decide +kernel
theorem dX5_value_112 : decode cX5_value 112 = .ok (.laload, 1) := by decide +kernel
theorem dX5_value_113 : decode cX5_value 113 = .ok (.lreturn, 1) := by decide +kernel
theorem dX5_join_0 : decode cX5_join 0 = .ok (.iload_n 0, 1) := by decide +kernel
theorem dX5_join_1 : decode cX5_join 1 = .ok (.bipush (-42), 2) := by decide +kernel
theorem dX5_join_3 : decode cX5_join 3 = .ok (.if_icmp .ne 7, 3) := by decide +kernel
theorem dX5_join_6 : decode cX5_join 6 = .ok (.lload_n 1, 1) := by decide +kernel
theorem dX5_join_7 : decode cX5_join 7 = .ok (.lload_n 3, 1) := by decide +kernel
theorem dX5_join_8 : decode cX5_join 8 = .ok (.lmul, 1) := by decide +kernel
theorem dX5_join_9 : decode cX5_join 9 = .ok (.lreturn, 1) := by decide +kernel
theorem dX5_join_10 : decode cX5_join 10 = .ok (.iload_n 0, 1) := by decide +kernel
theorem dX5_join_11 : decode cX5_join 11 = .ok (.bipush (-43), 2) := by decide +kernel
theorem dX5_join_13 : decode cX5_join 13 = .ok (.if_icmp .ne 9, 3) := by decide +kernel
theorem dX5_join_16 : decode cX5_join 16 = .ok (.lload_n 1, 1) := by decide +kernel
theorem dX5_join_17 : decode cX5_join 17 = .ok (.lload_n 3, 1) := by decide +kernel
theorem dX5_join_18 : decode cX5_join 18 = .ok (.ladd, 1) := by decide +kernel
theorem dX5_join_19 : decode cX5_join 19 = .ok (.goto 6, 3) := by decide +kernel
theorem dX5_join_22 : decode cX5_join 22 = .ok (.lload_n 1, 1) := by decide +kernel
theorem dX5_join_23 : decode cX5_join 23 = .ok (.lload_n 3, 1) := by decide +kernel
theorem dX5_join_24 : decode cX5_join 24 = .ok (.lsub, 1) := by decide +kernel
theorem dX5_join_25 : decode cX5_join 25 = .ok (.lreturn, 1) := by decide +kernel
theorem dX6_init_0 : decode cX6_init 0 = .ok (.aload_n 0, 1) := by decide +kernel
theorem dX6_init_1 : decode cX6_init 1 = .ok (.invokespecial 1, 3) := by decide +kernel
theorem dX6_init_4 : decode cX6_init 4 = .ok (.aload_n 0, 1) := by decide +kernel
theorem dX6_init_5 : decode cX6_init 5 = .ok (.bipush 8, 2) := by decide +kernel
theorem dX6_init_7 : decode cX6_init 7 = .ok (.anewarray 9, 3) := by decide +kernel
theorem dX6_init_10 : decode cX6_init 10 = .ok (.putfield 11, 3) := by decide +kernel
theorem dX6_init_13 : decode cX6_init 13 = .ok (.return_, 1) := by decide +kernel
theorem dX6_push_0 : decode cX6_push 0 = .ok (.aload_n 0, 1) := by decide +kernel
theorem dX6_push_1 : decode cX6_push 1 = .ok (.getfield 11, 3) := by decide +kernel
theorem dX6_push_4 : decode cX6_push 4 = .ok (.aload_n 0, 1) := by decide +kernel
theorem dX6_push_5 : decode cX6_push 5 = .ok (.getfield 15, 3) := by decide +kernel
theorem dX6_push_8 : decode cX6_push 8 = .ok (.aaload, 1) := by decide +kernel
theorem dX6_push_9 : decode cX6_push 9 = .ok (.astore_n 2, 1) := by decide +kernel
theorem dX6_push_10 : decode cX6_push 10 = .ok (.aload_n 2, 1) := by decide +kernel
theorem dX6_push_11 : decode cX6_push 11 = .ok (.ifnonnull 21, 3) := by decide +kernel
theorem dX6_push_14 : decode cX6_push 14 = .ok (.new 9, 3) := by decide +kernel
theorem dX6_push_17 : decode cX6_push 17 = .ok (.dup, 1) := by decide +kernel
theorem dX6_push_18 : decode cX6_push 18 = .ok (.invokespecial 19, 3) := by decide +kernel
theorem dX6_push_21 : decode cX6_push 21 = .ok (.astore_n 2, 1) := by decide +kernel
theorem dX6_push_22 : decode cX6_push 22 = .ok (.aload_n 0, 1) := by decide +kernel
theorem dX6_push_23 : decode cX6_push 23 = .ok (.getfield 11, 3) := by decide +kernel
theorem dX6_push_26 : decode cX6_push 26 = .ok (.aload_n 0, 1) := by decide +kernel
theorem dX6_push_27 : decode cX6_push 27 = .ok (.getfield 15, 3) := by decide +kernel
theorem dX6_push_30 : decode cX6_push 30 = .ok (.aload_n 2, 1) := by decide +kernel
theorem dX6_push_31 : decode cX6_push 31 = .ok (.aastore, 1) := by decide +kernel
theorem dX6_push_32 : decode cX6_push 32 = .ok (.aload_n 2, 1) := by decide +kernel
theorem dX6_push_33 : decode cX6_push 33 = .ok (.aload_n 1, 1) := by decide +kernel
theorem dX6_push_34 : decode cX6_push 34 = .ok (.invokevirtual 20, 3) := by decide +kernel
theorem dX6_push_37 : decode cX6_push 37 = .ok (.aload_n 0, 1) := by decide +kernel
theorem dX6_push_38 : decode cX6_push 38 = .ok (.aload_n 0, 1) := by decide +kernel
theorem dX6_push_39 : decode cX6_push 39 = .ok (.getfield 15, 3) := by decide +kernel
theorem dX6_push_42 : decode cX6_push 42 = .ok (.iconst 1, 1) := by decide +kernel
theorem dX6_push_43 : decode cX6_push 43 = .ok (.iadd, 1) := by decide +kernel
theorem dX6_push_44 : decode cX6_push 44 = .ok (.bipush 8, 2) := by decide +kernel
theorem dX6_push_46 : decode cX6_push 46 = .ok (.irem, 1) := by decide +kernel
theorem dX6_push_47 : decode cX6_push 47 = .ok (.putfield 15, 3) := by decide +kernel
theorem dX6_push_50 : decode cX6_push 50 = .ok (.aload_n 0, 1) := by decide +kernel
theorem dX6_push_51 : decode cX6_push 51 = .ok (.bipush 8, 2) := by decide +kernel
theorem dX6_push_53 : decode cX6_push 53 = .ok (.aload_n 0, 1) := by decide +kernel
theorem dX6_push_54 : decode cX6_push 54 = .ok (.getfield 24, 3) := by decide +kernel
theorem dX6_push_57 : decode cX6_push 57 = .ok (.iconst 1, 1) := by decide +kernel
theorem dX6_push_58 : decode cX6_push 58 = .ok (.iadd, 1) := by decide +kernel
theorem dX6_push_59 : decode cX6_push 59 = .ok (.invokestatic 27, 3) := by decide +kernel
theorem dX6_push_62 : decode cX6_push 62 = .ok (.putfield 24, 3) := by decide +kernel
theorem dX6_push_65 : decode cX6_push 65 = .ok (.return_, 1) := by decide +kernel
theorem dX6_pop_0 : decode cX6_pop 0 = .ok (.aload_n 0, 1) := by decide +kernel
theorem dX6_pop_1 : decode cX6_pop 1 = .ok (.getfield 24, 3) := by decide +kernel
theorem dX6_pop_4 : decode cX6_pop 4 = .ok (.iconst 1, 1) := by decide +kernel
theorem dX6_pop_5 : decode cX6_pop 5 = .ok (.if_icmp .ge 5, 3) := by decide +kernel
theorem dX6_pop_8 : decode cX6_pop 8 = .ok (.aconst_null, 1) := by decide +kernel
theorem dX6_pop_9 : decode cX6_pop 9 = .ok (.areturn, 1) := by decide +kernel
theorem dX6_pop_10 : decode cX6_pop 10 = .ok (.aload_n 0, 1) := by decide +kernel
theorem dX6_pop_11 : decode cX6_pop 11 = .ok (.dup, 1) := by decide +kernel
theorem dX6_pop_12 : decode cX6_pop 12 = .ok (.getfield 24, 3) := by decide +kernel
theorem dX6_pop_15 : decode cX6_pop 15 = .ok (.iconst 1, 1) := by decide +kernel
theorem dX6_pop_16 : decode cX6_pop 16 = .ok (.isub, 1) := by decide +kernel
theorem dX6_pop_17 : decode cX6_pop 17 = .ok (.putfield 24, 3) := by decide +kernel
theorem dX6_pop_20 : decode cX6_pop 20 = .ok (.aload_n 0, 1) := by decide +kernel
theorem dX6_pop_21 : decode cX6_pop 21 = .ok (.aload_n 0, 1) := by decide +kernel
theorem dX6_pop_22 : decode cX6_pop 22 = .ok (.getfield 15, 3) := by decide +kernel
theorem dX6_pop_25 : decode cX6_pop 25 = .ok (.bipush 8, 2) := by decide +kernel
theorem dX6_pop_27 : decode cX6_pop 27 = .ok (.iadd, 1) := by decide +kernel
theorem dX6_pop_28 : decode cX6_pop 28 = .ok (.iconst 1, 1) := by decide +kernel
theorem dX6_pop_29 : decode cX6_pop 29 = .ok (.isub, 1) := by decide +kernel
theorem dX6_pop_30 : decode cX6_pop 30 = .ok (.bipush 8, 2) := by decide +kernel
theorem dX6_pop_32 : decode cX6_pop 32 = .ok (.irem, 1) := by decide +kernel
theorem dX6_pop_33 : decode cX6_pop 33 = .ok (.putfield 15, 3) := by decide +kernel
theorem dX6_pop_36 : decode cX6_pop 36 = .ok (.aload_n 0, 1) := by decide +kernel
theorem dX6_pop_37 : decode cX6_pop 37 = .ok (.getfield 11, 3) := by decide +kernel
theorem dX6_pop_40 : decode cX6_pop 40 = .ok (.aload_n 0, 1) := by decide +kernel
theorem dX6_pop_41 : decode cX6_pop 41 = .ok (.getfield 15, 3) := by decide +kernel
theorem dX6_pop_44 : decode cX6_pop 44 = .ok (.aaload, 1) := by decide +kernel
theorem dX6_pop_45 : decode cX6_pop 45 = .ok (.areturn, 1) := by decide +kernel
theorem dX7_init_0 : decode cX7_init 0 = .ok (.aload_n 0, 1) := by decide +kernel
theorem dX7_init_1 : decode cX7_init 1 = .ok (.invokespecial 3, 3) := by decide +kernel
theorem dX7_init_4 : decode cX7_init 4 = .ok (.aload_n 0, 1) := by decide +kernel
theorem dX7_init_5 : decode cX7_init 5 = .ok (.bipush 12, 2) := by decide +kernel
theorem dX7_init_7 : decode cX7_init 7 = .ok (.newarray .int, 2) := by decide +kernel
theorem dX7_init_9 : decode cX7_init 9 = .ok (.putfield 11, 3) := by decide +kernel
theorem dX7_init_12 : decode cX7_init 12 = .ok (.aload_n 0, 1) := by decide +kernel
theorem dX7_init_13 : decode cX7_init 13 = .ok (.bipush 12, 2) := by decide +kernel
theorem dX7_init_15 : decode cX7_init 15 = .ok (.newarray .int, 2) := by decide +kernel
theorem dX7_init_17 : decode cX7_init 17 = .ok (.putfield 15, 3) := by decide +kernel
theorem dX7_init_20 : decode cX7_init 20 = .ok (.aload_n 0, 1) := by decide +kernel
theorem dX7_init_21 : decode cX7_init 21 = .ok (.bipush 12, 2) := by decide +kernel
theorem dX7_init_23 : decode cX7_init 23 = .ok (.newarray .int, 2) := by decide +kernel
theorem dX7_init_25 : decode cX7_init 25 = .ok (.putfield 18, 3) := by decide +kernel
theorem dX7_init_28 : decode cX7_init 28 = .ok (.aload_n 0, 1) := by decide +kernel
theorem dX7_init_29 : decode cX7_init 29 = .ok (.bipush 12, 2) := by decide +kernel
theorem dX7_init_31 : decode cX7_init 31 = .ok (.newarray .int, 2) := by decide +kernel
theorem dX7_init_33 : decode cX7_init 33 = .ok (.putfield 21, 3) := by decide +kernel
theorem dX7_init_36 : decode cX7_init 36 = .ok (.return_, 1) := by decide +kernel
theorem dX7_copyFrom_0 : decode cX7_copyFrom 0 = .ok (.aload_n 0, 1) := by decide +kernel
theorem dX7_copyFrom_1 : decode cX7_copyFrom 1 = .ok (.aload_n 1, 1) := by decide +kernel
theorem dX7_copyFrom_2 : decode cX7_copyFrom 2 = .ok (.getfield 24, 3) := by decide +kernel
theorem dX7_copyFrom_5 : decode cX7_copyFrom 5 = .ok (.putfield 24, 3) := by decide +kernel
theorem dX7_copyFrom_8 : decode cX7_copyFrom 8 = .ok (.aload_n 1, 1) := by decide +kernel
theorem dX7_copyFrom_9 : decode cX7_copyFrom 9 = .ok (.getfield 11, 3) := by decide +kernel
theorem dX7_copyFrom_12 : decode cX7_copyFrom 12 = .ok (.iconst 0, 1) := by decide +kernel
theorem dX7_copyFrom_13 : decode cX7_copyFrom 13 = .ok (.aload_n 0, 1) := by decide +kernel
theorem dX7_copyFrom_14 : decode cX7_copyFrom 14 = .ok (.getfield 11, 3) := by decide +kernel
theorem dX7_copyFrom_17 : decode cX7_copyFrom 17 = .ok (.iconst 0, 1) := by decide +kernel
theorem dX7_copyFrom_18 : decode cX7_copyFrom 18 = .ok (.bipush 12, 2) := by decide +kernel
theorem dX7_copyFrom_20 : decode cX7_copyFrom 20 = .ok (.invokestatic 28, 3) := by decide +kernel
theorem dX7_copyFrom_23 : decode cX7_copyFrom 23 = .ok (.aload_n 1, 1) := by decide +kernel
theorem dX7_copyFrom_24 : decode cX7_copyFrom 24 = .ok (.getfield 15, 3) := by decide +kernel
theorem dX7_copyFrom_27 : decode cX7_copyFrom 27 = .ok (.iconst 0, 1) := by decide +kernel
theorem dX7_copyFrom_28 : decode cX7_copyFrom 28 = .ok (.aload_n 0, 1) := by decide +kernel
theorem dX7_copyFrom_29 : decode cX7_copyFrom 29 = .ok (.getfield 15, 3) := by decide +kernel
theorem dX7_copyFrom_32 : decode cX7_copyFrom 32 = .ok (.iconst 0, 1) := by decide +kernel
theorem dX7_copyFrom_33 : decode cX7_copyFrom 33 = .ok (.bipush 12, 2) := by decide +kernel
theorem dX7_copyFrom_35 : decode cX7_copyFrom 35 = .ok (.invokestatic 28, 3) := by decide +kernel
theorem dX7_copyFrom_38 : decode cX7_copyFrom 38 = .ok (.aload_n 1, 1) := by decide +kernel
theorem dX7_copyFrom_39 : decode cX7_copyFrom 39 = .ok (.getfield 18, 3) := by decide +kernel
theorem dX7_copyFrom_42 : decode cX7_copyFrom 42 = .ok (.iconst 0, 1) := by decide +kernel
theorem dX7_copyFrom_43 : decode cX7_copyFrom 43 = .ok (.aload_n 0, 1) := by decide +kernel
theorem dX7_copyFrom_44 : decode cX7_copyFrom 44 = .ok (.getfield 18, 3) := by decide +kernel
theorem dX7_copyFrom_47 : decode cX7_copyFrom 47 = .ok (.iconst 0, 1) := by decide +kernel
theorem dX7_copyFrom_48 : decode cX7_copyFrom 48 = .ok (.bipush 12, 2) := by decide +kernel
theorem dX7_copyFrom_50 : decode cX7_copyFrom 50 = .ok (.invokestatic 28, 3) := by decide +kernel
theorem dX7_copyFrom_53 : decode cX7_copyFrom 53 = .ok (.aload_n 1, 1) := by decide +kernel
theorem dX7_copyFrom_54 : decode cX7_copyFrom 54 = .ok (.getfield 21, 3) := by decide +kernel
theorem dX7_copyFrom_57 : decode cX7_copyFrom 57 = .ok (.iconst 0, 1) := by decide +kernel
theorem dX7_copyFrom_58 : decode cX7_copyFrom 58 = .ok (.aload_n 0, 1) := by decide +kernel
theorem dX7_copyFrom_59 : decode cX7_copyFrom 59 = .ok (.getfield 21, 3) := by decide +kernel
theorem dX7_copyFrom_62 : decode cX7_copyFrom 62 = .ok (.iconst 0, 1) := by decide +kernel
theorem dX7_copyFrom_63 : decode cX7_copyFrom 63 = .ok (.bipush 12, 2) := by decide +kernel
theorem dX7_copyFrom_65 : decode cX7_copyFrom 65 = .ok (.invokestatic 28, 3) := by decide +kernel
theorem dX7_copyFrom_68 : decode cX7_copyFrom 68 = .ok (.return_, 1) := by decide +kernel
theorem dX7_has_0 : decode cX7_has 0 = .ok (.iload_n 1, 1) := by decide +kernel
theorem dX7_has_1 : decode cX7_has 1 = .ok (.ifCond .lt 15, 3) := by decide +kernel
theorem dX7_has_4 : decode cX7_has 4 = .ok (.iload_n 1, 1) := by decide +kernel
theorem dX7_has_5 : decode cX7_has 5 = .ok (.aload_n 0, 1) := by decide +kernel
theorem dX7_has_6 : decode cX7_has 6 = .ok (.getfield 24, 3) := by decide +kernel
theorem dX7_has_9 : decode cX7_has 9 = .ok (.if_icmp .ge 7, 3) := by decide +kernel
theorem dX7_has_12 : decode cX7_has 12 = .ok (.iconst 1, 1) := by decide +kernel
theorem dX7_has_13 : decode cX7_has 13 = .ok (.goto 4, 3) := by decide +kernel
theorem dX7_has_16 : decode cX7_has 16 = .ok (.iconst 0, 1) := by decide +kernel
theorem dX7_has_17 : decode cX7_has 17 = .ok (.ireturn, 1) := by decide +kernel
theorem dX7_hit_0 : decode cX7_hit 0 = .ok (.aload_n 0, 1) := by decide +kernel
theorem dX7_hit_1 : decode cX7_hit 1 = .ok (.getfield 18, 3) := by decide +kernel
theorem dX7_hit_4 : decode cX7_hit 4 = .ok (.iload_n 1, 1) := by decide +kernel
theorem dX7_hit_5 : decode cX7_hit 5 = .ok (.iaload, 1) := by decide +kernel
theorem dX7_hit_6 : decode cX7_hit 6 = .ok (.aload_n 0, 1) := by decide +kernel
theorem dX7_hit_7 : decode cX7_hit 7 = .ok (.getfield 15, 3) := by decide +kernel
theorem dX7_hit_10 : decode cX7_hit 10 = .ok (.iload_n 1, 1) := by decide +kernel
theorem dX7_hit_11 : decode cX7_hit 11 = .ok (.iaload, 1) := by decide +kernel
theorem dX7_hit_12 : decode cX7_hit 12 = .ok (.iconst 0, 1) := by decide +kernel
theorem dX7_hit_13 : decode cX7_hit 13 = .ok (.invokestatic 34, 3) := by decide +kernel
theorem dX7_hit_16 : decode cX7_hit 16 = .ok (.aload_n 0, 1) := by decide +kernel
theorem dX7_hit_17 : decode cX7_hit 17 = .ok (.getfield 21, 3) := by decide +kernel
theorem dX7_hit_20 : decode cX7_hit 20 = .ok (.iload_n 1, 1) := by decide +kernel
theorem dX7_hit_21 : decode cX7_hit 21 = .ok (.iaload, 1) := by decide +kernel
theorem dX7_hit_22 : decode cX7_hit 22 = .ok (.iadd, 1) := by decide +kernel
theorem dX7_hit_23 : decode cX7_hit 23 = .ok (.ireturn, 1) := by decide +kernel
theorem dX7_remove_0 : decode cX7_remove 0 = .ok (.aload_n 0, 1) := by decide +kernel
theorem dX7_remove_1 : decode cX7_remove 1 = .ok (.iload_n 1, 1) := by decide +kernel
theorem dX7_remove_2 : decode cX7_remove 2 = .ok (.invokevirtual 40, 3) := by decide +kernel
theorem dX7_remove_5 : decode cX7_remove 5 = .ok (.ifCond .ne 4, 3) := by decide +kernel
theorem dX7_remove_8 : decode cX7_remove 8 = .ok (.return_, 1) := by decide +kernel
theorem dX7_remove_9 : decode cX7_remove 9 = .ok (.iload_n 1, 1) := by decide +kernel
theorem dX7_remove_10 : decode cX7_remove 10 = .ok (.istore_n 2, 1) := by decide +kernel
theorem dX7_remove_11 : decode cX7_remove 11 = .ok (.iload_n 2, 1) := by decide +kernel
theorem dX7_remove_12 : decode cX7_remove 12 = .ok (.iconst 1, 1) := by decide +kernel
theorem dX7_remove_13 : decode cX7_remove 13 = .ok (.iadd, 1) := by decide +kernel
theorem dX7_remove_14 : decode cX7_remove 14 = .ok (.aload_n 0, 1) := by decide +kernel
theorem dX7_remove_15 : decode cX7_remove 15 = .ok (.getfield 24, 3) := by decide +kernel
theorem dX7_remove_18 : decode cX7_remove 18 = .ok (.if_icmp .ge 65, 3) := by decide +kernel
theorem dX7_remove_21 : decode cX7_remove 21 = .ok (.aload_n 0, 1) := by decide +kernel
theorem dX7_remove_22 : decode cX7_remove 22 = .ok (.getfield 11, 3) := by decide +kernel
theorem dX7_remove_25 : decode cX7_remove 25 = .ok (.iload_n 2, 1) := by decide +kernel
theorem dX7_remove_26 : decode cX7_remove 26 = .ok (.aload_n 0, 1) := by decide +kernel
theorem dX7_remove_27 : decode cX7_remove 27 = .ok (.getfield 11, 3) := by decide +kernel
theorem dX7_remove_30 : decode cX7_remove 30 = .ok (.iload_n 2, 1) := by decide +kernel
theorem dX7_remove_31 : decode cX7_remove 31 = .ok (.iconst 1, 1) := by decide +kernel
theorem dX7_remove_32 : decode cX7_remove 32 = .ok (.iadd, 1) := by decide +kernel
theorem dX7_remove_33 : decode cX7_remove 33 = .ok (.iaload, 1) := by decide +kernel
theorem dX7_remove_34 : decode cX7_remove 34 = .ok (.iastore, 1) := by decide +kernel
theorem dX7_remove_35 : decode cX7_remove 35 = .ok (.aload_n 0, 1) := by decide +kernel
theorem dX7_remove_36 : decode cX7_remove 36 = .ok (.getfield 15, 3) := by decide +kernel
theorem dX7_remove_39 : decode cX7_remove 39 = .ok (.iload_n 2, 1) := by decide +kernel
theorem dX7_remove_40 : decode cX7_remove 40 = .ok (.aload_n 0, 1) := by decide +kernel
theorem dX7_remove_41 : decode cX7_remove 41 = .ok (.getfield 15, 3) := by decide +kernel
theorem dX7_remove_44 : decode cX7_remove 44 = .ok (.iload_n 2, 1) := by decide +kernel
theorem dX7_remove_45 : decode cX7_remove 45 = .ok (.iconst 1, 1) := by decide +kernel
theorem dX7_remove_46 : decode cX7_remove 46 = .ok (.iadd, 1) := by decide +kernel
theorem dX7_remove_47 : decode cX7_remove 47 = .ok (.iaload, 1) := by decide +kernel
theorem dX7_remove_48 : decode cX7_remove 48 = .ok (.iastore, 1) := by decide +kernel
theorem dX7_remove_49 : decode cX7_remove 49 = .ok (.aload_n 0, 1) := by decide +kernel
theorem dX7_remove_50 : decode cX7_remove 50 = .ok (.getfield 18, 3) := by decide +kernel
theorem dX7_remove_53 : decode cX7_remove 53 = .ok (.iload_n 2, 1) := by decide +kernel
theorem dX7_remove_54 : decode cX7_remove 54 = .ok (.aload_n 0, 1) := by decide +kernel
theorem dX7_remove_55 : decode cX7_remove 55 = .ok (.getfield 18, 3) := by decide +kernel
theorem dX7_remove_58 : decode cX7_remove 58 = .ok (.iload_n 2, 1) := by decide +kernel
theorem dX7_remove_59 : decode cX7_remove 59 = .ok (.iconst 1, 1) := by decide +kernel
theorem dX7_remove_60 : decode cX7_remove 60 = .ok (.iadd, 1) := by decide +kernel
theorem dX7_remove_61 : decode cX7_remove 61 = .ok (.iaload, 1) := by decide +kernel
theorem dX7_remove_62 : decode cX7_remove 62 = .ok (.iastore, 1) := by decide +kernel
theorem dX7_remove_63 : decode cX7_remove 63 = .ok (.aload_n 0, 1) := by decide +kernel
theorem dX7_remove_64 : decode cX7_remove 64 = .ok (.getfield 21, 3) := by decide +kernel
theorem dX7_remove_67 : decode cX7_remove 67 = .ok (.iload_n 2, 1) := by decide +kernel
theorem dX7_remove_68 : decode cX7_remove 68 = .ok (.aload_n 0, 1) := by decide +kernel
theorem dX7_remove_69 : decode cX7_remove 69 = .ok (.getfield 21, 3) := by decide +kernel
theorem dX7_remove_72 : decode cX7_remove 72 = .ok (.iload_n 2, 1) := by decide +kernel
theorem dX7_remove_73 : decode cX7_remove 73 = .ok (.iconst 1, 1) := by decide +kernel
theorem dX7_remove_74 : decode cX7_remove 74 = .ok (.iadd, 1) := by decide +kernel
theorem dX7_remove_75 : decode cX7_remove 75 = .ok (.iaload, 1) := by decide +kernel
theorem dX7_remove_76 : decode cX7_remove 76 = .ok (.iastore, 1) := by decide +kernel
theorem dX7_remove_77 : decode cX7_remove 77 = .ok (.iinc 2 1, 3) := by decide +kernel
theorem dX7_remove_80 : decode cX7_remove 80 = .ok (.goto (-69), 3) := by decide +kernel
theorem dX7_remove_83 : decode cX7_remove 83 = .ok (.aload_n 0, 1) := by decide +kernel
theorem dX7_remove_84 : decode cX7_remove 84 = .ok (.dup, 1) := by decide +kernel
theorem dX7_remove_85 : decode cX7_remove 85 = .ok (.getfield 24, 3) := by decide +kernel
theorem dX7_remove_88 : decode cX7_remove 88 = .ok (.iconst 1, 1) := by decide +kernel
theorem dX7_remove_89 : decode cX7_remove 89 = .ok (.isub, 1) := by decide +kernel
theorem dX7_remove_90 : decode cX7_remove 90 = .ok (.putfield 24, 3) := by decide +kernel
theorem dX7_remove_93 : decode cX7_remove 93 = .ok (.return_, 1) := by decide +kernel
theorem dX7_read_0 : decode cX7_read 0 = .ok (.aload_n 0, 1) := by decide +kernel
theorem dX7_read_1 : decode cX7_read 1 = .ok (.iconst 0, 1) := by decide +kernel
theorem dX7_read_2 : decode cX7_read 2 = .ok (.putfield 24, 3) := by decide +kernel
theorem dX7_read_5 : decode cX7_read 5 = .ok (.iconst 0, 1) := by decide +kernel
theorem dX7_read_6 : decode cX7_read 6 = .ok (.istore_n 3, 1) := by decide +kernel
theorem dX7_read_7 : decode cX7_read 7 = .ok (.iload_n 3, 1) := by decide +kernel
theorem dX7_read_8 : decode cX7_read 8 = .ok (.bipush 12, 2) := by decide +kernel
theorem dX7_read_10 : decode cX7_read 10 = .ok (.if_icmp .ge 85, 3) := by decide +kernel
theorem dX7_read_13 : decode cX7_read 13 = .ok (.aload_n 1, 1) := by decide +kernel
theorem dX7_read_14 : decode cX7_read 14 = .ok (.invokevirtual 44, 3) := by decide +kernel
theorem dX7_read_17 : decode cX7_read 17 = .ok (.ifCond .eq 78, 3) := by decide +kernel
theorem dX7_read_20 : decode cX7_read 20 = .ok (.aload_n 0, 1) := by decide +kernel
theorem dX7_read_21 : decode cX7_read 21 = .ok (.getfield 11, 3) := by decide +kernel
theorem dX7_read_24 : decode cX7_read 24 = .ok (.iload_n 3, 1) := by decide +kernel
theorem dX7_read_25 : decode cX7_read 25 = .ok (.aload_n 1, 1) := by decide +kernel
theorem dX7_read_26 : decode cX7_read 26 = .ok (.iconst 1, 1) := by decide +kernel
theorem dX7_read_27 : decode cX7_read 27 = .ok (.sipush 9999, 3) := by decide +kernel
theorem dX7_read_30 : decode cX7_read 30 = .ok (.invokevirtual 50, 3) := by decide +kernel
theorem dX7_read_33 : decode cX7_read 33 = .ok (.iastore, 1) := by decide +kernel
theorem dX7_read_34 : decode cX7_read 34 = .ok (.aload_n 0, 1) := by decide +kernel
theorem dX7_read_35 : decode cX7_read 35 = .ok (.getfield 15, 3) := by decide +kernel
theorem dX7_read_38 : decode cX7_read 38 = .ok (.iload_n 3, 1) := by decide +kernel
theorem dX7_read_39 : decode cX7_read 39 = .ok (.aload_n 1, 1) := by decide +kernel
theorem dX7_read_40 : decode cX7_read 40 = .ok (.iconst 1, 1) := by decide +kernel
theorem dX7_read_41 : decode cX7_read 41 = .ok (.bipush 6, 2) := by decide +kernel
theorem dX7_read_43 : decode cX7_read 43 = .ok (.invokevirtual 50, 3) := by decide +kernel
theorem dX7_read_46 : decode cX7_read 46 = .ok (.iastore, 1) := by decide +kernel
theorem dX7_read_47 : decode cX7_read 47 = .ok (.aload_n 0, 1) := by decide +kernel
theorem dX7_read_48 : decode cX7_read 48 = .ok (.getfield 18, 3) := by decide +kernel
theorem dX7_read_51 : decode cX7_read 51 = .ok (.iload_n 3, 1) := by decide +kernel
theorem dX7_read_52 : decode cX7_read 52 = .ok (.aload_n 1, 1) := by decide +kernel
theorem dX7_read_53 : decode cX7_read 53 = .ok (.iconst 0, 1) := by decide +kernel
theorem dX7_read_54 : decode cX7_read 54 = .ok (.ldc 54, 2) := by decide +kernel
theorem dX7_read_56 : decode cX7_read 56 = .ok (.invokevirtual 50, 3) := by decide +kernel
theorem dX7_read_59 : decode cX7_read 59 = .ok (.iastore, 1) := by decide +kernel
theorem dX7_read_60 : decode cX7_read 60 = .ok (.aload_n 0, 1) := by decide +kernel
theorem dX7_read_61 : decode cX7_read 61 = .ok (.getfield 21, 3) := by decide +kernel
theorem dX7_read_64 : decode cX7_read 64 = .ok (.iload_n 3, 1) := by decide +kernel
theorem dX7_read_65 : decode cX7_read 65 = .ok (.aload_n 1, 1) := by decide +kernel
theorem dX7_read_66 : decode cX7_read 66 = .ok (.iload_n 2, 1) := by decide +kernel
theorem dX7_read_67 : decode cX7_read 67 = .ok (.ldc 54, 2) := by decide +kernel
theorem dX7_read_69 : decode cX7_read 69 = .ok (.invokevirtual 55, 3) := by decide +kernel
theorem dX7_read_72 : decode cX7_read 72 = .ok (.iastore, 1) := by decide +kernel
theorem dX7_read_73 : decode cX7_read 73 = .ok (.aload_n 1, 1) := by decide +kernel
theorem dX7_read_74 : decode cX7_read 74 = .ok (.bipush 59, 2) := by decide +kernel
theorem dX7_read_76 : decode cX7_read 76 = .ok (.invokevirtual 58, 3) := by decide +kernel
theorem dX7_read_79 : decode cX7_read 79 = .ok (.aload_n 0, 1) := by decide +kernel
theorem dX7_read_80 : decode cX7_read 80 = .ok (.dup, 1) := by decide +kernel
theorem dX7_read_81 : decode cX7_read 81 = .ok (.getfield 24, 3) := by decide +kernel
theorem dX7_read_84 : decode cX7_read 84 = .ok (.iconst 1, 1) := by decide +kernel
theorem dX7_read_85 : decode cX7_read 85 = .ok (.iadd, 1) := by decide +kernel
theorem dX7_read_86 : decode cX7_read 86 = .ok (.putfield 24, 3) := by decide +kernel
theorem dX7_read_89 : decode cX7_read 89 = .ok (.iinc 3 1, 3) := by decide +kernel
theorem dX7_read_92 : decode cX7_read 92 = .ok (.goto (-85), 3) := by decide +kernel
theorem dX7_read_95 : decode cX7_read 95 = .ok (.aload_n 1, 1) := by decide +kernel
theorem dX7_read_96 : decode cX7_read 96 = .ok (.invokevirtual 44, 3) := by decide +kernel
theorem dX7_read_99 : decode cX7_read 99 = .ok (.ifCond .eq 11, 3) := by decide +kernel
theorem dX7_read_102 : decode cX7_read 102 = .ok (.aload_n 1, 1) := by decide +kernel
theorem dX7_read_103 : decode cX7_read 103 = .ok (.aload_n 1, 1) := by decide +kernel
theorem dX7_read_104 : decode cX7_read 104 = .ok (.getfield 62, 3) := by decide +kernel
theorem dX7_read_107 : decode cX7_read 107 = .ok (.invokevirtual 65, 3) := by decide +kernel
theorem dX7_read_110 : decode cX7_read 110 = .ok (.aload_n 0, 1) := by decide +kernel
theorem dX7_read_111 : decode cX7_read 111 = .ok (.getfield 24, 3) := by decide +kernel
theorem dX7_read_114 : decode cX7_read 114 = .ok (.ireturn, 1) := by decide +kernel
theorem dX8_init_0 : decode cX8_init 0 = .ok (.aload_n 0, 1) := by decide +kernel
theorem dX8_init_1 : decode cX8_init 1 = .ok (.invokespecial 3, 3) := by decide +kernel
theorem dX8_init_4 : decode cX8_init 4 = .ok (.aload_n 0, 1) := by decide +kernel
theorem dX8_init_5 : decode cX8_init 5 = .ok (.bipush 24, 2) := by decide +kernel
theorem dX8_init_7 : decode cX8_init 7 = .ok (.newarray .int, 2) := by decide +kernel
theorem dX8_init_9 : decode cX8_init 9 = .ok (.putfield 11, 3) := by decide +kernel
theorem dX8_init_12 : decode cX8_init 12 = .ok (.aload_n 0, 1) := by decide +kernel
theorem dX8_init_13 : decode cX8_init 13 = .ok (.bipush 24, 2) := by decide +kernel
theorem dX8_init_15 : decode cX8_init 15 = .ok (.newarray .int, 2) := by decide +kernel
theorem dX8_init_17 : decode cX8_init 17 = .ok (.putfield 15, 3) := by decide +kernel
theorem dX8_init_20 : decode cX8_init 20 = .ok (.aload_n 0, 1) := by decide +kernel
theorem dX8_init_21 : decode cX8_init 21 = .ok (.bipush 24, 2) := by decide +kernel
theorem dX8_init_23 : decode cX8_init 23 = .ok (.newarray .int, 2) := by decide +kernel
theorem dX8_init_25 : decode cX8_init 25 = .ok (.putfield 18, 3) := by decide +kernel
theorem dX8_init_28 : decode cX8_init 28 = .ok (.aload_n 0, 1) := by decide +kernel
theorem dX8_init_29 : decode cX8_init 29 = .ok (.bipush 24, 2) := by decide +kernel
theorem dX8_init_31 : decode cX8_init 31 = .ok (.newarray .boolean, 2) := by decide +kernel
theorem dX8_init_33 : decode cX8_init 33 = .ok (.putfield 21, 3) := by decide +kernel
theorem dX8_init_36 : decode cX8_init 36 = .ok (.aload_n 0, 1) := by decide +kernel
theorem dX8_init_37 : decode cX8_init 37 = .ok (.bipush 24, 2) := by decide +kernel
theorem dX8_init_39 : decode cX8_init 39 = .ok (.newarray .boolean, 2) := by decide +kernel
theorem dX8_init_41 : decode cX8_init 41 = .ok (.putfield 25, 3) := by decide +kernel
theorem dX8_init_44 : decode cX8_init 44 = .ok (.return_, 1) := by decide +kernel
theorem dX8_copyFrom_0 : decode cX8_copyFrom 0 = .ok (.aload_n 0, 1) := by decide +kernel
theorem dX8_copyFrom_1 : decode cX8_copyFrom 1 = .ok (.aload_n 1, 1) := by decide +kernel
theorem dX8_copyFrom_2 : decode cX8_copyFrom 2 = .ok (.getfield 28, 3) := by decide +kernel
theorem dX8_copyFrom_5 : decode cX8_copyFrom 5 = .ok (.putfield 28, 3) := by decide +kernel
theorem dX8_copyFrom_8 : decode cX8_copyFrom 8 = .ok (.aload_n 1, 1) := by decide +kernel
theorem dX8_copyFrom_9 : decode cX8_copyFrom 9 = .ok (.getfield 11, 3) := by decide +kernel
theorem dX8_copyFrom_12 : decode cX8_copyFrom 12 = .ok (.iconst 0, 1) := by decide +kernel
theorem dX8_copyFrom_13 : decode cX8_copyFrom 13 = .ok (.aload_n 0, 1) := by decide +kernel
theorem dX8_copyFrom_14 : decode cX8_copyFrom 14 = .ok (.getfield 11, 3) := by decide +kernel
theorem dX8_copyFrom_17 : decode cX8_copyFrom 17 = .ok (.iconst 0, 1) := by decide +kernel
theorem dX8_copyFrom_18 : decode cX8_copyFrom 18 = .ok (.bipush 24, 2) := by decide +kernel
theorem dX8_copyFrom_20 : decode cX8_copyFrom 20 = .ok (.invokestatic 32, 3) := by decide +kernel
theorem dX8_copyFrom_23 : decode cX8_copyFrom 23 = .ok (.aload_n 1, 1) := by decide +kernel
theorem dX8_copyFrom_24 : decode cX8_copyFrom 24 = .ok (.getfield 15, 3) := by decide +kernel
theorem dX8_copyFrom_27 : decode cX8_copyFrom 27 = .ok (.iconst 0, 1) := by decide +kernel
theorem dX8_copyFrom_28 : decode cX8_copyFrom 28 = .ok (.aload_n 0, 1) := by decide +kernel
theorem dX8_copyFrom_29 : decode cX8_copyFrom 29 = .ok (.getfield 15, 3) := by decide +kernel
theorem dX8_copyFrom_32 : decode cX8_copyFrom 32 = .ok (.iconst 0, 1) := by decide +kernel
theorem dX8_copyFrom_33 : decode cX8_copyFrom 33 = .ok (.bipush 24, 2) := by decide +kernel
theorem dX8_copyFrom_35 : decode cX8_copyFrom 35 = .ok (.invokestatic 32, 3) := by decide +kernel
theorem dX8_copyFrom_38 : decode cX8_copyFrom 38 = .ok (.aload_n 1, 1) := by decide +kernel
theorem dX8_copyFrom_39 : decode cX8_copyFrom 39 = .ok (.getfield 18, 3) := by decide +kernel
theorem dX8_copyFrom_42 : decode cX8_copyFrom 42 = .ok (.iconst 0, 1) := by decide +kernel
theorem dX8_copyFrom_43 : decode cX8_copyFrom 43 = .ok (.aload_n 0, 1) := by decide +kernel
theorem dX8_copyFrom_44 : decode cX8_copyFrom 44 = .ok (.getfield 18, 3) := by decide +kernel
theorem dX8_copyFrom_47 : decode cX8_copyFrom 47 = .ok (.iconst 0, 1) := by decide +kernel
theorem dX8_copyFrom_48 : decode cX8_copyFrom 48 = .ok (.bipush 24, 2) := by decide +kernel
theorem dX8_copyFrom_50 : decode cX8_copyFrom 50 = .ok (.invokestatic 32, 3) := by decide +kernel
theorem dX8_copyFrom_53 : decode cX8_copyFrom 53 = .ok (.aload_n 1, 1) := by decide +kernel
theorem dX8_copyFrom_54 : decode cX8_copyFrom 54 = .ok (.getfield 21, 3) := by decide +kernel
theorem dX8_copyFrom_57 : decode cX8_copyFrom 57 = .ok (.iconst 0, 1) := by decide +kernel
theorem dX8_copyFrom_58 : decode cX8_copyFrom 58 = .ok (.aload_n 0, 1) := by decide +kernel
theorem dX8_copyFrom_59 : decode cX8_copyFrom 59 = .ok (.getfield 21, 3) := by decide +kernel
theorem dX8_copyFrom_62 : decode cX8_copyFrom 62 = .ok (.iconst 0, 1) := by decide +kernel
theorem dX8_copyFrom_63 : decode cX8_copyFrom 63 = .ok (.bipush 24, 2) := by decide +kernel
theorem dX8_copyFrom_65 : decode cX8_copyFrom 65 = .ok (.invokestatic 32, 3) := by decide +kernel
theorem dX8_copyFrom_68 : decode cX8_copyFrom 68 = .ok (.aload_n 1, 1) := by decide +kernel
theorem dX8_copyFrom_69 : decode cX8_copyFrom 69 = .ok (.getfield 25, 3) := by decide +kernel
theorem dX8_copyFrom_72 : decode cX8_copyFrom 72 = .ok (.iconst 0, 1) := by decide +kernel
theorem dX8_copyFrom_73 : decode cX8_copyFrom 73 = .ok (.aload_n 0, 1) := by decide +kernel
theorem dX8_copyFrom_74 : decode cX8_copyFrom 74 = .ok (.getfield 25, 3) := by decide +kernel
theorem dX8_copyFrom_77 : decode cX8_copyFrom 77 = .ok (.iconst 0, 1) := by decide +kernel
theorem dX8_copyFrom_78 : decode cX8_copyFrom 78 = .ok (.bipush 24, 2) := by decide +kernel
theorem dX8_copyFrom_80 : decode cX8_copyFrom 80 = .ok (.invokestatic 32, 3) := by decide +kernel
theorem dX8_copyFrom_83 : decode cX8_copyFrom 83 = .ok (.return_, 1) := by decide +kernel
theorem dX8_has_0 : decode cX8_has 0 = .ok (.iload_n 1, 1) := by decide +kernel
theorem dX8_has_1 : decode cX8_has 1 = .ok (.ifCond .lt 15, 3) := by decide +kernel
theorem dX8_has_4 : decode cX8_has 4 = .ok (.iload_n 1, 1) := by decide +kernel
theorem dX8_has_5 : decode cX8_has 5 = .ok (.aload_n 0, 1) := by decide +kernel
theorem dX8_has_6 : decode cX8_has 6 = .ok (.getfield 28, 3) := by decide +kernel
theorem dX8_has_9 : decode cX8_has 9 = .ok (.if_icmp .ge 7, 3) := by decide +kernel
theorem dX8_has_12 : decode cX8_has 12 = .ok (.iconst 1, 1) := by decide +kernel
theorem dX8_has_13 : decode cX8_has 13 = .ok (.goto 4, 3) := by decide +kernel
theorem dX8_has_16 : decode cX8_has 16 = .ok (.iconst 0, 1) := by decide +kernel
theorem dX8_has_17 : decode cX8_has 17 = .ok (.ireturn, 1) := by decide +kernel
theorem dX8_isFull_0 : decode cX8_isFull 0 = .ok (.aload_n 0, 1) := by decide +kernel
theorem dX8_isFull_1 : decode cX8_isFull 1 = .ok (.getfield 28, 3) := by decide +kernel
theorem dX8_isFull_4 : decode cX8_isFull 4 = .ok (.bipush 24, 2) := by decide +kernel
theorem dX8_isFull_6 : decode cX8_isFull 6 = .ok (.if_icmp .lt 7, 3) := by decide +kernel
theorem dX8_isFull_9 : decode cX8_isFull 9 = .ok (.iconst 1, 1) := by decide +kernel
theorem dX8_isFull_10 : decode cX8_isFull 10 = .ok (.goto 4, 3) := by decide +kernel
theorem dX8_isFull_13 : decode cX8_isFull 13 = .ok (.iconst 0, 1) := by decide +kernel
theorem dX8_isFull_14 : decode cX8_isFull 14 = .ok (.ireturn, 1) := by decide +kernel
theorem dX8_add_0 : decode cX8_add 0 = .ok (.aload_n 0, 1) := by decide +kernel
theorem dX8_add_1 : decode cX8_add 1 = .ok (.invokevirtual 38, 3) := by decide +kernel
theorem dX8_add_4 : decode cX8_add 4 = .ok (.ifCond .eq 5, 3) := by decide +kernel
theorem dX8_add_7 : decode cX8_add 7 = .ok (.iconst (-1), 1) := by decide +kernel
theorem dX8_add_8 : decode cX8_add 8 = .ok (.ireturn, 1) := by decide +kernel
theorem dX8_add_9 : decode cX8_add 9 = .ok (.aload_n 0, 1) := by decide +kernel
theorem dX8_add_10 : decode cX8_add 10 = .ok (.getfield 11, 3) := by decide +kernel
theorem dX8_add_13 : decode cX8_add 13 = .ok (.aload_n 0, 1) := by decide +kernel
theorem dX8_add_14 : decode cX8_add 14 = .ok (.getfield 28, 3) := by decide +kernel
theorem dX8_add_17 : decode cX8_add 17 = .ok (.iload_n 1, 1) := by decide +kernel
theorem dX8_add_18 : decode cX8_add 18 = .ok (.iastore, 1) := by decide +kernel
theorem dX8_add_19 : decode cX8_add 19 = .ok (.aload_n 0, 1) := by decide +kernel
theorem dX8_add_20 : decode cX8_add 20 = .ok (.getfield 15, 3) := by decide +kernel
theorem dX8_add_23 : decode cX8_add 23 = .ok (.aload_n 0, 1) := by decide +kernel
theorem dX8_add_24 : decode cX8_add 24 = .ok (.getfield 28, 3) := by decide +kernel
theorem dX8_add_27 : decode cX8_add 27 = .ok (.iload_n 2, 1) := by decide +kernel
theorem dX8_add_28 : decode cX8_add 28 = .ok (.iastore, 1) := by decide +kernel
theorem dX8_add_29 : decode cX8_add 29 = .ok (.aload_n 0, 1) := by decide +kernel
theorem dX8_add_30 : decode cX8_add 30 = .ok (.getfield 18, 3) := by decide +kernel
theorem dX8_add_33 : decode cX8_add 33 = .ok (.aload_n 0, 1) := by decide +kernel
theorem dX8_add_34 : decode cX8_add 34 = .ok (.getfield 28, 3) := by decide +kernel
theorem dX8_add_37 : decode cX8_add 37 = .ok (.iload_n 3, 1) := by decide +kernel
theorem dX8_add_38 : decode cX8_add 38 = .ok (.iastore, 1) := by decide +kernel
theorem dX8_add_39 : decode cX8_add 39 = .ok (.aload_n 0, 1) := by decide +kernel
theorem dX8_add_40 : decode cX8_add 40 = .ok (.getfield 21, 3) := by decide +kernel
theorem dX8_add_43 : decode cX8_add 43 = .ok (.aload_n 0, 1) := by decide +kernel
theorem dX8_add_44 : decode cX8_add 44 = .ok (.getfield 28, 3) := by decide +kernel
theorem dX8_add_47 : decode cX8_add 47 = .ok (.iload 4, 2) := by decide +kernel
theorem dX8_add_49 : decode cX8_add 49 = .ok (.bastore, 1) := by decide +kernel
theorem dX8_add_50 : decode cX8_add 50 = .ok (.aload_n 0, 1) := by decide +kernel
theorem dX8_add_51 : decode cX8_add 51 = .ok (.getfield 25, 3) := by decide +kernel
theorem dX8_add_54 : decode cX8_add 54 = .ok (.aload_n 0, 1) := by decide +kernel
theorem dX8_add_55 : decode cX8_add 55 = .ok (.getfield 28, 3) := by decide +kernel
theorem dX8_add_58 : decode cX8_add 58 = .ok (.iconst 0, 1) := by decide +kernel
theorem dX8_add_59 : decode cX8_add 59 = .ok (.bastore, 1) := by decide +kernel
theorem dX8_add_60 : decode cX8_add 60 = .ok (.aload_n 0, 1) := by decide +kernel
theorem dX8_add_61 : decode cX8_add 61 = .ok (.dup, 1) := by decide +kernel
theorem dX8_add_62 : decode cX8_add 62 = .ok (.getfield 28, 3) := by decide +kernel
theorem dX8_add_65 : decode cX8_add 65 = .ok (.iconst 1, 1) := by decide +kernel
theorem dX8_add_66 : decode cX8_add 66 = .ok (.iadd, 1) := by decide +kernel
theorem dX8_add_67 : decode cX8_add 67 = .ok (.putfield 28, 3) := by decide +kernel
theorem dX8_add_70 : decode cX8_add 70 = .ok (.aload_n 0, 1) := by decide +kernel
theorem dX8_add_71 : decode cX8_add 71 = .ok (.getfield 28, 3) := by decide +kernel
theorem dX8_add_74 : decode cX8_add 74 = .ok (.iconst 1, 1) := by decide +kernel
theorem dX8_add_75 : decode cX8_add 75 = .ok (.isub, 1) := by decide +kernel
theorem dX8_add_76 : decode cX8_add 76 = .ok (.ireturn, 1) := by decide +kernel
theorem dX8_likelyOf_0 : decode cX8_likelyOf 0 = .ok (.iconst 0, 1) := by decide +kernel
theorem dX8_likelyOf_1 : decode cX8_likelyOf 1 = .ok (.istore_n 3, 1) := by decide +kernel
theorem dX8_likelyOf_2 : decode cX8_likelyOf 2 = .ok (.iconst 0, 1) := by decide +kernel
theorem dX8_likelyOf_3 : decode cX8_likelyOf 3 = .ok (.istore 4, 2) := by decide +kernel
theorem dX8_likelyOf_5 : decode cX8_likelyOf 5 = .ok (.iload 4, 2) := by decide +kernel
theorem dX8_likelyOf_7 : decode cX8_likelyOf 7 = .ok (.aload_n 0, 1) := by decide +kernel
theorem dX8_likelyOf_8 : decode cX8_likelyOf 8 = .ok (.getfield 28, 3) := by decide +kernel
theorem dX8_likelyOf_11 : decode cX8_likelyOf 11 = .ok (.if_icmp .ge 51, 3) := by decide +kernel
theorem dX8_likelyOf_14 : decode cX8_likelyOf 14 = .ok (.aload_n 0, 1) := by decide +kernel
theorem dX8_likelyOf_15 : decode cX8_likelyOf 15 = .ok (.getfield 21, 3) := by decide +kernel
theorem dX8_likelyOf_18 : decode cX8_likelyOf 18 = .ok (.iload 4, 2) := by decide +kernel
theorem dX8_likelyOf_20 : decode cX8_likelyOf 20 = .ok (.baload, 1) := by decide +kernel
theorem dX8_likelyOf_21 : decode cX8_likelyOf 21 = .ok (.ifCond .eq 35, 3) := by decide +kernel
theorem dX8_likelyOf_24 : decode cX8_likelyOf 24 = .ok (.aload_n 0, 1) := by decide +kernel
theorem dX8_likelyOf_25 : decode cX8_likelyOf 25 = .ok (.getfield 11, 3) := by decide +kernel
theorem dX8_likelyOf_28 : decode cX8_likelyOf 28 = .ok (.iload 4, 2) := by decide +kernel
theorem dX8_likelyOf_30 : decode cX8_likelyOf 30 = .ok (.iaload, 1) := by decide +kernel
theorem dX8_likelyOf_31 : decode cX8_likelyOf 31 = .ok (.iload_n 1, 1) := by decide +kernel
theorem dX8_likelyOf_32 : decode cX8_likelyOf 32 = .ok (.if_icmp .ne 24, 3) := by decide +kernel
theorem dX8_likelyOf_35 : decode cX8_likelyOf 35 = .ok (.aload_n 0, 1) := by decide +kernel
theorem dX8_likelyOf_36 : decode cX8_likelyOf 36 = .ok (.getfield 15, 3) := by decide +kernel
theorem dX8_likelyOf_39 : decode cX8_likelyOf 39 = .ok (.iload 4, 2) := by decide +kernel
theorem dX8_likelyOf_41 : decode cX8_likelyOf 41 = .ok (.iaload, 1) := by decide +kernel
theorem dX8_likelyOf_42 : decode cX8_likelyOf 42 = .ok (.iload_n 2, 1) := by decide +kernel
theorem dX8_likelyOf_43 : decode cX8_likelyOf 43 = .ok (.if_icmp .ne 13, 3) := by decide +kernel
theorem dX8_likelyOf_46 : decode cX8_likelyOf 46 = .ok (.iload_n 3, 1) := by decide +kernel
theorem dX8_likelyOf_47 : decode cX8_likelyOf 47 = .ok (.aload_n 0, 1) := by decide +kernel
theorem dX8_likelyOf_48 : decode cX8_likelyOf 48 = .ok (.getfield 18, 3) := by decide +kernel
theorem dX8_likelyOf_51 : decode cX8_likelyOf 51 = .ok (.iload 4, 2) := by decide +kernel
theorem dX8_likelyOf_53 : decode cX8_likelyOf 53 = .ok (.iaload, 1) := by decide +kernel
theorem dX8_likelyOf_54 : decode cX8_likelyOf 54 = .ok (.iadd, 1) := by decide +kernel
theorem dX8_likelyOf_55 : decode cX8_likelyOf 55 = .ok (.istore_n 3, 1) := by decide +kernel
theorem dX8_likelyOf_56 : decode cX8_likelyOf 56 = .ok (.iinc 4 1, 3) := by decide +kernel
theorem dX8_likelyOf_59 : decode cX8_likelyOf 59 = .ok (.goto (-54), 3) := by decide +kernel
theorem dX8_likelyOf_62 : decode cX8_likelyOf 62 = .ok (.iload_n 3, 1) := by decide +kernel
theorem dX8_likelyOf_63 : decode cX8_likelyOf 63 = .ok (.ireturn, 1) := by decide +kernel
theorem dX8_settled_0 : decode cX8_settled 0 = .ok (.aload_n 0, 1) := by decide +kernel
theorem dX8_settled_1 : decode cX8_settled 1 = .ok (.getfield 21, 3) := by decide +kernel
theorem dX8_settled_4 : decode cX8_settled 4 = .ok (.iload_n 1, 1) := by decide +kernel
theorem dX8_settled_5 : decode cX8_settled 5 = .ok (.baload, 1) := by decide +kernel
theorem dX8_settled_6 : decode cX8_settled 6 = .ok (.aload_n 0, 1) := by decide +kernel
theorem dX8_settled_7 : decode cX8_settled 7 = .ok (.getfield 25, 3) := by decide +kernel
theorem dX8_settled_10 : decode cX8_settled 10 = .ok (.iload_n 1, 1) := by decide +kernel
theorem dX8_settled_11 : decode cX8_settled 11 = .ok (.baload, 1) := by decide +kernel
theorem dX8_settled_12 : decode cX8_settled 12 = .ok (.if_icmp .ne 5, 3) := by decide +kernel
theorem dX8_settled_15 : decode cX8_settled 15 = .ok (.iconst 0, 1) := by decide +kernel
theorem dX8_settled_16 : decode cX8_settled 16 = .ok (.ireturn, 1) := by decide +kernel
theorem dX8_settled_17 : decode cX8_settled 17 = .ok (.aload_n 0, 1) := by decide +kernel
theorem dX8_settled_18 : decode cX8_settled 18 = .ok (.getfield 21, 3) := by decide +kernel
theorem dX8_settled_21 : decode cX8_settled 21 = .ok (.iload_n 1, 1) := by decide +kernel
theorem dX8_settled_22 : decode cX8_settled 22 = .ok (.baload, 1) := by decide +kernel
theorem dX8_settled_23 : decode cX8_settled 23 = .ok (.ifCond .eq 12, 3) := by decide +kernel
theorem dX8_settled_26 : decode cX8_settled 26 = .ok (.aload_n 0, 1) := by decide +kernel
theorem dX8_settled_27 : decode cX8_settled 27 = .ok (.getfield 18, 3) := by decide +kernel
theorem dX8_settled_30 : decode cX8_settled 30 = .ok (.iload_n 1, 1) := by decide +kernel
theorem dX8_settled_31 : decode cX8_settled 31 = .ok (.iaload, 1) := by decide +kernel
theorem dX8_settled_32 : decode cX8_settled 32 = .ok (.goto 10, 3) := by decide +kernel
theorem dX8_settled_35 : decode cX8_settled 35 = .ok (.aload_n 0, 1) := by decide +kernel
theorem dX8_settled_36 : decode cX8_settled 36 = .ok (.getfield 18, 3) := by decide +kernel
theorem dX8_settled_39 : decode cX8_settled 39 = .ok (.iload_n 1, 1) := by decide +kernel
theorem dX8_settled_40 : decode cX8_settled 40 = .ok (.iaload, 1) := by decide +kernel
theorem dX8_settled_41 : decode cX8_settled 41 = .ok (.ineg, 1) := by decide +kernel
theorem dX8_settled_42 : decode cX8_settled 42 = .ok (.ireturn, 1) := by decide +kernel
theorem dX9_init_0 : decode cX9_init 0 = .ok (.aload_n 0, 1) := by decide +kernel
theorem dX9_init_1 : decode cX9_init 1 = .ok (.invokespecial 3, 3) := by decide +kernel
theorem dX9_init_4 : decode cX9_init 4 = .ok (.aload_n 0, 1) := by decide +kernel
theorem dX9_init_5 : decode cX9_init 5 = .ok (.new 9, 3) := by decide +kernel
theorem dX9_init_8 : decode cX9_init 8 = .ok (.dup, 1) := by decide +kernel
theorem dX9_init_9 : decode cX9_init 9 = .ok (.sipush 500, 3) := by decide +kernel
theorem dX9_init_12 : decode cX9_init 12 = .ok (.invokespecial 11, 3) := by decide +kernel
theorem dX9_init_15 : decode cX9_init 15 = .ok (.putfield 14, 3) := by decide +kernel
theorem dX9_init_18 : decode cX9_init 18 = .ok (.aload_n 0, 1) := by decide +kernel
theorem dX9_init_19 : decode cX9_init 19 = .ok (.iconst (-1), 1) := by decide +kernel
theorem dX9_init_20 : decode cX9_init 20 = .ok (.putfield 20, 3) := by decide +kernel
theorem dX9_init_23 : decode cX9_init 23 = .ok (.return_, 1) := by decide +kernel
theorem dX9_begin_0 : decode cX9_begin 0 = .ok (.aload_n 0, 1) := by decide +kernel
theorem dX9_begin_1 : decode cX9_begin 1 = .ok (.iconst 0, 1) := by decide +kernel
theorem dX9_begin_2 : decode cX9_begin 2 = .ok (.putfield 24, 3) := by decide +kernel
theorem dX9_begin_5 : decode cX9_begin 5 = .ok (.aload_n 0, 1) := by decide +kernel
theorem dX9_begin_6 : decode cX9_begin 6 = .ok (.iconst (-1), 1) := by decide +kernel
theorem dX9_begin_7 : decode cX9_begin 7 = .ok (.putfield 20, 3) := by decide +kernel
theorem dX9_begin_10 : decode cX9_begin 10 = .ok (.return_, 1) := by decide +kernel
theorem dX9_finish_0 : decode cX9_finish 0 = .ok (.aload_n 0, 1) := by decide +kernel
theorem dX9_finish_1 : decode cX9_finish 1 = .ok (.getfield 14, 3) := by decide +kernel
theorem dX9_finish_4 : decode cX9_finish 4 = .ok (.iconst 0, 1) := by decide +kernel
theorem dX9_finish_5 : decode cX9_finish 5 = .ok (.putfield 27, 3) := by decide +kernel
theorem dX9_finish_8 : decode cX9_finish 8 = .ok (.aload_n 0, 1) := by decide +kernel
theorem dX9_finish_9 : decode cX9_finish 9 = .ok (.getfield 20, 3) := by decide +kernel
theorem dX9_finish_12 : decode cX9_finish 12 = .ok (.ireturn, 1) := by decide +kernel
theorem dX9_hasMore_0 : decode cX9_hasMore 0 = .ok (.aload_n 0, 1) := by decide +kernel
theorem dX9_hasMore_1 : decode cX9_hasMore 1 = .ok (.getfield 20, 3) := by decide +kernel
theorem dX9_hasMore_4 : decode cX9_hasMore 4 = .ok (.iconst (-1), 1) := by decide +kernel
theorem dX9_hasMore_5 : decode cX9_hasMore 5 = .ok (.if_icmp .ne 21, 3) := by decide +kernel
theorem dX9_hasMore_8 : decode cX9_hasMore 8 = .ok (.aload_n 0, 1) := by decide +kernel
theorem dX9_hasMore_9 : decode cX9_hasMore 9 = .ok (.getfield 24, 3) := by decide +kernel
theorem dX9_hasMore_12 : decode cX9_hasMore 12 = .ok (.aload_n 0, 1) := by decide +kernel
theorem dX9_hasMore_13 : decode cX9_hasMore 13 = .ok (.getfield 14, 3) := by decide +kernel
theorem dX9_hasMore_16 : decode cX9_hasMore 16 = .ok (.getfield 27, 3) := by decide +kernel
theorem dX9_hasMore_19 : decode cX9_hasMore 19 = .ok (.if_icmp .ge 7, 3) := by decide +kernel
theorem dX9_hasMore_22 : decode cX9_hasMore 22 = .ok (.iconst 1, 1) := by decide +kernel
theorem dX9_hasMore_23 : decode cX9_hasMore 23 = .ok (.goto 4, 3) := by decide +kernel
theorem dX9_hasMore_26 : decode cX9_hasMore 26 = .ok (.iconst 0, 1) := by decide +kernel
theorem dX9_hasMore_27 : decode cX9_hasMore 27 = .ok (.ireturn, 1) := by decide +kernel
theorem dX9_peek_0 : decode cX9_peek 0 = .ok (.aload_n 0, 1) := by decide +kernel
theorem dX9_peek_1 : decode cX9_peek 1 = .ok (.getfield 14, 3) := by decide +kernel
theorem dX9_peek_4 : decode cX9_peek 4 = .ok (.aload_n 0, 1) := by decide +kernel
theorem dX9_peek_5 : decode cX9_peek 5 = .ok (.getfield 24, 3) := by decide +kernel
theorem dX9_peek_8 : decode cX9_peek 8 = .ok (.invokevirtual 30, 3) := by decide +kernel
theorem dX9_peek_11 : decode cX9_peek 11 = .ok (.ireturn, 1) := by decide +kernel
theorem dX9_isDigit_0 : decode cX9_isDigit 0 = .ok (.iload_n 0, 1) := by decide +kernel
theorem dX9_isDigit_1 : decode cX9_isDigit 1 = .ok (.bipush 48, 2) := by decide +kernel
theorem dX9_isDigit_3 : decode cX9_isDigit 3 = .ok (.if_icmp .lt 13, 3) := by decide +kernel
theorem dX9_isDigit_6 : decode cX9_isDigit 6 = .ok (.iload_n 0, 1) := by decide +kernel
theorem dX9_isDigit_7 : decode cX9_isDigit 7 = .ok (.bipush 57, 2) := by decide +kernel
theorem dX9_isDigit_9 : decode cX9_isDigit 9 = .ok (.if_icmp .gt 7, 3) := by decide +kernel
theorem dX9_isDigit_12 : decode cX9_isDigit 12 = .ok (.iconst 1, 1) := by decide +kernel
theorem dX9_isDigit_13 : decode cX9_isDigit 13 = .ok (.goto 4, 3) := by decide +kernel
theorem dX9_isDigit_16 : decode cX9_isDigit 16 = .ok (.iconst 0, 1) := by decide +kernel
theorem dX9_isDigit_17 : decode cX9_isDigit 17 = .ok (.ireturn, 1) := by decide +kernel
theorem dX9_fail_0 : decode cX9_fail 0 = .ok (.aload_n 0, 1) := by decide +kernel
theorem dX9_fail_1 : decode cX9_fail 1 = .ok (.getfield 20, 3) := by decide +kernel
theorem dX9_fail_4 : decode cX9_fail 4 = .ok (.iconst (-1), 1) := by decide +kernel
theorem dX9_fail_5 : decode cX9_fail 5 = .ok (.if_icmp .ne 8, 3) := by decide +kernel
theorem dX9_fail_8 : decode cX9_fail 8 = .ok (.aload_n 0, 1) := by decide +kernel
theorem dX9_fail_9 : decode cX9_fail 9 = .ok (.iload_n 1, 1) := by decide +kernel
theorem dX9_fail_10 : decode cX9_fail 10 = .ok (.putfield 20, 3) := by decide +kernel
theorem dX9_fail_13 : decode cX9_fail 13 = .ok (.return_, 1) := by decide +kernel
theorem dX9_skip_0 : decode cX9_skip 0 = .ok (.aload_n 0, 1) := by decide +kernel
theorem dX9_skip_1 : decode cX9_skip 1 = .ok (.getfield 20, 3) := by decide +kernel
theorem dX9_skip_4 : decode cX9_skip 4 = .ok (.iconst (-1), 1) := by decide +kernel
theorem dX9_skip_5 : decode cX9_skip 5 = .ok (.if_icmp .ne 13, 3) := by decide +kernel
theorem dX9_skip_8 : decode cX9_skip 8 = .ok (.aload_n 0, 1) := by decide +kernel
theorem dX9_skip_9 : decode cX9_skip 9 = .ok (.dup, 1) := by decide +kernel
theorem dX9_skip_10 : decode cX9_skip 10 = .ok (.getfield 24, 3) := by decide +kernel
theorem dX9_skip_13 : decode cX9_skip 13 = .ok (.iconst 1, 1) := by decide +kernel
theorem dX9_skip_14 : decode cX9_skip 14 = .ok (.iadd, 1) := by decide +kernel
theorem dX9_skip_15 : decode cX9_skip 15 = .ok (.putfield 24, 3) := by decide +kernel
theorem dX9_skip_18 : decode cX9_skip 18 = .ok (.return_, 1) := by decide +kernel
theorem dX9_expect_0 : decode cX9_expect 0 = .ok (.aload_n 0, 1) := by decide +kernel
theorem dX9_expect_1 : decode cX9_expect 1 = .ok (.getfield 20, 3) := by decide +kernel
theorem dX9_expect_4 : decode cX9_expect 4 = .ok (.iconst (-1), 1) := by decide +kernel
theorem dX9_expect_5 : decode cX9_expect 5 = .ok (.if_icmp .eq 4, 3) := by decide +kernel
theorem dX9_expect_8 : decode cX9_expect 8 = .ok (.return_, 1) := by decide +kernel
theorem dX9_expect_9 : decode cX9_expect 9 = .ok (.aload_n 0, 1) := by decide +kernel
theorem dX9_expect_10 : decode cX9_expect 10 = .ok (.getfield 14, 3) := by decide +kernel
theorem dX9_expect_13 : decode cX9_expect 13 = .ok (.aload_n 0, 1) := by decide +kernel
theorem dX9_expect_14 : decode cX9_expect 14 = .ok (.getfield 24, 3) := by decide +kernel
theorem dX9_expect_17 : decode cX9_expect 17 = .ok (.invokevirtual 30, 3) := by decide +kernel
theorem dX9_expect_20 : decode cX9_expect 20 = .ok (.iload_n 1, 1) := by decide +kernel
theorem dX9_expect_21 : decode cX9_expect 21 = .ok (.if_icmp .ne 16, 3) := by decide +kernel
theorem dX9_expect_24 : decode cX9_expect 24 = .ok (.aload_n 0, 1) := by decide +kernel
theorem dX9_expect_25 : decode cX9_expect 25 = .ok (.dup, 1) := by decide +kernel
theorem dX9_expect_26 : decode cX9_expect 26 = .ok (.getfield 24, 3) := by decide +kernel
theorem dX9_expect_29 : decode cX9_expect 29 = .ok (.iconst 1, 1) := by decide +kernel
theorem dX9_expect_30 : decode cX9_expect 30 = .ok (.iadd, 1) := by decide +kernel
theorem dX9_expect_31 : decode cX9_expect 31 = .ok (.putfield 24, 3) := by decide +kernel
theorem dX9_expect_34 : decode cX9_expect 34 = .ok (.goto 11, 3) := by decide +kernel
theorem dX9_expect_37 : decode cX9_expect 37 = .ok (.aload_n 0, 1) := by decide +kernel
theorem dX9_expect_38 : decode cX9_expect 38 = .ok (.aload_n 0, 1) := by decide +kernel
theorem dX9_expect_39 : decode cX9_expect 39 = .ok (.getfield 24, 3) := by decide +kernel
theorem dX9_expect_42 : decode cX9_expect 42 = .ok (.putfield 20, 3) := by decide +kernel
theorem dX9_expect_45 : decode cX9_expect 45 = .ok (.return_, 1) := by decide +kernel
theorem dX9_number_0 : decode cX9_number 0 = .ok (.aload_n 0, 1) := by decide +kernel
theorem dX9_number_1 : decode cX9_number 1 = .ok (.getfield 20, 3) := by decide +kernel
theorem dX9_number_4 : decode cX9_number 4 = .ok (.iconst (-1), 1) := by decide +kernel
theorem dX9_number_5 : decode cX9_number 5 = .ok (.if_icmp .eq 5, 3) := by decide +kernel
theorem dX9_number_8 : decode cX9_number 8 = .ok (.iconst 0, 1) := by decide +kernel
theorem dX9_number_9 : decode cX9_number 9 = .ok (.ireturn, 1) := by decide +kernel
theorem dX9_number_10 : decode cX9_number 10 = .ok (.aload_n 0, 1) := by decide +kernel
theorem dX9_number_11 : decode cX9_number 11 = .ok (.getfield 24, 3) := by decide +kernel
theorem dX9_number_14 : decode cX9_number 14 = .ok (.istore_n 3, 1) := by decide +kernel
theorem dX9_number_15 : decode cX9_number 15 = .ok (.iconst 0, 1) := by decide +kernel
theorem dX9_number_16 : decode cX9_number 16 = .ok (.istore 4, 2) := by decide +kernel
theorem dX9_number_18 : decode cX9_number 18 = .ok (.iconst 0, 1) := by decide +kernel
theorem dX9_number_19 : decode cX9_number 19 = .ok (.istore 5, 2) := by decide +kernel
theorem dX9_number_21 : decode cX9_number 21 = .ok (.iload 5, 2) := by decide +kernel
theorem dX9_number_23 : decode cX9_number 23 = .ok (.bipush 6, 2) := by decide +kernel
theorem dX9_number_25 : decode cX9_number 25 = .ok (.if_icmp .ge 44, 3) := by decide +kernel
theorem dX9_number_28 : decode cX9_number 28 = .ok (.aload_n 0, 1) := by decide +kernel
theorem dX9_number_29 : decode cX9_number 29 = .ok (.invokevirtual 33, 3) := by decide +kernel
theorem dX9_number_32 : decode cX9_number 32 = .ok (.invokestatic 37, 3) := by decide +kernel
theorem dX9_number_35 : decode cX9_number 35 = .ok (.ifCond .eq 34, 3) := by decide +kernel
theorem dX9_number_38 : decode cX9_number 38 = .ok (.iload 4, 2) := by decide +kernel
theorem dX9_number_40 : decode cX9_number 40 = .ok (.bipush 10, 2) := by decide +kernel
theorem dX9_number_42 : decode cX9_number 42 = .ok (.imul, 1) := by decide +kernel
theorem dX9_number_43 : decode cX9_number 43 = .ok (.aload_n 0, 1) := by decide +kernel
theorem dX9_number_44 : decode cX9_number 44 = .ok (.invokevirtual 33, 3) := by decide +kernel
theorem dX9_number_47 : decode cX9_number 47 = .ok (.iadd, 1) := by decide +kernel
theorem dX9_number_48 : decode cX9_number 48 = .ok (.bipush 48, 2) := by decide +kernel
theorem dX9_number_50 : decode cX9_number 50 = .ok (.isub, 1) := by decide +kernel
theorem dX9_number_51 : decode cX9_number 51 = .ok (.istore 4, 2) := by decide +kernel
theorem dX9_number_53 : decode cX9_number 53 = .ok (.aload_n 0, 1) := by decide +kernel
theorem dX9_number_54 : decode cX9_number 54 = .ok (.dup, 1) := by decide +kernel
theorem dX9_number_55 : decode cX9_number 55 = .ok (.getfield 24, 3) := by decide +kernel
theorem dX9_number_58 : decode cX9_number 58 = .ok (.iconst 1, 1) := by decide +kernel
theorem dX9_number_59 : decode cX9_number 59 = .ok (.iadd, 1) := by decide +kernel
theorem dX9_number_60 : decode cX9_number 60 = .ok (.putfield 24, 3) := by decide +kernel
theorem dX9_number_63 : decode cX9_number 63 = .ok (.iinc 5 1, 3) := by decide +kernel
theorem dX9_number_66 : decode cX9_number 66 = .ok (.goto (-45), 3) := by decide +kernel
theorem dX9_number_69 : decode cX9_number 69 = .ok (.aload_n 0, 1) := by decide +kernel
theorem dX9_number_70 : decode cX9_number 70 = .ok (.getfield 24, 3) := by decide +kernel
theorem dX9_number_73 : decode cX9_number 73 = .ok (.iload_n 3, 1) := by decide +kernel
theorem dX9_number_74 : decode cX9_number 74 = .ok (.if_icmp .eq 13, 3) := by decide +kernel
theorem dX9_number_77 : decode cX9_number 77 = .ok (.aload_n 0, 1) := by decide +kernel
theorem dX9_number_78 : decode cX9_number 78 = .ok (.invokevirtual 33, 3) := by decide +kernel
theorem dX9_number_81 : decode cX9_number 81 = .ok (.invokestatic 37, 3) := by decide +kernel
theorem dX9_number_84 : decode cX9_number 84 = .ok (.ifCond .eq 13, 3) := by decide +kernel
theorem dX9_number_87 : decode cX9_number 87 = .ok (.aload_n 0, 1) := by decide +kernel
theorem dX9_number_88 : decode cX9_number 88 = .ok (.aload_n 0, 1) := by decide +kernel
theorem dX9_number_89 : decode cX9_number 89 = .ok (.getfield 24, 3) := by decide +kernel
theorem dX9_number_92 : decode cX9_number 92 = .ok (.invokevirtual 41, 3) := by decide +kernel
theorem dX9_number_95 : decode cX9_number 95 = .ok (.iconst 0, 1) := by decide +kernel
theorem dX9_number_96 : decode cX9_number 96 = .ok (.ireturn, 1) := by decide +kernel
theorem dX9_number_97 : decode cX9_number 97 = .ok (.iload 4, 2) := by decide +kernel
theorem dX9_number_99 : decode cX9_number 99 = .ok (.iload_n 1, 1) := by decide +kernel
theorem dX9_number_100 : decode cX9_number 100 = .ok (.if_icmp .lt 9, 3) := by decide +kernel
theorem dX9_number_103 : decode cX9_number 103 = .ok (.iload 4, 2) := by decide +kernel
theorem dX9_number_105 : decode cX9_number 105 = .ok (.iload_n 2, 1) := by decide +kernel
theorem dX9_number_106 : decode cX9_number 106 = .ok (.if_icmp .le 10, 3) := by decide +kernel
theorem dX9_number_109 : decode cX9_number 109 = .ok (.aload_n 0, 1) := by decide +kernel
theorem dX9_number_110 : decode cX9_number 110 = .ok (.iload_n 3, 1) := by decide +kernel
theorem dX9_number_111 : decode cX9_number 111 = .ok (.invokevirtual 41, 3) := by decide +kernel
theorem dX9_number_114 : decode cX9_number 114 = .ok (.iconst 0, 1) := by decide +kernel
theorem dX9_number_115 : decode cX9_number 115 = .ok (.ireturn, 1) := by decide +kernel
theorem dX9_number_116 : decode cX9_number 116 = .ok (.iload 4, 2) := by decide +kernel
theorem dX9_number_118 : decode cX9_number 118 = .ok (.ireturn, 1) := by decide +kernel
theorem dX9_numberAndComma_0 : decode cX9_numberAndComma 0 = .ok (.aload_n 0, 1) := by decide +kernel
theorem dX9_numberAndComma_1 : decode cX9_numberAndComma 1 = .ok (.iload_n 1, 1) := by decide +kernel
theorem dX9_numberAndComma_2 : decode cX9_numberAndComma 2 = .ok (.iload_n 2, 1) := by decide +kernel
theorem dX9_numberAndComma_3 : decode cX9_numberAndComma 3 = .ok (.invokevirtual 44, 3) := by decide +kernel
theorem dX9_numberAndComma_6 : decode cX9_numberAndComma 6 = .ok (.istore_n 3, 1) := by decide +kernel
theorem dX9_numberAndComma_7 : decode cX9_numberAndComma 7 = .ok (.aload_n 0, 1) := by decide +kernel
theorem dX9_numberAndComma_8 : decode cX9_numberAndComma 8 = .ok (.bipush 44, 2) := by decide +kernel
theorem dX9_numberAndComma_10 : decode cX9_numberAndComma 10 = .ok (.invokevirtual 48, 3) := by decide +kernel
theorem dX9_numberAndComma_13 : decode cX9_numberAndComma 13 = .ok (.iload_n 3, 1) := by decide +kernel
theorem dX9_numberAndComma_14 : decode cX9_numberAndComma 14 = .ok (.ireturn, 1) := by decide +kernel
theorem dX9_readItems_0 : decode cX9_readItems 0 = .ok (.iconst 0, 1) := by decide +kernel
theorem dX9_readItems_1 : decode cX9_readItems 1 = .ok (.istore_n 2, 1) := by decide +kernel
theorem dX9_readItems_2 : decode cX9_readItems 2 = .ok (.iconst 0, 1) := by decide +kernel
theorem dX9_readItems_3 : decode cX9_readItems 3 = .ok (.istore_n 3, 1) := by decide +kernel
theorem dX9_readItems_4 : decode cX9_readItems 4 = .ok (.iload_n 3, 1) := by decide +kernel
theorem dX9_readItems_5 : decode cX9_readItems 5 = .ok (.sipush 500, 3) := by decide +kernel
theorem dX9_readItems_8 : decode cX9_readItems 8 = .ok (.if_icmp .ge 30, 3) := by decide +kernel
theorem dX9_readItems_11 : decode cX9_readItems 11 = .ok (.aload_n 0, 1) := by decide +kernel
theorem dX9_readItems_12 : decode cX9_readItems 12 = .ok (.invokevirtual 51, 3) := by decide +kernel
theorem dX9_readItems_15 : decode cX9_readItems 15 = .ok (.ifCond .eq 23, 3) := by decide +kernel
theorem dX9_readItems_18 : decode cX9_readItems 18 = .ok (.aload_n 0, 1) := by decide +kernel
theorem dX9_readItems_19 : decode cX9_readItems 19 = .ok (.aload_n 1, 1) := by decide +kernel
theorem dX9_readItems_20 : decode cX9_readItems 20 = .ok (.invokevirtual 55, 3) := by decide +kernel
theorem dX9_readItems_23 : decode cX9_readItems 23 = .ok (.aload_n 0, 1) := by decide +kernel
theorem dX9_readItems_24 : decode cX9_readItems 24 = .ok (.bipush 59, 2) := by decide +kernel
theorem dX9_readItems_26 : decode cX9_readItems 26 = .ok (.invokevirtual 48, 3) := by decide +kernel
theorem dX9_readItems_29 : decode cX9_readItems 29 = .ok (.iinc 2 1, 3) := by decide +kernel
theorem dX9_readItems_32 : decode cX9_readItems 32 = .ok (.iinc 3 1, 3) := by decide +kernel
theorem dX9_readItems_35 : decode cX9_readItems 35 = .ok (.goto (-31), 3) := by decide +kernel
theorem dX9_readItems_38 : decode cX9_readItems 38 = .ok (.iload_n 2, 1) := by decide +kernel
theorem dX9_readItems_39 : decode cX9_readItems 39 = .ok (.ireturn, 1) := by decide +kernel
theorem dX9_readItem_0 : decode cX9_readItem 0 = .ok (.aload_n 0, 1) := by decide +kernel
theorem dX9_readItem_1 : decode cX9_readItem 1 = .ok (.invokevirtual 33, 3) := by decide +kernel
theorem dX9_readItem_4 : decode cX9_readItem 4 = .ok (.istore_n 2, 1) := by decide +kernel
theorem dX9_readItem_5 : decode cX9_readItem 5 = .ok (.iload_n 2, 1) := by decide +kernel
theorem dX9_readItem_6 : decode cX9_readItem 6 = .ok (.bipush 112, 2) := by decide +kernel
theorem dX9_readItem_8 : decode cX9_readItem 8 = .ok (.if_icmp .ne 21, 3) := by decide +kernel
theorem dX9_readItem_11 : decode cX9_readItem 11 = .ok (.aload_n 1, 1) := by decide +kernel
theorem dX9_readItem_12 : decode cX9_readItem 12 = .ok (.getfield 59, 3) := by decide +kernel
theorem dX9_readItem_15 : decode cX9_readItem 15 = .ok (.bipush 40, 2) := by decide +kernel
theorem dX9_readItem_17 : decode cX9_readItem 17 = .ok (.if_icmp .lt 12, 3) := by decide +kernel
theorem dX9_readItem_20 : decode cX9_readItem 20 = .ok (.aload_n 0, 1) := by decide +kernel
theorem dX9_readItem_21 : decode cX9_readItem 21 = .ok (.aload_n 0, 1) := by decide +kernel
theorem dX9_readItem_22 : decode cX9_readItem 22 = .ok (.getfield 24, 3) := by decide +kernel
theorem dX9_readItem_25 : decode cX9_readItem 25 = .ok (.invokevirtual 41, 3) := by decide +kernel
theorem dX9_readItem_28 : decode cX9_readItem 28 = .ok (.return_, 1) := by decide +kernel
theorem dX9_readItem_29 : decode cX9_readItem 29 = .ok (.iload_n 2, 1) := by decide +kernel
theorem dX9_readItem_30 : decode cX9_readItem 30 = .ok (.tableswitch 174 99 112 #[125, 82, 174, 174, 174, 174, 174, 174, 174, 70, 143, 174, 174, 162], 70) := by decide +kernel
theorem dX9_readItem_100 : decode cX9_readItem 100 = .ok (.aload_n 0, 1) := by decide +kernel
theorem dX9_readItem_101 : decode cX9_readItem 101 = .ok (.invokevirtual 62, 3) := by decide +kernel
theorem dX9_readItem_104 : decode cX9_readItem 104 = .ok (.aload_n 0, 1) := by decide +kernel
theorem dX9_readItem_105 : decode cX9_readItem 105 = .ok (.aload_n 1, 1) := by decide +kernel
theorem dX9_readItem_106 : decode cX9_readItem 106 = .ok (.invokevirtual 65, 3) := by decide +kernel
theorem dX9_readItem_109 : decode cX9_readItem 109 = .ok (.goto 103, 3) := by decide +kernel
theorem dX9_readItem_112 : decode cX9_readItem 112 = .ok (.aload_n 0, 1) := by decide +kernel
theorem dX9_readItem_113 : decode cX9_readItem 113 = .ok (.invokevirtual 62, 3) := by decide +kernel
theorem dX9_readItem_116 : decode cX9_readItem 116 = .ok (.aload_n 1, 1) := by decide +kernel
theorem dX9_readItem_117 : decode cX9_readItem 117 = .ok (.aload_n 0, 1) := by decide +kernel
theorem dX9_readItem_118 : decode cX9_readItem 118 = .ok (.iconst 0, 1) := by decide +kernel
theorem dX9_readItem_119 : decode cX9_readItem 119 = .ok (.sipush 364, 3) := by decide +kernel
theorem dX9_readItem_122 : decode cX9_readItem 122 = .ok (.invokevirtual 68, 3) := by decide +kernel
theorem dX9_readItem_125 : decode cX9_readItem 125 = .ok (.putfield 71, 3) := by decide +kernel
theorem dX9_readItem_128 : decode cX9_readItem 128 = .ok (.aload_n 1, 1) := by decide +kernel
theorem dX9_readItem_129 : decode cX9_readItem 129 = .ok (.aload_n 0, 1) := by decide +kernel
theorem dX9_readItem_130 : decode cX9_readItem 130 = .ok (.iconst 0, 1) := by decide +kernel
theorem dX9_readItem_131 : decode cX9_readItem 131 = .ok (.sipush 364, 3) := by decide +kernel
theorem dX9_readItem_134 : decode cX9_readItem 134 = .ok (.invokevirtual 68, 3) := by decide +kernel
theorem dX9_readItem_137 : decode cX9_readItem 137 = .ok (.putfield 74, 3) := by decide +kernel
theorem dX9_readItem_140 : decode cX9_readItem 140 = .ok (.aload_n 1, 1) := by decide +kernel
theorem dX9_readItem_141 : decode cX9_readItem 141 = .ok (.aload_n 0, 1) := by decide +kernel
theorem dX9_readItem_142 : decode cX9_readItem 142 = .ok (.iconst 0, 1) := by decide +kernel
theorem dX9_readItem_143 : decode cX9_readItem 143 = .ok (.sipush 364, 3) := by decide +kernel
theorem dX9_readItem_146 : decode cX9_readItem 146 = .ok (.invokevirtual 44, 3) := by decide +kernel
theorem dX9_readItem_149 : decode cX9_readItem 149 = .ok (.putfield 77, 3) := by decide +kernel
theorem dX9_readItem_152 : decode cX9_readItem 152 = .ok (.goto 60, 3) := by decide +kernel
theorem dX9_readItem_155 : decode cX9_readItem 155 = .ok (.aload_n 0, 1) := by decide +kernel
theorem dX9_readItem_156 : decode cX9_readItem 156 = .ok (.invokevirtual 62, 3) := by decide +kernel
theorem dX9_readItem_159 : decode cX9_readItem 159 = .ok (.aload_n 1, 1) := by decide +kernel
theorem dX9_readItem_160 : decode cX9_readItem 160 = .ok (.aload_n 0, 1) := by decide +kernel
theorem dX9_readItem_161 : decode cX9_readItem 161 = .ok (.iconst 1, 1) := by decide +kernel
theorem dX9_readItem_162 : decode cX9_readItem 162 = .ok (.bipush 40, 2) := by decide +kernel
theorem dX9_readItem_164 : decode cX9_readItem 164 = .ok (.invokevirtual 44, 3) := by decide +kernel
theorem dX9_readItem_167 : decode cX9_readItem 167 = .ok (.putfield 80, 3) := by decide +kernel
theorem dX9_readItem_170 : decode cX9_readItem 170 = .ok (.goto 42, 3) := by decide +kernel
theorem dX9_readItem_173 : decode cX9_readItem 173 = .ok (.aload_n 0, 1) := by decide +kernel
theorem dX9_readItem_174 : decode cX9_readItem 174 = .ok (.invokevirtual 62, 3) := by decide +kernel
theorem dX9_readItem_177 : decode cX9_readItem 177 = .ok (.aload_n 1, 1) := by decide +kernel
theorem dX9_readItem_178 : decode cX9_readItem 178 = .ok (.aload_n 0, 1) := by decide +kernel
theorem dX9_readItem_179 : decode cX9_readItem 179 = .ok (.iconst 0, 1) := by decide +kernel
theorem dX9_readItem_180 : decode cX9_readItem 180 = .ok (.sipush 9999, 3) := by decide +kernel
theorem dX9_readItem_183 : decode cX9_readItem 183 = .ok (.invokevirtual 44, 3) := by decide +kernel
theorem dX9_readItem_186 : decode cX9_readItem 186 = .ok (.putfield 83, 3) := by decide +kernel
theorem dX9_readItem_189 : decode cX9_readItem 189 = .ok (.goto 23, 3) := by decide +kernel
theorem dX9_readItem_192 : decode cX9_readItem 192 = .ok (.aload_n 0, 1) := by decide +kernel
theorem dX9_readItem_193 : decode cX9_readItem 193 = .ok (.invokevirtual 62, 3) := by decide +kernel
theorem dX9_readItem_196 : decode cX9_readItem 196 = .ok (.aload_n 0, 1) := by decide +kernel
theorem dX9_readItem_197 : decode cX9_readItem 197 = .ok (.aload_n 1, 1) := by decide +kernel
theorem dX9_readItem_198 : decode cX9_readItem 198 = .ok (.invokevirtual 86, 3) := by decide +kernel
theorem dX9_readItem_201 : decode cX9_readItem 201 = .ok (.goto 11, 3) := by decide +kernel
theorem dX9_readItem_204 : decode cX9_readItem 204 = .ok (.aload_n 0, 1) := by decide +kernel
theorem dX9_readItem_205 : decode cX9_readItem 205 = .ok (.aload_n 0, 1) := by decide +kernel
theorem dX9_readItem_206 : decode cX9_readItem 206 = .ok (.getfield 24, 3) := by decide +kernel
theorem dX9_readItem_209 : decode cX9_readItem 209 = .ok (.invokevirtual 41, 3) := by decide +kernel
theorem dX9_readItem_212 : decode cX9_readItem 212 = .ok (.return_, 1) := by decide +kernel
theorem dX9_readLimit_0 : decode cX9_readLimit 0 = .ok (.aload_n 0, 1) := by decide +kernel
theorem dX9_readLimit_1 : decode cX9_readLimit 1 = .ok (.iconst 0, 1) := by decide +kernel
theorem dX9_readLimit_2 : decode cX9_readLimit 2 = .ok (.bipush 19, 2) := by decide +kernel
theorem dX9_readLimit_4 : decode cX9_readLimit 4 = .ok (.invokevirtual 68, 3) := by decide +kernel
theorem dX9_readLimit_7 : decode cX9_readLimit 7 = .ok (.istore_n 2, 1) := by decide +kernel
theorem dX9_readLimit_8 : decode cX9_readLimit 8 = .ok (.aload_n 0, 1) := by decide +kernel
theorem dX9_readLimit_9 : decode cX9_readLimit 9 = .ok (.iconst 0, 1) := by decide +kernel
theorem dX9_readLimit_10 : decode cX9_readLimit 10 = .ok (.ldc 89, 2) := by decide +kernel
theorem dX9_readLimit_12 : decode cX9_readLimit 12 = .ok (.invokevirtual 44, 3) := by decide +kernel
theorem dX9_readLimit_15 : decode cX9_readLimit 15 = .ok (.istore_n 3, 1) := by decide +kernel
theorem dX9_readLimit_16 : decode cX9_readLimit 16 = .ok (.iload_n 2, 1) := by decide +kernel
theorem dX9_readLimit_17 : decode cX9_readLimit 17 = .ok (.invokestatic 90, 3) := by decide +kernel
theorem dX9_readLimit_20 : decode cX9_readLimit 20 = .ok (.ifCond .eq 10, 3) := by decide +kernel
theorem dX9_readLimit_23 : decode cX9_readLimit 23 = .ok (.aload_n 1, 1) := by decide +kernel
theorem dX9_readLimit_24 : decode cX9_readLimit 24 = .ok (.getfield 93, 3) := by decide +kernel
theorem dX9_readLimit_27 : decode cX9_readLimit 27 = .ok (.iload_n 2, 1) := by decide +kernel
theorem dX9_readLimit_28 : decode cX9_readLimit 28 = .ok (.iload_n 3, 1) := by decide +kernel
theorem dX9_readLimit_29 : decode cX9_readLimit 29 = .ok (.iastore, 1) := by decide +kernel
theorem dX9_readLimit_30 : decode cX9_readLimit 30 = .ok (.return_, 1) := by decide +kernel
theorem dX9_readContract_0 : decode cX9_readContract 0 = .ok (.aload_n 0, 1) := by decide +kernel
theorem dX9_readContract_1 : decode cX9_readContract 1 = .ok (.aload_n 1, 1) := by decide +kernel
theorem dX9_readContract_2 : decode cX9_readContract 2 = .ok (.getfield 97, 3) := by decide +kernel
theorem dX9_readContract_5 : decode cX9_readContract 5 = .ok (.bipush 19, 2) := by decide +kernel
theorem dX9_readContract_7 : decode cX9_readContract 7 = .ok (.invokevirtual 68, 3) := by decide +kernel
theorem dX9_readContract_10 : decode cX9_readContract 10 = .ok (.istore_n 2, 1) := by decide +kernel
theorem dX9_readContract_11 : decode cX9_readContract 11 = .ok (.aload_n 0, 1) := by decide +kernel
theorem dX9_readContract_12 : decode cX9_readContract 12 = .ok (.iconst 1, 1) := by decide +kernel
theorem dX9_readContract_13 : decode cX9_readContract 13 = .ok (.bipush 6, 2) := by decide +kernel
theorem dX9_readContract_15 : decode cX9_readContract 15 = .ok (.bipush 20, 2) := by decide +kernel
theorem dX9_readContract_17 : decode cX9_readContract 17 = .ok (.iload_n 2, 1) := by decide +kernel
theorem dX9_readContract_18 : decode cX9_readContract 18 = .ok (.isub, 1) := by decide +kernel
theorem dX9_readContract_19 : decode cX9_readContract 19 = .ok (.invokestatic 100, 3) := by decide +kernel
theorem dX9_readContract_22 : decode cX9_readContract 22 = .ok (.invokevirtual 68, 3) := by decide +kernel
theorem dX9_readContract_25 : decode cX9_readContract 25 = .ok (.istore_n 3, 1) := by decide +kernel
theorem dX9_readContract_26 : decode cX9_readContract 26 = .ok (.aload_n 0, 1) := by decide +kernel
theorem dX9_readContract_27 : decode cX9_readContract 27 = .ok (.iconst 0, 1) := by decide +kernel
theorem dX9_readContract_28 : decode cX9_readContract 28 = .ok (.iconst 4, 1) := by decide +kernel
theorem dX9_readContract_29 : decode cX9_readContract 29 = .ok (.bipush 20, 2) := by decide +kernel
theorem dX9_readContract_31 : decode cX9_readContract 31 = .ok (.iload_n 2, 1) := by decide +kernel
theorem dX9_readContract_32 : decode cX9_readContract 32 = .ok (.isub, 1) := by decide +kernel
theorem dX9_readContract_33 : decode cX9_readContract 33 = .ok (.iload_n 3, 1) := by decide +kernel
theorem dX9_readContract_34 : decode cX9_readContract 34 = .ok (.isub, 1) := by decide +kernel
theorem dX9_readContract_35 : decode cX9_readContract 35 = .ok (.invokestatic 100, 3) := by decide +kernel
theorem dX9_readContract_38 : decode cX9_readContract 38 = .ok (.invokevirtual 68, 3) := by decide +kernel
theorem dX9_readContract_41 : decode cX9_readContract 41 = .ok (.istore 4, 2) := by decide +kernel
theorem dX9_readContract_43 : decode cX9_readContract 43 = .ok (.aload_n 0, 1) := by decide +kernel
theorem dX9_readContract_44 : decode cX9_readContract 44 = .ok (.iconst 0, 1) := by decide +kernel
theorem dX9_readContract_45 : decode cX9_readContract 45 = .ok (.ldc 105, 2) := by decide +kernel
theorem dX9_readContract_47 : decode cX9_readContract 47 = .ok (.invokevirtual 68, 3) := by decide +kernel
theorem dX9_readContract_50 : decode cX9_readContract 50 = .ok (.istore 5, 2) := by decide +kernel
theorem dX9_readContract_52 : decode cX9_readContract 52 = .ok (.aload_n 0, 1) := by decide +kernel
theorem dX9_readContract_53 : decode cX9_readContract 53 = .ok (.iconst 0, 1) := by decide +kernel
theorem dX9_readContract_54 : decode cX9_readContract 54 = .ok (.bipush 100, 2) := by decide +kernel
theorem dX9_readContract_56 : decode cX9_readContract 56 = .ok (.invokevirtual 44, 3) := by decide +kernel
theorem dX9_readContract_59 : decode cX9_readContract 59 = .ok (.istore 6, 2) := by decide +kernel
theorem dX9_readContract_61 : decode cX9_readContract 61 = .ok (.aload_n 1, 1) := by decide +kernel
theorem dX9_readContract_62 : decode cX9_readContract 62 = .ok (.invokevirtual 106, 3) := by decide +kernel
theorem dX9_readContract_65 : decode cX9_readContract 65 = .ok (.astore 7, 2) := by decide +kernel
theorem dX9_readContract_67 : decode cX9_readContract 67 = .ok (.aload_n 0, 1) := by decide +kernel
theorem dX9_readContract_68 : decode cX9_readContract 68 = .ok (.getfield 20, 3) := by decide +kernel
theorem dX9_readContract_71 : decode cX9_readContract 71 = .ok (.iconst (-1), 1) := by decide +kernel
theorem dX9_readContract_72 : decode cX9_readContract 72 = .ok (.if_icmp .ne 8, 3) := by decide +kernel
theorem dX9_readContract_75 : decode cX9_readContract 75 = .ok (.aload 7, 2) := by decide +kernel
theorem dX9_readContract_77 : decode cX9_readContract 77 = .ok (.ifnonnull 4, 3) := by decide +kernel
theorem dX9_readContract_80 : decode cX9_readContract 80 = .ok (.return_, 1) := by decide +kernel
theorem dX9_readContract_81 : decode cX9_readContract 81 = .ok (.aload 7, 2) := by decide +kernel
theorem dX9_readContract_83 : decode cX9_readContract 83 = .ok (.iload_n 2, 1) := by decide +kernel
theorem dX9_readContract_84 : decode cX9_readContract 84 = .ok (.iload_n 3, 1) := by decide +kernel
theorem dX9_readContract_85 : decode cX9_readContract 85 = .ok (.iload 4, 2) := by decide +kernel
theorem dX9_readContract_87 : decode cX9_readContract 87 = .ok (.iload 6, 2) := by decide +kernel
theorem dX9_readContract_89 : decode cX9_readContract 89 = .ok (.invokevirtual 110, 3) := by decide +kernel
theorem dX9_readContract_92 : decode cX9_readContract 92 = .ok (.aload 7, 2) := by decide +kernel
theorem dX9_readContract_94 : decode cX9_readContract 94 = .ok (.iload_n 2, 1) := by decide +kernel
theorem dX9_readContract_95 : decode cX9_readContract 95 = .ok (.iload 5, 2) := by decide +kernel
theorem dX9_readContract_97 : decode cX9_readContract 97 = .ok (.invokevirtual 116, 3) := by decide +kernel
theorem dX9_readContract_100 : decode cX9_readContract 100 = .ok (.iconst 0, 1) := by decide +kernel
theorem dX9_readContract_101 : decode cX9_readContract 101 = .ok (.istore 8, 2) := by decide +kernel
theorem dX9_readContract_103 : decode cX9_readContract 103 = .ok (.iload 8, 2) := by decide +kernel
theorem dX9_readContract_105 : decode cX9_readContract 105 = .ok (.iload_n 3, 1) := by decide +kernel
theorem dX9_readContract_106 : decode cX9_readContract 106 = .ok (.if_icmp .ge 43, 3) := by decide +kernel
theorem dX9_readContract_109 : decode cX9_readContract 109 = .ok (.aload_n 0, 1) := by decide +kernel
theorem dX9_readContract_110 : decode cX9_readContract 110 = .ok (.bipush 58, 2) := by decide +kernel
theorem dX9_readContract_112 : decode cX9_readContract 112 = .ok (.invokevirtual 48, 3) := by decide +kernel
theorem dX9_readContract_115 : decode cX9_readContract 115 = .ok (.aload_n 0, 1) := by decide +kernel
theorem dX9_readContract_116 : decode cX9_readContract 116 = .ok (.aload_n 1, 1) := by decide +kernel
theorem dX9_readContract_117 : decode cX9_readContract 117 = .ok (.getfield 83, 3) := by decide +kernel
theorem dX9_readContract_120 : decode cX9_readContract 120 = .ok (.ldc 105, 2) := by decide +kernel
theorem dX9_readContract_122 : decode cX9_readContract 122 = .ok (.invokevirtual 68, 3) := by decide +kernel
theorem dX9_readContract_125 : decode cX9_readContract 125 = .ok (.istore 9, 2) := by decide +kernel
theorem dX9_readContract_127 : decode cX9_readContract 127 = .ok (.aload 7, 2) := by decide +kernel
theorem dX9_readContract_129 : decode cX9_readContract 129 = .ok (.iload 8, 2) := by decide +kernel
theorem dX9_readContract_131 : decode cX9_readContract 131 = .ok (.iload 9, 2) := by decide +kernel
theorem dX9_readContract_133 : decode cX9_readContract 133 = .ok (.aload_n 0, 1) := by decide +kernel
theorem dX9_readContract_134 : decode cX9_readContract 134 = .ok (.iconst 0, 1) := by decide +kernel
theorem dX9_readContract_135 : decode cX9_readContract 135 = .ok (.ldc 105, 2) := by decide +kernel
theorem dX9_readContract_137 : decode cX9_readContract 137 = .ok (.invokevirtual 44, 3) := by decide +kernel
theorem dX9_readContract_140 : decode cX9_readContract 140 = .ok (.invokevirtual 120, 3) := by decide +kernel
theorem dX9_readContract_143 : decode cX9_readContract 143 = .ok (.iinc 8 1, 3) := by decide +kernel
theorem dX9_readContract_146 : decode cX9_readContract 146 = .ok (.goto (-43), 3) := by decide +kernel
theorem dX9_readContract_149 : decode cX9_readContract 149 = .ok (.return_, 1) := by decide +kernel
theorem dX10_init_0 : decode cX10_init 0 = .ok (.aload_n 0, 1) := by decide +kernel
theorem dX10_init_1 : decode cX10_init 1 = .ok (.invokespecial 3, 3) := by decide +kernel
theorem dX10_init_4 : decode cX10_init 4 = .ok (.aload_n 0, 1) := by decide +kernel
theorem dX10_init_5 : decode cX10_init 5 = .ok (.bipush 40, 2) := by decide +kernel
theorem dX10_init_7 : decode cX10_init 7 = .ok (.newarray .int, 2) := by decide +kernel
theorem dX10_init_9 : decode cX10_init 9 = .ok (.putfield 9, 3) := by decide +kernel
theorem dX10_init_12 : decode cX10_init 12 = .ok (.aload_n 0, 1) := by decide +kernel
theorem dX10_init_13 : decode cX10_init 13 = .ok (.bipush 40, 2) := by decide +kernel
theorem dX10_init_15 : decode cX10_init 15 = .ok (.newarray .int, 2) := by decide +kernel
theorem dX10_init_17 : decode cX10_init 17 = .ok (.putfield 15, 3) := by decide +kernel
theorem dX10_init_20 : decode cX10_init 20 = .ok (.aload_n 0, 1) := by decide +kernel
theorem dX10_init_21 : decode cX10_init 21 = .ok (.bipush 40, 2) := by decide +kernel
theorem dX10_init_23 : decode cX10_init 23 = .ok (.newarray .int, 2) := by decide +kernel
theorem dX10_init_25 : decode cX10_init 25 = .ok (.putfield 18, 3) := by decide +kernel
theorem dX10_init_28 : decode cX10_init 28 = .ok (.aload_n 0, 1) := by decide +kernel
theorem dX10_init_29 : decode cX10_init 29 = .ok (.bipush 40, 2) := by decide +kernel
theorem dX10_init_31 : decode cX10_init 31 = .ok (.newarray .boolean, 2) := by decide +kernel
theorem dX10_init_33 : decode cX10_init 33 = .ok (.putfield 21, 3) := by decide +kernel
theorem dX10_init_36 : decode cX10_init 36 = .ok (.aload_n 0, 1) := by decide +kernel
theorem dX10_init_37 : decode cX10_init 37 = .ok (.bipush 40, 2) := by decide +kernel
theorem dX10_init_39 : decode cX10_init 39 = .ok (.newarray .int, 2) := by decide +kernel
theorem dX10_init_41 : decode cX10_init 41 = .ok (.putfield 25, 3) := by decide +kernel
theorem dX10_init_44 : decode cX10_init 44 = .ok (.return_, 1) := by decide +kernel
theorem dX10_load_0 : decode cX10_load 0 = .ok (.aload_n 0, 1) := by decide +kernel
theorem dX10_load_1 : decode cX10_load 1 = .ok (.iconst 0, 1) := by decide +kernel
theorem dX10_load_2 : decode cX10_load 2 = .ok (.putfield 28, 3) := by decide +kernel
theorem dX10_load_5 : decode cX10_load 5 = .ok (.iconst 0, 1) := by decide +kernel
theorem dX10_load_6 : decode cX10_load 6 = .ok (.istore_n 2, 1) := by decide +kernel
theorem dX10_load_7 : decode cX10_load 7 = .ok (.iload_n 2, 1) := by decide +kernel
theorem dX10_load_8 : decode cX10_load 8 = .ok (.aload_n 1, 1) := by decide +kernel
theorem dX10_load_9 : decode cX10_load 9 = .ok (.getfield 32, 3) := by decide +kernel
theorem dX10_load_12 : decode cX10_load 12 = .ok (.if_icmp .ge 85, 3) := by decide +kernel
theorem dX10_load_15 : decode cX10_load 15 = .ok (.aload_n 1, 1) := by decide +kernel
theorem dX10_load_16 : decode cX10_load 16 = .ok (.getfield 35, 3) := by decide +kernel
theorem dX10_load_19 : decode cX10_load 19 = .ok (.iload_n 2, 1) := by decide +kernel
theorem dX10_load_20 : decode cX10_load 20 = .ok (.aaload, 1) := by decide +kernel
theorem dX10_load_21 : decode cX10_load 21 = .ok (.astore_n 3, 1) := by decide +kernel
theorem dX10_load_22 : decode cX10_load 22 = .ok (.aload_n 0, 1) := by decide +kernel
theorem dX10_load_23 : decode cX10_load 23 = .ok (.getfield 9, 3) := by decide +kernel
theorem dX10_load_26 : decode cX10_load 26 = .ok (.iload_n 2, 1) := by decide +kernel
theorem dX10_load_27 : decode cX10_load 27 = .ok (.aload_n 3, 1) := by decide +kernel
theorem dX10_load_28 : decode cX10_load 28 = .ok (.aload_n 1, 1) := by decide +kernel
theorem dX10_load_29 : decode cX10_load 29 = .ok (.getfield 39, 3) := by decide +kernel
theorem dX10_load_32 : decode cX10_load 32 = .ok (.invokevirtual 42, 3) := by decide +kernel
theorem dX10_load_35 : decode cX10_load 35 = .ok (.iastore, 1) := by decide +kernel
theorem dX10_load_36 : decode cX10_load 36 = .ok (.aload_n 0, 1) := by decide +kernel
theorem dX10_load_37 : decode cX10_load 37 = .ok (.getfield 15, 3) := by decide +kernel
theorem dX10_load_40 : decode cX10_load 40 = .ok (.iload_n 2, 1) := by decide +kernel
theorem dX10_load_41 : decode cX10_load 41 = .ok (.aload_n 3, 1) := by decide +kernel
theorem dX10_load_42 : decode cX10_load 42 = .ok (.aload_n 1, 1) := by decide +kernel
theorem dX10_load_43 : decode cX10_load 43 = .ok (.getfield 39, 3) := by decide +kernel
theorem dX10_load_46 : decode cX10_load 46 = .ok (.invokevirtual 47, 3) := by decide +kernel
theorem dX10_load_49 : decode cX10_load 49 = .ok (.iastore, 1) := by decide +kernel
theorem dX10_load_50 : decode cX10_load 50 = .ok (.aload_n 0, 1) := by decide +kernel
theorem dX10_load_51 : decode cX10_load 51 = .ok (.getfield 18, 3) := by decide +kernel
theorem dX10_load_54 : decode cX10_load 54 = .ok (.iload_n 2, 1) := by decide +kernel
theorem dX10_load_55 : decode cX10_load 55 = .ok (.iconst 0, 1) := by decide +kernel
theorem dX10_load_56 : decode cX10_load 56 = .ok (.iastore, 1) := by decide +kernel
theorem dX10_load_57 : decode cX10_load 57 = .ok (.aload_n 0, 1) := by decide +kernel
theorem dX10_load_58 : decode cX10_load 58 = .ok (.getfield 21, 3) := by decide +kernel
theorem dX10_load_61 : decode cX10_load 61 = .ok (.iload_n 2, 1) := by decide +kernel
theorem dX10_load_62 : decode cX10_load 62 = .ok (.iconst 0, 1) := by decide +kernel
theorem dX10_load_63 : decode cX10_load 63 = .ok (.bastore, 1) := by decide +kernel
theorem dX10_load_64 : decode cX10_load 64 = .ok (.aload_n 3, 1) := by decide +kernel
theorem dX10_load_65 : decode cX10_load 65 = .ok (.invokevirtual 50, 3) := by decide +kernel
theorem dX10_load_68 : decode cX10_load 68 = .ok (.ifCond .eq 23, 3) := by decide +kernel
theorem dX10_load_71 : decode cX10_load 71 = .ok (.aload_n 0, 1) := by decide +kernel
theorem dX10_load_72 : decode cX10_load 72 = .ok (.getfield 25, 3) := by decide +kernel
theorem dX10_load_75 : decode cX10_load 75 = .ok (.aload_n 0, 1) := by decide +kernel
theorem dX10_load_76 : decode cX10_load 76 = .ok (.getfield 28, 3) := by decide +kernel
theorem dX10_load_79 : decode cX10_load 79 = .ok (.iload_n 2, 1) := by decide +kernel
theorem dX10_load_80 : decode cX10_load 80 = .ok (.iastore, 1) := by decide +kernel
theorem dX10_load_81 : decode cX10_load 81 = .ok (.aload_n 0, 1) := by decide +kernel
theorem dX10_load_82 : decode cX10_load 82 = .ok (.dup, 1) := by decide +kernel
theorem dX10_load_83 : decode cX10_load 83 = .ok (.getfield 28, 3) := by decide +kernel
theorem dX10_load_86 : decode cX10_load 86 = .ok (.iconst 1, 1) := by decide +kernel
theorem dX10_load_87 : decode cX10_load 87 = .ok (.iadd, 1) := by decide +kernel
theorem dX10_load_88 : decode cX10_load 88 = .ok (.putfield 28, 3) := by decide +kernel
theorem dX10_load_91 : decode cX10_load 91 = .ok (.iinc 2 1, 3) := by decide +kernel
theorem dX10_load_94 : decode cX10_load 94 = .ok (.goto (-87), 3) := by decide +kernel
theorem dX10_load_97 : decode cX10_load 97 = .ok (.aload_n 0, 1) := by decide +kernel
theorem dX10_load_98 : decode cX10_load 98 = .ok (.aload_n 1, 1) := by decide +kernel
theorem dX10_load_99 : decode cX10_load 99 = .ok (.getfield 54, 3) := by decide +kernel
theorem dX10_load_102 : decode cX10_load 102 = .ok (.aload_n 1, 1) := by decide +kernel
theorem dX10_load_103 : decode cX10_load 103 = .ok (.getfield 39, 3) := by decide +kernel
theorem dX10_load_106 : decode cX10_load 106 = .ok (.invokevirtual 58, 3) := by decide +kernel
theorem dX10_load_109 : decode cX10_load 109 = .ok (.aload_n 0, 1) := by decide +kernel
theorem dX10_load_110 : decode cX10_load 110 = .ok (.invokevirtual 62, 3) := by decide +kernel
theorem dX10_load_113 : decode cX10_load 113 = .ok (.return_, 1) := by decide +kernel
theorem dX10_loadPromises_0 : decode cX10_loadPromises 0 = .ok (.iconst 0, 1) := by decide +kernel
theorem dX10_loadPromises_1 : decode cX10_loadPromises 1 = .ok (.istore_n 3, 1) := by decide +kernel
theorem dX10_loadPromises_2 : decode cX10_loadPromises 2 = .ok (.iload_n 3, 1) := by decide +kernel
theorem dX10_loadPromises_3 : decode cX10_loadPromises 3 = .ok (.aload_n 1, 1) := by decide +kernel
theorem dX10_loadPromises_4 : decode cX10_loadPromises 4 = .ok (.getfield 65, 3) := by decide +kernel
theorem dX10_loadPromises_7 : decode cX10_loadPromises 7 = .ok (.if_icmp .ge 64, 3) := by decide +kernel
theorem dX10_loadPromises_10 : decode cX10_loadPromises 10 = .ok (.aload_n 1, 1) := by decide +kernel
theorem dX10_loadPromises_11 : decode cX10_loadPromises 11 = .ok (.getfield 68, 3) := by decide +kernel
theorem dX10_loadPromises_14 : decode cX10_loadPromises 14 = .ok (.iload_n 3, 1) := by decide +kernel
theorem dX10_loadPromises_15 : decode cX10_loadPromises 15 = .ok (.iaload, 1) := by decide +kernel
theorem dX10_loadPromises_16 : decode cX10_loadPromises 16 = .ok (.istore 4, 2) := by decide +kernel
theorem dX10_loadPromises_18 : decode cX10_loadPromises 18 = .ok (.aload_n 1, 1) := by decide +kernel
theorem dX10_loadPromises_19 : decode cX10_loadPromises 19 = .ok (.getfield 71, 3) := by decide +kernel
theorem dX10_loadPromises_22 : decode cX10_loadPromises 22 = .ok (.iload_n 3, 1) := by decide +kernel
theorem dX10_loadPromises_23 : decode cX10_loadPromises 23 = .ok (.baload, 1) := by decide +kernel
theorem dX10_loadPromises_24 : decode cX10_loadPromises 24 = .ok (.ifCond .eq 41, 3) := by decide +kernel
theorem dX10_loadPromises_27 : decode cX10_loadPromises 27 = .ok (.aload_n 1, 1) := by decide +kernel
theorem dX10_loadPromises_28 : decode cX10_loadPromises 28 = .ok (.getfield 73, 3) := by decide +kernel
theorem dX10_loadPromises_31 : decode cX10_loadPromises 31 = .ok (.iload_n 3, 1) := by decide +kernel
theorem dX10_loadPromises_32 : decode cX10_loadPromises 32 = .ok (.iaload, 1) := by decide +kernel
theorem dX10_loadPromises_33 : decode cX10_loadPromises 33 = .ok (.iload_n 2, 1) := by decide +kernel
theorem dX10_loadPromises_34 : decode cX10_loadPromises 34 = .ok (.if_icmp .ne 31, 3) := by decide +kernel
theorem dX10_loadPromises_37 : decode cX10_loadPromises 37 = .ok (.iload 4, 2) := by decide +kernel
theorem dX10_loadPromises_39 : decode cX10_loadPromises 39 = .ok (.ifCond .lt 26, 3) := by decide +kernel
theorem dX10_loadPromises_42 : decode cX10_loadPromises 42 = .ok (.iload 4, 2) := by decide +kernel
theorem dX10_loadPromises_44 : decode cX10_loadPromises 44 = .ok (.bipush 40, 2) := by decide +kernel
theorem dX10_loadPromises_46 : decode cX10_loadPromises 46 = .ok (.if_icmp .ge 19, 3) := by decide +kernel
theorem dX10_loadPromises_49 : decode cX10_loadPromises 49 = .ok (.aload_n 0, 1) := by decide +kernel
theorem dX10_loadPromises_50 : decode cX10_loadPromises 50 = .ok (.getfield 18, 3) := by decide +kernel
theorem dX10_loadPromises_53 : decode cX10_loadPromises 53 = .ok (.iload 4, 2) := by decide +kernel
theorem dX10_loadPromises_55 : decode cX10_loadPromises 55 = .ok (.dup2, 1) := by decide +kernel
theorem dX10_loadPromises_56 : decode cX10_loadPromises 56 = .ok (.iaload, 1) := by decide +kernel
theorem dX10_loadPromises_57 : decode cX10_loadPromises 57 = .ok (.aload_n 1, 1) := by decide +kernel
theorem dX10_loadPromises_58 : decode cX10_loadPromises 58 = .ok (.getfield 75, 3) := by decide +kernel
theorem dX10_loadPromises_61 : decode cX10_loadPromises 61 = .ok (.iload_n 3, 1) := by decide +kernel
theorem dX10_loadPromises_62 : decode cX10_loadPromises 62 = .ok (.iaload, 1) := by decide +kernel
theorem dX10_loadPromises_63 : decode cX10_loadPromises 63 = .ok (.iadd, 1) := by decide +kernel
theorem dX10_loadPromises_64 : decode cX10_loadPromises 64 = .ok (.iastore, 1) := by decide +kernel
theorem dX10_loadPromises_65 : decode cX10_loadPromises 65 = .ok (.iinc 3 1, 3) := by decide +kernel
theorem dX10_loadPromises_68 : decode cX10_loadPromises 68 = .ok (.goto (-66), 3) := by decide +kernel
theorem dX10_loadPromises_71 : decode cX10_loadPromises 71 = .ok (.return_, 1) := by decide +kernel
theorem dX10_rank_0 : decode cX10_rank 0 = .ok (.iconst 1, 1) := by decide +kernel
theorem dX10_rank_1 : decode cX10_rank 1 = .ok (.istore_n 1, 1) := by decide +kernel
theorem dX10_rank_2 : decode cX10_rank 2 = .ok (.iload_n 1, 1) := by decide +kernel
theorem dX10_rank_3 : decode cX10_rank 3 = .ok (.aload_n 0, 1) := by decide +kernel
theorem dX10_rank_4 : decode cX10_rank 4 = .ok (.getfield 28, 3) := by decide +kernel
theorem dX10_rank_7 : decode cX10_rank 7 = .ok (.if_icmp .ge 65, 3) := by decide +kernel
theorem dX10_rank_10 : decode cX10_rank 10 = .ok (.aload_n 0, 1) := by decide +kernel
theorem dX10_rank_11 : decode cX10_rank 11 = .ok (.getfield 25, 3) := by decide +kernel
theorem dX10_rank_14 : decode cX10_rank 14 = .ok (.iload_n 1, 1) := by decide +kernel
theorem dX10_rank_15 : decode cX10_rank 15 = .ok (.iaload, 1) := by decide +kernel
theorem dX10_rank_16 : decode cX10_rank 16 = .ok (.istore_n 2, 1) := by decide +kernel
theorem dX10_rank_17 : decode cX10_rank 17 = .ok (.iload_n 1, 1) := by decide +kernel
theorem dX10_rank_18 : decode cX10_rank 18 = .ok (.istore_n 3, 1) := by decide +kernel
theorem dX10_rank_19 : decode cX10_rank 19 = .ok (.iload_n 3, 1) := by decide +kernel
theorem dX10_rank_20 : decode cX10_rank 20 = .ok (.ifCond .le 39, 3) := by decide +kernel
theorem dX10_rank_23 : decode cX10_rank 23 = .ok (.aload_n 0, 1) := by decide +kernel
theorem dX10_rank_24 : decode cX10_rank 24 = .ok (.iload_n 2, 1) := by decide +kernel
theorem dX10_rank_25 : decode cX10_rank 25 = .ok (.aload_n 0, 1) := by decide +kernel
theorem dX10_rank_26 : decode cX10_rank 26 = .ok (.getfield 25, 3) := by decide +kernel
theorem dX10_rank_29 : decode cX10_rank 29 = .ok (.iload_n 3, 1) := by decide +kernel
theorem dX10_rank_30 : decode cX10_rank 30 = .ok (.iconst 1, 1) := by decide +kernel
theorem dX10_rank_31 : decode cX10_rank 31 = .ok (.isub, 1) := by decide +kernel
theorem dX10_rank_32 : decode cX10_rank 32 = .ok (.iaload, 1) := by decide +kernel
theorem dX10_rank_33 : decode cX10_rank 33 = .ok (.invokevirtual 78, 3) := by decide +kernel
theorem dX10_rank_36 : decode cX10_rank 36 = .ok (.ifCond .eq 23, 3) := by decide +kernel
theorem dX10_rank_39 : decode cX10_rank 39 = .ok (.aload_n 0, 1) := by decide +kernel
theorem dX10_rank_40 : decode cX10_rank 40 = .ok (.getfield 25, 3) := by decide +kernel
theorem dX10_rank_43 : decode cX10_rank 43 = .ok (.iload_n 3, 1) := by decide +kernel
theorem dX10_rank_44 : decode cX10_rank 44 = .ok (.aload_n 0, 1) := by decide +kernel
theorem dX10_rank_45 : decode cX10_rank 45 = .ok (.getfield 25, 3) := by decide +kernel
theorem dX10_rank_48 : decode cX10_rank 48 = .ok (.iload_n 3, 1) := by decide +kernel
theorem dX10_rank_49 : decode cX10_rank 49 = .ok (.iconst 1, 1) := by decide +kernel
theorem dX10_rank_50 : decode cX10_rank 50 = .ok (.isub, 1) := by decide +kernel
theorem dX10_rank_51 : decode cX10_rank 51 = .ok (.iaload, 1) := by decide +kernel
theorem dX10_rank_52 : decode cX10_rank 52 = .ok (.iastore, 1) := by decide +kernel
theorem dX10_rank_53 : decode cX10_rank 53 = .ok (.iinc 3 (-1), 3) := by decide +kernel
theorem dX10_rank_56 : decode cX10_rank 56 = .ok (.goto (-37), 3) := by decide +kernel
theorem dX10_rank_59 : decode cX10_rank 59 = .ok (.aload_n 0, 1) := by decide +kernel
theorem dX10_rank_60 : decode cX10_rank 60 = .ok (.getfield 25, 3) := by decide +kernel
theorem dX10_rank_63 : decode cX10_rank 63 = .ok (.iload_n 3, 1) := by decide +kernel
theorem dX10_rank_64 : decode cX10_rank 64 = .ok (.iload_n 2, 1) := by decide +kernel
theorem dX10_rank_65 : decode cX10_rank 65 = .ok (.iastore, 1) := by decide +kernel
theorem dX10_rank_66 : decode cX10_rank 66 = .ok (.iinc 1 1, 3) := by decide +kernel
theorem dX10_rank_69 : decode cX10_rank 69 = .ok (.goto (-67), 3) := by decide +kernel
theorem dX10_rank_72 : decode cX10_rank 72 = .ok (.return_, 1) := by decide +kernel
theorem dX10_isAhead_0 : decode cX10_isAhead 0 = .ok (.aload_n 0, 1) := by decide +kernel
theorem dX10_isAhead_1 : decode cX10_isAhead 1 = .ok (.getfield 9, 3) := by decide +kernel
theorem dX10_isAhead_4 : decode cX10_isAhead 4 = .ok (.iload_n 1, 1) := by decide +kernel
theorem dX10_isAhead_5 : decode cX10_isAhead 5 = .ok (.iaload, 1) := by decide +kernel
theorem dX10_isAhead_6 : decode cX10_isAhead 6 = .ok (.aload_n 0, 1) := by decide +kernel
theorem dX10_isAhead_7 : decode cX10_isAhead 7 = .ok (.getfield 9, 3) := by decide +kernel
theorem dX10_isAhead_10 : decode cX10_isAhead 10 = .ok (.iload_n 2, 1) := by decide +kernel
theorem dX10_isAhead_11 : decode cX10_isAhead 11 = .ok (.iaload, 1) := by decide +kernel
theorem dX10_isAhead_12 : decode cX10_isAhead 12 = .ok (.if_icmp .gt 23, 3) := by decide +kernel
theorem dX10_isAhead_15 : decode cX10_isAhead 15 = .ok (.aload_n 0, 1) := by decide +kernel
theorem dX10_isAhead_16 : decode cX10_isAhead 16 = .ok (.getfield 9, 3) := by decide +kernel
theorem dX10_isAhead_19 : decode cX10_isAhead 19 = .ok (.iload_n 1, 1) := by decide +kernel
theorem dX10_isAhead_20 : decode cX10_isAhead 20 = .ok (.iaload, 1) := by decide +kernel
theorem dX10_isAhead_21 : decode cX10_isAhead 21 = .ok (.aload_n 0, 1) := by decide +kernel
theorem dX10_isAhead_22 : decode cX10_isAhead 22 = .ok (.getfield 9, 3) := by decide +kernel
theorem dX10_isAhead_25 : decode cX10_isAhead 25 = .ok (.iload_n 2, 1) := by decide +kernel
theorem dX10_isAhead_26 : decode cX10_isAhead 26 = .ok (.iaload, 1) := by decide +kernel
theorem dX10_isAhead_27 : decode cX10_isAhead 27 = .ok (.if_icmp .ne 12, 3) := by decide +kernel
theorem dX10_isAhead_30 : decode cX10_isAhead 30 = .ok (.iload_n 1, 1) := by decide +kernel
theorem dX10_isAhead_31 : decode cX10_isAhead 31 = .ok (.iload_n 2, 1) := by decide +kernel
theorem dX10_isAhead_32 : decode cX10_isAhead 32 = .ok (.if_icmp .ge 7, 3) := by decide +kernel
theorem dX10_isAhead_35 : decode cX10_isAhead 35 = .ok (.iconst 1, 1) := by decide +kernel
theorem dX10_isAhead_36 : decode cX10_isAhead 36 = .ok (.goto 4, 3) := by decide +kernel
theorem dX10_isAhead_39 : decode cX10_isAhead 39 = .ok (.iconst 0, 1) := by decide +kernel
theorem dX10_isAhead_40 : decode cX10_isAhead 40 = .ok (.ireturn, 1) := by decide +kernel
theorem dX10_shift_0 : decode cX10_shift 0 = .ok (.iload_n 1, 1) := by decide +kernel
theorem dX10_shift_1 : decode cX10_shift 1 = .ok (.ifCond .lt 31, 3) := by decide +kernel
theorem dX10_shift_4 : decode cX10_shift 4 = .ok (.iload_n 1, 1) := by decide +kernel
theorem dX10_shift_5 : decode cX10_shift 5 = .ok (.bipush 40, 2) := by decide +kernel
theorem dX10_shift_7 : decode cX10_shift 7 = .ok (.if_icmp .ge 25, 3) := by decide +kernel
theorem dX10_shift_10 : decode cX10_shift 10 = .ok (.aload_n 0, 1) := by decide +kernel
theorem dX10_shift_11 : decode cX10_shift 11 = .ok (.getfield 9, 3) := by decide +kernel
theorem dX10_shift_14 : decode cX10_shift 14 = .ok (.iload_n 1, 1) := by decide +kernel
theorem dX10_shift_15 : decode cX10_shift 15 = .ok (.dup2, 1) := by decide +kernel
theorem dX10_shift_16 : decode cX10_shift 16 = .ok (.iaload, 1) := by decide +kernel
theorem dX10_shift_17 : decode cX10_shift 17 = .ok (.iload_n 3, 1) := by decide +kernel
theorem dX10_shift_18 : decode cX10_shift 18 = .ok (.iload_n 2, 1) := by decide +kernel
theorem dX10_shift_19 : decode cX10_shift 19 = .ok (.isub, 1) := by decide +kernel
theorem dX10_shift_20 : decode cX10_shift 20 = .ok (.iadd, 1) := by decide +kernel
theorem dX10_shift_21 : decode cX10_shift 21 = .ok (.iastore, 1) := by decide +kernel
theorem dX10_shift_22 : decode cX10_shift 22 = .ok (.aload_n 0, 1) := by decide +kernel
theorem dX10_shift_23 : decode cX10_shift 23 = .ok (.getfield 15, 3) := by decide +kernel
theorem dX10_shift_26 : decode cX10_shift 26 = .ok (.iload_n 1, 1) := by decide +kernel
theorem dX10_shift_27 : decode cX10_shift 27 = .ok (.dup2, 1) := by decide +kernel
theorem dX10_shift_28 : decode cX10_shift 28 = .ok (.iaload, 1) := by decide +kernel
theorem dX10_shift_29 : decode cX10_shift 29 = .ok (.iload_n 3, 1) := by decide +kernel
theorem dX10_shift_30 : decode cX10_shift 30 = .ok (.iadd, 1) := by decide +kernel
theorem dX10_shift_31 : decode cX10_shift 31 = .ok (.iastore, 1) := by decide +kernel
theorem dX10_shift_32 : decode cX10_shift 32 = .ok (.return_, 1) := by decide +kernel
theorem dX10_total_0 : decode cX10_total 0 = .ok (.iconst 0, 1) := by decide +kernel
theorem dX10_total_1 : decode cX10_total 1 = .ok (.istore_n 2, 1) := by decide +kernel
theorem dX10_total_2 : decode cX10_total 2 = .ok (.iconst 0, 1) := by decide +kernel
theorem dX10_total_3 : decode cX10_total 3 = .ok (.istore_n 3, 1) := by decide +kernel
theorem dX10_total_4 : decode cX10_total 4 = .ok (.iconst 0, 1) := by decide +kernel
theorem dX10_total_5 : decode cX10_total 5 = .ok (.istore 4, 2) := by decide +kernel
theorem dX10_total_7 : decode cX10_total 7 = .ok (.iload 4, 2) := by decide +kernel
theorem dX10_total_9 : decode cX10_total 9 = .ok (.aload_n 0, 1) := by decide +kernel
theorem dX10_total_10 : decode cX10_total 10 = .ok (.getfield 28, 3) := by decide +kernel
theorem dX10_total_13 : decode cX10_total 13 = .ok (.if_icmp .ge 67, 3) := by decide +kernel
theorem dX10_total_16 : decode cX10_total 16 = .ok (.aload_n 0, 1) := by decide +kernel
theorem dX10_total_17 : decode cX10_total 17 = .ok (.getfield 25, 3) := by decide +kernel
theorem dX10_total_20 : decode cX10_total 20 = .ok (.iload 4, 2) := by decide +kernel
theorem dX10_total_22 : decode cX10_total 22 = .ok (.iaload, 1) := by decide +kernel
theorem dX10_total_23 : decode cX10_total 23 = .ok (.istore 5, 2) := by decide +kernel
theorem dX10_total_25 : decode cX10_total 25 = .ok (.aload_n 0, 1) := by decide +kernel
theorem dX10_total_26 : decode cX10_total 26 = .ok (.getfield 21, 3) := by decide +kernel
theorem dX10_total_29 : decode cX10_total 29 = .ok (.iload 5, 2) := by decide +kernel
theorem dX10_total_31 : decode cX10_total 31 = .ok (.baload, 1) := by decide +kernel
theorem dX10_total_32 : decode cX10_total 32 = .ok (.ifCond .eq 6, 3) := by decide +kernel
theorem dX10_total_35 : decode cX10_total 35 = .ok (.goto 39, 3) := by decide +kernel
theorem dX10_total_38 : decode cX10_total 38 = .ok (.iload_n 2, 1) := by decide +kernel
theorem dX10_total_39 : decode cX10_total 39 = .ok (.aload_n 0, 1) := by decide +kernel
theorem dX10_total_40 : decode cX10_total 40 = .ok (.getfield 18, 3) := by decide +kernel
theorem dX10_total_43 : decode cX10_total 43 = .ok (.iload 5, 2) := by decide +kernel
theorem dX10_total_45 : decode cX10_total 45 = .ok (.iaload, 1) := by decide +kernel
theorem dX10_total_46 : decode cX10_total 46 = .ok (.iload_n 3, 1) := by decide +kernel
theorem dX10_total_47 : decode cX10_total 47 = .ok (.iload_n 1, 1) := by decide +kernel
theorem dX10_total_48 : decode cX10_total 48 = .ok (.if_icmp .ge 13, 3) := by decide +kernel
theorem dX10_total_51 : decode cX10_total 51 = .ok (.aload_n 0, 1) := by decide +kernel
theorem dX10_total_52 : decode cX10_total 52 = .ok (.getfield 9, 3) := by decide +kernel
theorem dX10_total_55 : decode cX10_total 55 = .ok (.iload 5, 2) := by decide +kernel
theorem dX10_total_57 : decode cX10_total 57 = .ok (.iaload, 1) := by decide +kernel
theorem dX10_total_58 : decode cX10_total 58 = .ok (.goto 10, 3) := by decide +kernel
theorem dX10_total_61 : decode cX10_total 61 = .ok (.aload_n 0, 1) := by decide +kernel
theorem dX10_total_62 : decode cX10_total 62 = .ok (.getfield 15, 3) := by decide +kernel
theorem dX10_total_65 : decode cX10_total 65 = .ok (.iload 5, 2) := by decide +kernel
theorem dX10_total_67 : decode cX10_total 67 = .ok (.iaload, 1) := by decide +kernel
theorem dX10_total_68 : decode cX10_total 68 = .ok (.iadd, 1) := by decide +kernel
theorem dX10_total_69 : decode cX10_total 69 = .ok (.iadd, 1) := by decide +kernel
theorem dX10_total_70 : decode cX10_total 70 = .ok (.istore_n 2, 1) := by decide +kernel
theorem dX10_total_71 : decode cX10_total 71 = .ok (.iinc 3 1, 3) := by decide +kernel
theorem dX10_total_74 : decode cX10_total 74 = .ok (.iinc 4 1, 3) := by decide +kernel
theorem dX10_total_77 : decode cX10_total 77 = .ok (.goto (-70), 3) := by decide +kernel
theorem dX10_total_80 : decode cX10_total 80 = .ok (.iload_n 2, 1) := by decide +kernel
theorem dX10_total_81 : decode cX10_total 81 = .ok (.ireturn, 1) := by decide +kernel
theorem dX10_count_0 : decode cX10_count 0 = .ok (.aload_n 1, 1) := by decide +kernel
theorem dX10_count_1 : decode cX10_count 1 = .ok (.getfield 82, 3) := by decide +kernel
theorem dX10_count_4 : decode cX10_count 4 = .ok (.aload_n 1, 1) := by decide +kernel
theorem dX10_count_5 : decode cX10_count 5 = .ok (.getfield 39, 3) := by decide +kernel
theorem dX10_count_8 : decode cX10_count 8 = .ok (.iaload, 1) := by decide +kernel
theorem dX10_count_9 : decode cX10_count 9 = .ok (.aload_n 0, 1) := by decide +kernel
theorem dX10_count_10 : decode cX10_count 10 = .ok (.aload_n 1, 1) := by decide +kernel
theorem dX10_count_11 : decode cX10_count 11 = .ok (.iload_n 2, 1) := by decide +kernel
theorem dX10_count_12 : decode cX10_count 12 = .ok (.invokevirtual 85, 3) := by decide +kernel
theorem dX10_count_15 : decode cX10_count 15 = .ok (.invokevirtual 88, 3) := by decide +kernel
theorem dX10_count_18 : decode cX10_count 18 = .ok (.iadd, 1) := by decide +kernel
theorem dX10_count_19 : decode cX10_count 19 = .ok (.ireturn, 1) := by decide +kernel
theorem dX10_room_0 : decode cX10_room 0 = .ok (.aload_n 1, 1) := by decide +kernel
theorem dX10_room_1 : decode cX10_room 1 = .ok (.getfield 91, 3) := by decide +kernel
theorem dX10_room_4 : decode cX10_room 4 = .ok (.aload_n 1, 1) := by decide +kernel
theorem dX10_room_5 : decode cX10_room 5 = .ok (.getfield 39, 3) := by decide +kernel
theorem dX10_room_8 : decode cX10_room 8 = .ok (.iaload, 1) := by decide +kernel
theorem dX10_room_9 : decode cX10_room 9 = .ok (.aload_n 0, 1) := by decide +kernel
theorem dX10_room_10 : decode cX10_room 10 = .ok (.aload_n 1, 1) := by decide +kernel
theorem dX10_room_11 : decode cX10_room 11 = .ok (.aload_n 1, 1) := by decide +kernel
theorem dX10_room_12 : decode cX10_room 12 = .ok (.getfield 94, 3) := by decide +kernel
theorem dX10_room_15 : decode cX10_room 15 = .ok (.invokevirtual 97, 3) := by decide +kernel
theorem dX10_room_18 : decode cX10_room 18 = .ok (.isub, 1) := by decide +kernel
theorem dX10_room_19 : decode cX10_room 19 = .ok (.ireturn, 1) := by decide +kernel
theorem dX10_saved_0 : decode cX10_saved 0 = .ok (.aload_n 1, 1) := by decide +kernel
theorem dX10_saved_1 : decode cX10_saved 1 = .ok (.iload_n 2, 1) := by decide +kernel
theorem dX10_saved_2 : decode cX10_saved 2 = .ok (.invokevirtual 101, 3) := by decide +kernel
theorem dX10_saved_5 : decode cX10_saved 5 = .ok (.astore 4, 2) := by decide +kernel
theorem dX10_saved_7 : decode cX10_saved 7 = .ok (.aload 4, 2) := by decide +kernel
theorem dX10_saved_9 : decode cX10_saved 9 = .ok (.ifnonnull 5, 3) := by decide +kernel
theorem dX10_saved_12 : decode cX10_saved 12 = .ok (.iconst 0, 1) := by decide +kernel
theorem dX10_saved_13 : decode cX10_saved 13 = .ok (.ireturn, 1) := by decide +kernel
theorem dX10_saved_14 : decode cX10_saved 14 = .ok (.aload_n 0, 1) := by decide +kernel
theorem dX10_saved_15 : decode cX10_saved 15 = .ok (.aload_n 1, 1) := by decide +kernel
theorem dX10_saved_16 : decode cX10_saved 16 = .ok (.iload_n 3, 1) := by decide +kernel
theorem dX10_saved_17 : decode cX10_saved 17 = .ok (.invokevirtual 97, 3) := by decide +kernel
theorem dX10_saved_20 : decode cX10_saved 20 = .ok (.istore 5, 2) := by decide +kernel
theorem dX10_saved_22 : decode cX10_saved 22 = .ok (.aload_n 0, 1) := by decide +kernel
theorem dX10_saved_23 : decode cX10_saved 23 = .ok (.getfield 21, 3) := by decide +kernel
theorem dX10_saved_26 : decode cX10_saved 26 = .ok (.iload_n 2, 1) := by decide +kernel
theorem dX10_saved_27 : decode cX10_saved 27 = .ok (.iconst 1, 1) := by decide +kernel
theorem dX10_saved_28 : decode cX10_saved 28 = .ok (.bastore, 1) := by decide +kernel
theorem dX10_saved_29 : decode cX10_saved 29 = .ok (.aload_n 0, 1) := by decide +kernel
theorem dX10_saved_30 : decode cX10_saved 30 = .ok (.aload_n 1, 1) := by decide +kernel
theorem dX10_saved_31 : decode cX10_saved 31 = .ok (.iload_n 3, 1) := by decide +kernel
theorem dX10_saved_32 : decode cX10_saved 32 = .ok (.invokevirtual 97, 3) := by decide +kernel
theorem dX10_saved_35 : decode cX10_saved 35 = .ok (.aload_n 1, 1) := by decide +kernel
theorem dX10_saved_36 : decode cX10_saved 36 = .ok (.aload 4, 2) := by decide +kernel
theorem dX10_saved_38 : decode cX10_saved 38 = .ok (.iload_n 3, 1) := by decide +kernel
theorem dX10_saved_39 : decode cX10_saved 39 = .ok (.invokevirtual 105, 3) := by decide +kernel
theorem dX10_saved_42 : decode cX10_saved 42 = .ok (.iadd, 1) := by decide +kernel
theorem dX10_saved_43 : decode cX10_saved 43 = .ok (.istore 6, 2) := by decide +kernel
theorem dX10_saved_45 : decode cX10_saved 45 = .ok (.aload_n 0, 1) := by decide +kernel
theorem dX10_saved_46 : decode cX10_saved 46 = .ok (.getfield 21, 3) := by decide +kernel
theorem dX10_saved_49 : decode cX10_saved 49 = .ok (.iload_n 2, 1) := by decide +kernel
theorem dX10_saved_50 : decode cX10_saved 50 = .ok (.iconst 0, 1) := by decide +kernel
theorem dX10_saved_51 : decode cX10_saved 51 = .ok (.bastore, 1) := by decide +kernel
theorem dX10_saved_52 : decode cX10_saved 52 = .ok (.iload 5, 2) := by decide +kernel
theorem dX10_saved_54 : decode cX10_saved 54 = .ok (.iload 6, 2) := by decide +kernel
theorem dX10_saved_56 : decode cX10_saved 56 = .ok (.isub, 1) := by decide +kernel
theorem dX10_saved_57 : decode cX10_saved 57 = .ok (.ireturn, 1) := by decide +kernel
