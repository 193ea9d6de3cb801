theorem dX0_init_0 : decode cX0_init 0 = .ok (.aload_n 0, 1) := by decide +kernel
theorem dX0_init_1 : decode cX0_init 1 = .ok (.invokespecial 3, 3) := by decide +kernel
theorem dX0_init_4 : decode cX0_init 4 = .ok (.aload_n 0, 1) := by decide +kernel
theorem dX0_init_5 : decode cX0_init 5 = .ok (.bipush 20, 2) := by decide +kernel
theorem dX0_init_7 : decode cX0_init 7 = .ok (.newarray .int, 2) := by decide +kernel
theorem dX0_init_9 : decode cX0_init 9 = .ok (.putfield 11, 3) := by decide +kernel
theorem dX0_init_12 : decode cX0_init 12 = .ok (.aload_n 0, 1) := by decide +kernel
theorem dX0_init_13 : decode cX0_init 13 = .ok (.bipush 20, 2) := by decide +kernel
theorem dX0_init_15 : decode cX0_init 15 = .ok (.newarray .int, 2) := by decide +kernel
theorem dX0_init_17 : decode cX0_init 17 = .ok (.putfield 15, 3) := by decide +kernel
theorem dX0_init_20 : decode cX0_init 20 = .ok (.aload_n 0, 1) := by decide +kernel
theorem dX0_init_21 : decode cX0_init 21 = .ok (.bipush 20, 2) := by decide +kernel
theorem dX0_init_23 : decode cX0_init 23 = .ok (.newarray .int, 2) := by decide +kernel
theorem dX0_init_25 : decode cX0_init 25 = .ok (.putfield 18, 3) := by decide +kernel
theorem dX0_init_28 : decode cX0_init 28 = .ok (.return_, 1) := by decide +kernel
theorem dX0_read_0 : decode cX0_read 0 = .ok (.aload_n 0, 1) := by decide +kernel
theorem dX0_read_1 : decode cX0_read 1 = .ok (.iconst 0, 1) := by decide +kernel
theorem dX0_read_2 : decode cX0_read 2 = .ok (.putfield 21, 3) := by decide +kernel
theorem dX0_read_5 : decode cX0_read 5 = .ok (.iconst 0, 1) := by decide +kernel
theorem dX0_read_6 : decode cX0_read 6 = .ok (.istore_n 2, 1) := by decide +kernel
theorem dX0_read_7 : decode cX0_read 7 = .ok (.iload_n 2, 1) := by decide +kernel
theorem dX0_read_8 : decode cX0_read 8 = .ok (.bipush 20, 2) := by decide +kernel
theorem dX0_read_10 : decode cX0_read 10 = .ok (.if_icmp .ge 38, 3) := by decide +kernel
theorem dX0_read_13 : decode cX0_read 13 = .ok (.aload_n 1, 1) := by decide +kernel
theorem dX0_read_14 : decode cX0_read 14 = .ok (.invokevirtual 25, 3) := by decide +kernel
theorem dX0_read_17 : decode cX0_read 17 = .ok (.ifCond .eq 31, 3) := by decide +kernel
theorem dX0_read_20 : decode cX0_read 20 = .ok (.aload_n 0, 1) := by decide +kernel
theorem dX0_read_21 : decode cX0_read 21 = .ok (.aload_n 1, 1) := by decide +kernel
theorem dX0_read_22 : decode cX0_read 22 = .ok (.iload_n 2, 1) := by decide +kernel
theorem dX0_read_23 : decode cX0_read 23 = .ok (.invokevirtual 31, 3) := by decide +kernel
theorem dX0_read_26 : decode cX0_read 26 = .ok (.aload_n 1, 1) := by decide +kernel
theorem dX0_read_27 : decode cX0_read 27 = .ok (.bipush 59, 2) := by decide +kernel
theorem dX0_read_29 : decode cX0_read 29 = .ok (.invokevirtual 35, 3) := by decide +kernel
theorem dX0_read_32 : decode cX0_read 32 = .ok (.aload_n 0, 1) := by decide +kernel
theorem dX0_read_33 : decode cX0_read 33 = .ok (.dup, 1) := by decide +kernel
theorem dX0_read_34 : decode cX0_read 34 = .ok (.getfield 21, 3) := by decide +kernel
theorem dX0_read_37 : decode cX0_read 37 = .ok (.iconst 1, 1) := by decide +kernel
theorem dX0_read_38 : decode cX0_read 38 = .ok (.iadd, 1) := by decide +kernel
theorem dX0_read_39 : decode cX0_read 39 = .ok (.putfield 21, 3) := by decide +kernel
theorem dX0_read_42 : decode cX0_read 42 = .ok (.iinc 2 1, 3) := by decide +kernel
theorem dX0_read_45 : decode cX0_read 45 = .ok (.goto (-38), 3) := by decide +kernel
theorem dX0_read_48 : decode cX0_read 48 = .ok (.aload_n 1, 1) := by decide +kernel
theorem dX0_read_49 : decode cX0_read 49 = .ok (.invokevirtual 25, 3) := by decide +kernel
theorem dX0_read_52 : decode cX0_read 52 = .ok (.ifCond .eq 11, 3) := by decide +kernel
theorem dX0_read_55 : decode cX0_read 55 = .ok (.aload_n 1, 1) := by decide +kernel
theorem dX0_read_56 : decode cX0_read 56 = .ok (.aload_n 1, 1) := by decide +kernel
theorem dX0_read_57 : decode cX0_read 57 = .ok (.getfield 39, 3) := by decide +kernel
theorem dX0_read_60 : decode cX0_read 60 = .ok (.invokevirtual 42, 3) := by decide +kernel
theorem dX0_read_63 : decode cX0_read 63 = .ok (.return_, 1) := by decide +kernel
theorem dX0_readAct_0 : decode cX0_readAct 0 = .ok (.aload_n 1, 1) := by decide +kernel
theorem dX0_readAct_1 : decode cX0_readAct 1 = .ok (.invokevirtual 45, 3) := by decide +kernel
theorem dX0_readAct_4 : decode cX0_readAct 4 = .ok (.istore_n 3, 1) := by decide +kernel
theorem dX0_readAct_5 : decode cX0_readAct 5 = .ok (.aload_n 0, 1) := by decide +kernel
theorem dX0_readAct_6 : decode cX0_readAct 6 = .ok (.getfield 11, 3) := by decide +kernel
theorem dX0_readAct_9 : decode cX0_readAct 9 = .ok (.iload_n 2, 1) := by decide +kernel
theorem dX0_readAct_10 : decode cX0_readAct 10 = .ok (.iload_n 3, 1) := by decide +kernel
theorem dX0_readAct_11 : decode cX0_readAct 11 = .ok (.iastore, 1) := by decide +kernel
theorem dX0_readAct_12 : decode cX0_readAct 12 = .ok (.aload_n 0, 1) := by decide +kernel
theorem dX0_readAct_13 : decode cX0_readAct 13 = .ok (.getfield 15, 3) := by decide +kernel
theorem dX0_readAct_16 : decode cX0_readAct 16 = .ok (.iload_n 2, 1) := by decide +kernel
theorem dX0_readAct_17 : decode cX0_readAct 17 = .ok (.iconst 0, 1) := by decide +kernel
theorem dX0_readAct_18 : decode cX0_readAct 18 = .ok (.iastore, 1) := by decide +kernel
theorem dX0_readAct_19 : decode cX0_readAct 19 = .ok (.aload_n 0, 1) := by decide +kernel
theorem dX0_readAct_20 : decode cX0_readAct 20 = .ok (.getfield 18, 3) := by decide +kernel
theorem dX0_readAct_23 : decode cX0_readAct 23 = .ok (.iload_n 2, 1) := by decide +kernel
theorem dX0_readAct_24 : decode cX0_readAct 24 = .ok (.iconst 0, 1) := by decide +kernel
theorem dX0_readAct_25 : decode cX0_readAct 25 = .ok (.iastore, 1) := by decide +kernel
theorem dX0_readAct_26 : decode cX0_readAct 26 = .ok (.iload_n 3, 1) := by decide +kernel
theorem dX0_readAct_27 : decode cX0_readAct 27 = .ok (.lookupswitch 101 #[(100, 41), (116, 61), (120, 41), (121, 94)], 41) := by decide +kernel
theorem dX0_readAct_68 : decode cX0_readAct 68 = .ok (.aload_n 1, 1) := by decide +kernel
theorem dX0_readAct_69 : decode cX0_readAct 69 = .ok (.invokevirtual 49, 3) := by decide +kernel
theorem dX0_readAct_72 : decode cX0_readAct 72 = .ok (.aload_n 0, 1) := by decide +kernel
theorem dX0_readAct_73 : decode cX0_readAct 73 = .ok (.getfield 15, 3) := by decide +kernel
theorem dX0_readAct_76 : decode cX0_readAct 76 = .ok (.iload_n 2, 1) := by decide +kernel
theorem dX0_readAct_77 : decode cX0_readAct 77 = .ok (.aload_n 1, 1) := by decide +kernel
theorem dX0_readAct_78 : decode cX0_readAct 78 = .ok (.iconst 0, 1) := by decide +kernel
theorem dX0_readAct_79 : decode cX0_readAct 79 = .ok (.ldc 52, 2) := by decide +kernel
theorem dX0_readAct_81 : decode cX0_readAct 81 = .ok (.invokevirtual 53, 3) := by decide +kernel
theorem dX0_readAct_84 : decode cX0_readAct 84 = .ok (.iastore, 1) := by decide +kernel
theorem dX0_readAct_85 : decode cX0_readAct 85 = .ok (.goto 51, 3) := by decide +kernel
theorem dX0_readAct_88 : decode cX0_readAct 88 = .ok (.aload_n 1, 1) := by decide +kernel
theorem dX0_readAct_89 : decode cX0_readAct 89 = .ok (.invokevirtual 49, 3) := by decide +kernel
theorem dX0_readAct_92 : decode cX0_readAct 92 = .ok (.aload_n 0, 1) := by decide +kernel
theorem dX0_readAct_93 : decode cX0_readAct 93 = .ok (.getfield 15, 3) := by decide +kernel
theorem dX0_readAct_96 : decode cX0_readAct 96 = .ok (.iload_n 2, 1) := by decide +kernel
theorem dX0_readAct_97 : decode cX0_readAct 97 = .ok (.aload_n 1, 1) := by decide +kernel
theorem dX0_readAct_98 : decode cX0_readAct 98 = .ok (.iconst 0, 1) := by decide +kernel
theorem dX0_readAct_99 : decode cX0_readAct 99 = .ok (.ldc 52, 2) := by decide +kernel
theorem dX0_readAct_101 : decode cX0_readAct 101 = .ok (.invokevirtual 57, 3) := by decide +kernel
theorem dX0_readAct_104 : decode cX0_readAct 104 = .ok (.iastore, 1) := by decide +kernel
theorem dX0_readAct_105 : decode cX0_readAct 105 = .ok (.aload_n 0, 1) := by decide +kernel
theorem dX0_readAct_106 : decode cX0_readAct 106 = .ok (.getfield 18, 3) := by decide +kernel
theorem dX0_readAct_109 : decode cX0_readAct 109 = .ok (.iload_n 2, 1) := by decide +kernel
theorem dX0_readAct_110 : decode cX0_readAct 110 = .ok (.aload_n 1, 1) := by decide +kernel
theorem dX0_readAct_111 : decode cX0_readAct 111 = .ok (.iconst 0, 1) := by decide +kernel
theorem dX0_readAct_112 : decode cX0_readAct 112 = .ok (.ldc 52, 2) := by decide +kernel
theorem dX0_readAct_114 : decode cX0_readAct 114 = .ok (.invokevirtual 53, 3) := by decide +kernel
theorem dX0_readAct_117 : decode cX0_readAct 117 = .ok (.iastore, 1) := by decide +kernel
theorem dX0_readAct_118 : decode cX0_readAct 118 = .ok (.goto 18, 3) := by decide +kernel
theorem dX0_readAct_121 : decode cX0_readAct 121 = .ok (.aload_n 1, 1) := by decide +kernel
theorem dX0_readAct_122 : decode cX0_readAct 122 = .ok (.invokevirtual 49, 3) := by decide +kernel
theorem dX0_readAct_125 : decode cX0_readAct 125 = .ok (.goto 11, 3) := by decide +kernel
theorem dX0_readAct_128 : decode cX0_readAct 128 = .ok (.aload_n 1, 1) := by decide +kernel
theorem dX0_readAct_129 : decode cX0_readAct 129 = .ok (.aload_n 1, 1) := by decide +kernel
theorem dX0_readAct_130 : decode cX0_readAct 130 = .ok (.getfield 39, 3) := by decide +kernel
theorem dX0_readAct_133 : decode cX0_readAct 133 = .ok (.invokevirtual 42, 3) := by decide +kernel
theorem dX0_readAct_136 : decode cX0_readAct 136 = .ok (.return_, 1) := by decide +kernel
theorem dX1_init_0 : decode cX1_init 0 = .ok (.aload_n 0, 1) := by decide +kernel
theorem dX1_init_1 : decode cX1_init 1 = .ok (.invokespecial 3, 3) := by decide +kernel
theorem dX1_init_4 : decode cX1_init 4 = .ok (.aload_n 0, 1) := by decide +kernel
theorem dX1_init_5 : decode cX1_init 5 = .ok (.sipush 150, 3) := by decide +kernel
theorem dX1_init_8 : decode cX1_init 8 = .ok (.putfield 9, 3) := by decide +kernel
theorem dX1_init_11 : decode cX1_init 11 = .ok (.aload_n 0, 1) := by decide +kernel
theorem dX1_init_12 : decode cX1_init 12 = .ok (.bipush 20, 2) := by decide +kernel
theorem dX1_init_14 : decode cX1_init 14 = .ok (.putfield 15, 3) := by decide +kernel
theorem dX1_init_17 : decode cX1_init 17 = .ok (.aload_n 0, 1) := by decide +kernel
theorem dX1_init_18 : decode cX1_init 18 = .ok (.sipush 200, 3) := by decide +kernel
theorem dX1_init_21 : decode cX1_init 21 = .ok (.putfield 18, 3) := by decide +kernel
theorem dX1_init_24 : decode cX1_init 24 = .ok (.aload_n 0, 1) := by decide +kernel
theorem dX1_init_25 : decode cX1_init 25 = .ok (.bipush 20, 2) := by decide +kernel
theorem dX1_init_27 : decode cX1_init 27 = .ok (.putfield 21, 3) := by decide +kernel
theorem dX1_init_30 : decode cX1_init 30 = .ok (.aload_n 0, 1) := by decide +kernel
theorem dX1_init_31 : decode cX1_init 31 = .ok (.bipush 100, 2) := by decide +kernel
theorem dX1_init_33 : decode cX1_init 33 = .ok (.putfield 24, 3) := by decide +kernel
theorem dX1_init_36 : decode cX1_init 36 = .ok (.aload_n 0, 1) := by decide +kernel
theorem dX1_init_37 : decode cX1_init 37 = .ok (.bipush 20, 2) := by decide +kernel
theorem dX1_init_39 : decode cX1_init 39 = .ok (.newarray .int, 2) := by decide +kernel
theorem dX1_init_41 : decode cX1_init 41 = .ok (.putfield 27, 3) := by decide +kernel
theorem dX1_init_44 : decode cX1_init 44 = .ok (.aload_n 0, 1) := by decide +kernel
theorem dX1_init_45 : decode cX1_init 45 = .ok (.bipush 20, 2) := by decide +kernel
theorem dX1_init_47 : decode cX1_init 47 = .ok (.newarray .int, 2) := by decide +kernel
theorem dX1_init_49 : decode cX1_init 49 = .ok (.putfield 31, 3) := by decide +kernel
theorem dX1_init_52 : decode cX1_init 52 = .ok (.aload_n 0, 1) := by decide +kernel
theorem dX1_init_53 : decode cX1_init 53 = .ok (.bipush 40, 2) := by decide +kernel
theorem dX1_init_55 : decode cX1_init 55 = .ok (.anewarray 34, 3) := by decide +kernel
theorem dX1_init_58 : decode cX1_init 58 = .ok (.putfield 36, 3) := by decide +kernel
theorem dX1_init_61 : decode cX1_init 61 = .ok (.aload_n 0, 1) := by decide +kernel
theorem dX1_init_62 : decode cX1_init 62 = .ok (.new 40, 3) := by decide +kernel
theorem dX1_init_65 : decode cX1_init 65 = .ok (.dup, 1) := by decide +kernel
theorem dX1_init_66 : decode cX1_init 66 = .ok (.invokespecial 42, 3) := by decide +kernel
theorem dX1_init_69 : decode cX1_init 69 = .ok (.putfield 43, 3) := by decide +kernel
theorem dX1_init_72 : decode cX1_init 72 = .ok (.aload_n 0, 1) := by decide +kernel
theorem dX1_init_73 : decode cX1_init 73 = .ok (.new 47, 3) := by decide +kernel
theorem dX1_init_76 : decode cX1_init 76 = .ok (.dup, 1) := by decide +kernel
theorem dX1_init_77 : decode cX1_init 77 = .ok (.invokespecial 49, 3) := by decide +kernel
theorem dX1_init_80 : decode cX1_init 80 = .ok (.putfield 50, 3) := by decide +kernel
theorem dX1_init_83 : decode cX1_init 83 = .ok (.aload_n 0, 1) := by decide +kernel
theorem dX1_init_84 : decode cX1_init 84 = .ok (.new 54, 3) := by decide +kernel
theorem dX1_init_87 : decode cX1_init 87 = .ok (.dup, 1) := by decide +kernel
theorem dX1_init_88 : decode cX1_init 88 = .ok (.invokespecial 56, 3) := by decide +kernel
theorem dX1_init_91 : decode cX1_init 91 = .ok (.putfield 57, 3) := by decide +kernel
theorem dX1_init_94 : decode cX1_init 94 = .ok (.iconst 0, 1) := by decide +kernel
theorem dX1_init_95 : decode cX1_init 95 = .ok (.istore_n 1, 1) := by decide +kernel
theorem dX1_init_96 : decode cX1_init 96 = .ok (.iload_n 1, 1) := by decide +kernel
theorem dX1_init_97 : decode cX1_init 97 = .ok (.bipush 20, 2) := by decide +kernel
theorem dX1_init_99 : decode cX1_init 99 = .ok (.if_icmp .ge 17, 3) := by decide +kernel
theorem dX1_init_102 : decode cX1_init 102 = .ok (.aload_n 0, 1) := by decide +kernel
theorem dX1_init_103 : decode cX1_init 103 = .ok (.getfield 27, 3) := by decide +kernel
theorem dX1_init_106 : decode cX1_init 106 = .ok (.iload_n 1, 1) := by decide +kernel
theorem dX1_init_107 : decode cX1_init 107 = .ok (.ldc 61, 2) := by decide +kernel
theorem dX1_init_109 : decode cX1_init 109 = .ok (.iastore, 1) := by decide +kernel
theorem dX1_init_110 : decode cX1_init 110 = .ok (.iinc 1 1, 3) := by decide +kernel
theorem dX1_init_113 : decode cX1_init 113 = .ok (.goto (-17), 3) := by decide +kernel
theorem dX1_init_116 : decode cX1_init 116 = .ok (.iconst 0, 1) := by decide +kernel
theorem dX1_init_117 : decode cX1_init 117 = .ok (.istore_n 1, 1) := by decide +kernel
theorem dX1_init_118 : decode cX1_init 118 = .ok (.iload_n 1, 1) := by decide +kernel
theorem dX1_init_119 : decode cX1_init 119 = .ok (.bipush 40, 2) := by decide +kernel
theorem dX1_init_121 : decode cX1_init 121 = .ok (.if_icmp .ge 22, 3) := by decide +kernel
theorem dX1_init_124 : decode cX1_init 124 = .ok (.aload_n 0, 1) := by decide +kernel
theorem dX1_init_125 : decode cX1_init 125 = .ok (.getfield 36, 3) := by decide +kernel
theorem dX1_init_128 : decode cX1_init 128 = .ok (.iload_n 1, 1) := by decide +kernel
theorem dX1_init_129 : decode cX1_init 129 = .ok (.new 34, 3) := by decide +kernel
theorem dX1_init_132 : decode cX1_init 132 = .ok (.dup, 1) := by decide +kernel
theorem dX1_init_133 : decode cX1_init 133 = .ok (.invokespecial 62, 3) := by decide +kernel
theorem dX1_init_136 : decode cX1_init 136 = .ok (.aastore, 1) := by decide +kernel
theorem dX1_init_137 : decode cX1_init 137 = .ok (.iinc 1 1, 3) := by decide +kernel
theorem dX1_init_140 : decode cX1_init 140 = .ok (.goto (-22), 3) := by decide +kernel
theorem dX1_init_143 : decode cX1_init 143 = .ok (.return_, 1) := by decide +kernel
theorem dX1_copyFrom_0 : decode cX1_copyFrom 0 = .ok (.aload_n 0, 1) := by decide +kernel
theorem dX1_copyFrom_1 : decode cX1_copyFrom 1 = .ok (.aload_n 1, 1) := by decide +kernel
theorem dX1_copyFrom_2 : decode cX1_copyFrom 2 = .ok (.getfield 63, 3) := by decide +kernel
theorem dX1_copyFrom_5 : decode cX1_copyFrom 5 = .ok (.putfield 63, 3) := by decide +kernel
theorem dX1_copyFrom_8 : decode cX1_copyFrom 8 = .ok (.aload_n 0, 1) := by decide +kernel
theorem dX1_copyFrom_9 : decode cX1_copyFrom 9 = .ok (.aload_n 1, 1) := by decide +kernel
theorem dX1_copyFrom_10 : decode cX1_copyFrom 10 = .ok (.getfield 66, 3) := by decide +kernel
theorem dX1_copyFrom_13 : decode cX1_copyFrom 13 = .ok (.putfield 66, 3) := by decide +kernel
theorem dX1_copyFrom_16 : decode cX1_copyFrom 16 = .ok (.aload_n 0, 1) := by decide +kernel
theorem dX1_copyFrom_17 : decode cX1_copyFrom 17 = .ok (.aload_n 1, 1) := by decide +kernel
theorem dX1_copyFrom_18 : decode cX1_copyFrom 18 = .ok (.getfield 9, 3) := by decide +kernel
theorem dX1_copyFrom_21 : decode cX1_copyFrom 21 = .ok (.putfield 9, 3) := by decide +kernel
theorem dX1_copyFrom_24 : decode cX1_copyFrom 24 = .ok (.aload_n 0, 1) := by decide +kernel
theorem dX1_copyFrom_25 : decode cX1_copyFrom 25 = .ok (.aload_n 1, 1) := by decide +kernel
theorem dX1_copyFrom_26 : decode cX1_copyFrom 26 = .ok (.getfield 15, 3) := by decide +kernel
theorem dX1_copyFrom_29 : decode cX1_copyFrom 29 = .ok (.putfield 15, 3) := by decide +kernel
theorem dX1_copyFrom_32 : decode cX1_copyFrom 32 = .ok (.aload_n 0, 1) := by decide +kernel
theorem dX1_copyFrom_33 : decode cX1_copyFrom 33 = .ok (.aload_n 1, 1) := by decide +kernel
theorem dX1_copyFrom_34 : decode cX1_copyFrom 34 = .ok (.getfield 18, 3) := by decide +kernel
theorem dX1_copyFrom_37 : decode cX1_copyFrom 37 = .ok (.putfield 18, 3) := by decide +kernel
theorem dX1_copyFrom_40 : decode cX1_copyFrom 40 = .ok (.aload_n 0, 1) := by decide +kernel
theorem dX1_copyFrom_41 : decode cX1_copyFrom 41 = .ok (.aload_n 1, 1) := by decide +kernel
theorem dX1_copyFrom_42 : decode cX1_copyFrom 42 = .ok (.getfield 21, 3) := by decide +kernel
theorem dX1_copyFrom_45 : decode cX1_copyFrom 45 = .ok (.putfield 21, 3) := by decide +kernel
theorem dX1_copyFrom_48 : decode cX1_copyFrom 48 = .ok (.aload_n 0, 1) := by decide +kernel
theorem dX1_copyFrom_49 : decode cX1_copyFrom 49 = .ok (.aload_n 1, 1) := by decide +kernel
theorem dX1_copyFrom_50 : decode cX1_copyFrom 50 = .ok (.getfield 24, 3) := by decide +kernel
theorem dX1_copyFrom_53 : decode cX1_copyFrom 53 = .ok (.putfield 24, 3) := by decide +kernel
theorem dX1_copyFrom_56 : decode cX1_copyFrom 56 = .ok (.aload_n 1, 1) := by decide +kernel
theorem dX1_copyFrom_57 : decode cX1_copyFrom 57 = .ok (.getfield 27, 3) := by decide +kernel
theorem dX1_copyFrom_60 : decode cX1_copyFrom 60 = .ok (.iconst 0, 1) := by decide +kernel
theorem dX1_copyFrom_61 : decode cX1_copyFrom 61 = .ok (.aload_n 0, 1) := by decide +kernel
theorem dX1_copyFrom_62 : decode cX1_copyFrom 62 = .ok (.getfield 27, 3) := by decide +kernel
theorem dX1_copyFrom_65 : decode cX1_copyFrom 65 = .ok (.iconst 0, 1) := by decide +kernel
theorem dX1_copyFrom_66 : decode cX1_copyFrom 66 = .ok (.bipush 20, 2) := by decide +kernel
theorem dX1_copyFrom_68 : decode cX1_copyFrom 68 = .ok (.invokestatic 69, 3) := by decide +kernel
theorem dX1_copyFrom_71 : decode cX1_copyFrom 71 = .ok (.aload_n 1, 1) := by decide +kernel
theorem dX1_copyFrom_72 : decode cX1_copyFrom 72 = .ok (.getfield 31, 3) := by decide +kernel
theorem dX1_copyFrom_75 : decode cX1_copyFrom 75 = .ok (.iconst 0, 1) := by decide +kernel
theorem dX1_copyFrom_76 : decode cX1_copyFrom 76 = .ok (.aload_n 0, 1) := by decide +kernel
theorem dX1_copyFrom_77 : decode cX1_copyFrom 77 = .ok (.getfield 31, 3) := by decide +kernel
theorem dX1_copyFrom_80 : decode cX1_copyFrom 80 = .ok (.iconst 0, 1) := by decide +kernel
theorem dX1_copyFrom_81 : decode cX1_copyFrom 81 = .ok (.bipush 20, 2) := by decide +kernel
theorem dX1_copyFrom_83 : decode cX1_copyFrom 83 = .ok (.invokestatic 69, 3) := by decide +kernel
theorem dX1_copyFrom_86 : decode cX1_copyFrom 86 = .ok (.aload_n 0, 1) := by decide +kernel
theorem dX1_copyFrom_87 : decode cX1_copyFrom 87 = .ok (.aload_n 1, 1) := by decide +kernel
theorem dX1_copyFrom_88 : decode cX1_copyFrom 88 = .ok (.getfield 75, 3) := by decide +kernel
theorem dX1_copyFrom_91 : decode cX1_copyFrom 91 = .ok (.putfield 75, 3) := by decide +kernel
theorem dX1_copyFrom_94 : decode cX1_copyFrom 94 = .ok (.iconst 0, 1) := by decide +kernel
theorem dX1_copyFrom_95 : decode cX1_copyFrom 95 = .ok (.istore_n 2, 1) := by decide +kernel
theorem dX1_copyFrom_96 : decode cX1_copyFrom 96 = .ok (.iload_n 2, 1) := by decide +kernel
theorem dX1_copyFrom_97 : decode cX1_copyFrom 97 = .ok (.aload_n 0, 1) := by decide +kernel
theorem dX1_copyFrom_98 : decode cX1_copyFrom 98 = .ok (.getfield 75, 3) := by decide +kernel
theorem dX1_copyFrom_101 : decode cX1_copyFrom 101 = .ok (.if_icmp .ge 24, 3) := by decide +kernel
theorem dX1_copyFrom_104 : decode cX1_copyFrom 104 = .ok (.aload_n 0, 1) := by decide +kernel
theorem dX1_copyFrom_105 : decode cX1_copyFrom 105 = .ok (.getfield 36, 3) := by decide +kernel
theorem dX1_copyFrom_108 : decode cX1_copyFrom 108 = .ok (.iload_n 2, 1) := by decide +kernel
theorem dX1_copyFrom_109 : decode cX1_copyFrom 109 = .ok (.aaload, 1) := by decide +kernel
theorem dX1_copyFrom_110 : decode cX1_copyFrom 110 = .ok (.aload_n 1, 1) := by decide +kernel
theorem dX1_copyFrom_111 : decode cX1_copyFrom 111 = .ok (.getfield 36, 3) := by decide +kernel
theorem dX1_copyFrom_114 : decode cX1_copyFrom 114 = .ok (.iload_n 2, 1) := by decide +kernel
theorem dX1_copyFrom_115 : decode cX1_copyFrom 115 = .ok (.aaload, 1) := by decide +kernel
theorem dX1_copyFrom_116 : decode cX1_copyFrom 116 = .ok (.invokevirtual 78, 3) := by decide +kernel
theorem dX1_copyFrom_119 : decode cX1_copyFrom 119 = .ok (.iinc 2 1, 3) := by decide +kernel
theorem dX1_copyFrom_122 : decode cX1_copyFrom 122 = .ok (.goto (-26), 3) := by decide +kernel
theorem dX1_copyFrom_125 : decode cX1_copyFrom 125 = .ok (.aload_n 0, 1) := by decide +kernel
theorem dX1_copyFrom_126 : decode cX1_copyFrom 126 = .ok (.getfield 43, 3) := by decide +kernel
theorem dX1_copyFrom_129 : decode cX1_copyFrom 129 = .ok (.aload_n 1, 1) := by decide +kernel
theorem dX1_copyFrom_130 : decode cX1_copyFrom 130 = .ok (.getfield 43, 3) := by decide +kernel
theorem dX1_copyFrom_133 : decode cX1_copyFrom 133 = .ok (.invokevirtual 82, 3) := by decide +kernel
theorem dX1_copyFrom_136 : decode cX1_copyFrom 136 = .ok (.aload_n 0, 1) := by decide +kernel
theorem dX1_copyFrom_137 : decode cX1_copyFrom 137 = .ok (.getfield 50, 3) := by decide +kernel
theorem dX1_copyFrom_140 : decode cX1_copyFrom 140 = .ok (.aload_n 1, 1) := by decide +kernel
theorem dX1_copyFrom_141 : decode cX1_copyFrom 141 = .ok (.getfield 50, 3) := by decide +kernel
theorem dX1_copyFrom_144 : decode cX1_copyFrom 144 = .ok (.invokevirtual 85, 3) := by decide +kernel
theorem dX1_copyFrom_147 : decode cX1_copyFrom 147 = .ok (.aload_n 0, 1) := by decide +kernel
theorem dX1_copyFrom_148 : decode cX1_copyFrom 148 = .ok (.getfield 57, 3) := by decide +kernel
theorem dX1_copyFrom_151 : decode cX1_copyFrom 151 = .ok (.aload_n 1, 1) := by decide +kernel
theorem dX1_copyFrom_152 : decode cX1_copyFrom 152 = .ok (.getfield 57, 3) := by decide +kernel
theorem dX1_copyFrom_155 : decode cX1_copyFrom 155 = .ok (.invokevirtual 88, 3) := by decide +kernel
theorem dX1_copyFrom_158 : decode cX1_copyFrom 158 = .ok (.return_, 1) := by decide +kernel
theorem dX1_find_0 : decode cX1_find 0 = .ok (.iload_n 1, 1) := by decide +kernel
theorem dX1_find_1 : decode cX1_find 1 = .ok (.ifCond .lt 20, 3) := by decide +kernel
theorem dX1_find_4 : decode cX1_find 4 = .ok (.iload_n 1, 1) := by decide +kernel
theorem dX1_find_5 : decode cX1_find 5 = .ok (.aload_n 0, 1) := by decide +kernel
theorem dX1_find_6 : decode cX1_find 6 = .ok (.getfield 75, 3) := by decide +kernel
theorem dX1_find_9 : decode cX1_find 9 = .ok (.if_icmp .ge 12, 3) := by decide +kernel
theorem dX1_find_12 : decode cX1_find 12 = .ok (.aload_n 0, 1) := by decide +kernel
theorem dX1_find_13 : decode cX1_find 13 = .ok (.getfield 36, 3) := by decide +kernel
theorem dX1_find_16 : decode cX1_find 16 = .ok (.iload_n 1, 1) := by decide +kernel
theorem dX1_find_17 : decode cX1_find 17 = .ok (.aaload, 1) := by decide +kernel
theorem dX1_find_18 : decode cX1_find 18 = .ok (.goto 4, 3) := by decide +kernel
theorem dX1_find_21 : decode cX1_find 21 = .ok (.aconst_null, 1) := by decide +kernel
theorem dX1_find_22 : decode cX1_find 22 = .ok (.areturn, 1) := by decide +kernel
theorem dX1_findBegun_0 : decode cX1_findBegun 0 = .ok (.aload_n 0, 1) := by decide +kernel
theorem dX1_findBegun_1 : decode cX1_findBegun 1 = .ok (.iload_n 1, 1) := by decide +kernel
theorem dX1_findBegun_2 : decode cX1_findBegun 2 = .ok (.invokevirtual 91, 3) := by decide +kernel
theorem dX1_findBegun_5 : decode cX1_findBegun 5 = .ok (.ifCond .ne 12, 3) := by decide +kernel
theorem dX1_findBegun_8 : decode cX1_findBegun 8 = .ok (.aload_n 0, 1) := by decide +kernel
theorem dX1_findBegun_9 : decode cX1_findBegun 9 = .ok (.getfield 36, 3) := by decide +kernel
theorem dX1_findBegun_12 : decode cX1_findBegun 12 = .ok (.iload_n 1, 1) := by decide +kernel
theorem dX1_findBegun_13 : decode cX1_findBegun 13 = .ok (.aaload, 1) := by decide +kernel
theorem dX1_findBegun_14 : decode cX1_findBegun 14 = .ok (.goto 4, 3) := by decide +kernel
theorem dX1_findBegun_17 : decode cX1_findBegun 17 = .ok (.aconst_null, 1) := by decide +kernel
theorem dX1_findBegun_18 : decode cX1_findBegun 18 = .ok (.areturn, 1) := by decide +kernel
theorem dX1_addContract_0 : decode cX1_addContract 0 = .ok (.aload_n 0, 1) := by decide +kernel
theorem dX1_addContract_1 : decode cX1_addContract 1 = .ok (.getfield 75, 3) := by decide +kernel
theorem dX1_addContract_4 : decode cX1_addContract 4 = .ok (.bipush 40, 2) := by decide +kernel
theorem dX1_addContract_6 : decode cX1_addContract 6 = .ok (.if_icmp .lt 5, 3) := by decide +kernel
theorem dX1_addContract_9 : decode cX1_addContract 9 = .ok (.aconst_null, 1) := by decide +kernel
theorem dX1_addContract_10 : decode cX1_addContract 10 = .ok (.areturn, 1) := by decide +kernel
theorem dX1_addContract_11 : decode cX1_addContract 11 = .ok (.aload_n 0, 1) := by decide +kernel
theorem dX1_addContract_12 : decode cX1_addContract 12 = .ok (.dup, 1) := by decide +kernel
theorem dX1_addContract_13 : decode cX1_addContract 13 = .ok (.getfield 75, 3) := by decide +kernel
theorem dX1_addContract_16 : decode cX1_addContract 16 = .ok (.iconst 1, 1) := by decide +kernel
theorem dX1_addContract_17 : decode cX1_addContract 17 = .ok (.iadd, 1) := by decide +kernel
theorem dX1_addContract_18 : decode cX1_addContract 18 = .ok (.putfield 75, 3) := by decide +kernel
theorem dX1_addContract_21 : decode cX1_addContract 21 = .ok (.aload_n 0, 1) := by decide +kernel
theorem dX1_addContract_22 : decode cX1_addContract 22 = .ok (.getfield 36, 3) := by decide +kernel
theorem dX1_addContract_25 : decode cX1_addContract 25 = .ok (.aload_n 0, 1) := by decide +kernel
theorem dX1_addContract_26 : decode cX1_addContract 26 = .ok (.getfield 75, 3) := by decide +kernel
theorem dX1_addContract_29 : decode cX1_addContract 29 = .ok (.iconst 1, 1) := by decide +kernel
theorem dX1_addContract_30 : decode cX1_addContract 30 = .ok (.isub, 1) := by decide +kernel
theorem dX1_addContract_31 : decode cX1_addContract 31 = .ok (.aaload, 1) := by decide +kernel
theorem dX1_addContract_32 : decode cX1_addContract 32 = .ok (.areturn, 1) := by decide +kernel
theorem dX1_manyThatAre_0 : decode cX1_manyThatAre 0 = .ok (.iconst 0, 1) := by decide +kernel
theorem dX1_manyThatAre_1 : decode cX1_manyThatAre 1 = .ok (.istore_n 2, 1) := by decide +kernel
theorem dX1_manyThatAre_2 : decode cX1_manyThatAre 2 = .ok (.iconst 0, 1) := by decide +kernel
theorem dX1_manyThatAre_3 : decode cX1_manyThatAre 3 = .ok (.istore_n 3, 1) := by decide +kernel
theorem dX1_manyThatAre_4 : decode cX1_manyThatAre 4 = .ok (.iload_n 3, 1) := by decide +kernel
theorem dX1_manyThatAre_5 : decode cX1_manyThatAre 5 = .ok (.aload_n 0, 1) := by decide +kernel
theorem dX1_manyThatAre_6 : decode cX1_manyThatAre 6 = .ok (.getfield 75, 3) := by decide +kernel
theorem dX1_manyThatAre_9 : decode cX1_manyThatAre 9 = .ok (.if_icmp .ge 25, 3) := by decide +kernel
theorem dX1_manyThatAre_12 : decode cX1_manyThatAre 12 = .ok (.aload_n 0, 1) := by decide +kernel
theorem dX1_manyThatAre_13 : decode cX1_manyThatAre 13 = .ok (.getfield 36, 3) := by decide +kernel
theorem dX1_manyThatAre_16 : decode cX1_manyThatAre 16 = .ok (.iload_n 3, 1) := by decide +kernel
theorem dX1_manyThatAre_17 : decode cX1_manyThatAre 17 = .ok (.aaload, 1) := by decide +kernel
theorem dX1_manyThatAre_18 : decode cX1_manyThatAre 18 = .ok (.getfield 95, 3) := by decide +kernel
theorem dX1_manyThatAre_21 : decode cX1_manyThatAre 21 = .ok (.iload_n 1, 1) := by decide +kernel
theorem dX1_manyThatAre_22 : decode cX1_manyThatAre 22 = .ok (.if_icmp .ne 6, 3) := by decide +kernel
theorem dX1_manyThatAre_25 : decode cX1_manyThatAre 25 = .ok (.iinc 2 1, 3) := by decide +kernel
theorem dX1_manyThatAre_28 : decode cX1_manyThatAre 28 = .ok (.iinc 3 1, 3) := by decide +kernel
theorem dX1_manyThatAre_31 : decode cX1_manyThatAre 31 = .ok (.goto (-27), 3) := by decide +kernel
theorem dX1_manyThatAre_34 : decode cX1_manyThatAre 34 = .ok (.iload_n 2, 1) := by decide +kernel
theorem dX1_manyThatAre_35 : decode cX1_manyThatAre 35 = .ok (.ireturn, 1) := by decide +kernel
theorem dX1_refusal_0 : decode cX1_refusal 0 = .ok (.aload_n 0, 1) := by decide +kernel
theorem dX1_refusal_1 : decode cX1_refusal 1 = .ok (.iload_n 1, 1) := by decide +kernel
theorem dX1_refusal_2 : decode cX1_refusal 2 = .ok (.invokevirtual 98, 3) := by decide +kernel
theorem dX1_refusal_5 : decode cX1_refusal 5 = .ok (.astore_n 2, 1) := by decide +kernel
theorem dX1_refusal_6 : decode cX1_refusal 6 = .ok (.aload_n 2, 1) := by decide +kernel
theorem dX1_refusal_7 : decode cX1_refusal 7 = .ok (.ifnonnull 5, 3) := by decide +kernel
theorem dX1_refusal_10 : decode cX1_refusal 10 = .ok (.iconst 1, 1) := by decide +kernel
theorem dX1_refusal_11 : decode cX1_refusal 11 = .ok (.ireturn, 1) := by decide +kernel
theorem dX1_refusal_12 : decode cX1_refusal 12 = .ok (.aload_n 2, 1) := by decide +kernel
theorem dX1_refusal_13 : decode cX1_refusal 13 = .ok (.invokevirtual 102, 3) := by decide +kernel
theorem dX1_refusal_16 : decode cX1_refusal 16 = .ok (.ifCond .ne 5, 3) := by decide +kernel
theorem dX1_refusal_19 : decode cX1_refusal 19 = .ok (.iconst 2, 1) := by decide +kernel
theorem dX1_refusal_20 : decode cX1_refusal 20 = .ok (.ireturn, 1) := by decide +kernel
theorem dX1_refusal_21 : decode cX1_refusal 21 = .ok (.aload_n 2, 1) := by decide +kernel
theorem dX1_refusal_22 : decode cX1_refusal 22 = .ok (.getfield 106, 3) := by decide +kernel
theorem dX1_refusal_25 : decode cX1_refusal 25 = .ok (.aload_n 0, 1) := by decide +kernel
theorem dX1_refusal_26 : decode cX1_refusal 26 = .ok (.getfield 63, 3) := by decide +kernel
theorem dX1_refusal_29 : decode cX1_refusal 29 = .ok (.if_icmp .le 7, 3) := by decide +kernel
theorem dX1_refusal_32 : decode cX1_refusal 32 = .ok (.iconst 3, 1) := by decide +kernel
theorem dX1_refusal_33 : decode cX1_refusal 33 = .ok (.goto 4, 3) := by decide +kernel
theorem dX1_refusal_36 : decode cX1_refusal 36 = .ok (.iconst 0, 1) := by decide +kernel
theorem dX1_refusal_37 : decode cX1_refusal 37 = .ok (.ireturn, 1) := by decide +kernel
theorem dX1_payRefusal_0 : decode cX1_payRefusal 0 = .ok (.aload_n 0, 1) := by decide +kernel
theorem dX1_payRefusal_1 : decode cX1_payRefusal 1 = .ok (.iload_n 1, 1) := by decide +kernel
theorem dX1_payRefusal_2 : decode cX1_payRefusal 2 = .ok (.invokevirtual 91, 3) := by decide +kernel
theorem dX1_payRefusal_5 : decode cX1_payRefusal 5 = .ok (.istore_n 3, 1) := by decide +kernel
theorem dX1_payRefusal_6 : decode cX1_payRefusal 6 = .ok (.iload_n 3, 1) := by decide +kernel
theorem dX1_payRefusal_7 : decode cX1_payRefusal 7 = .ok (.ifCond .eq 5, 3) := by decide +kernel
theorem dX1_payRefusal_10 : decode cX1_payRefusal 10 = .ok (.iload_n 3, 1) := by decide +kernel
theorem dX1_payRefusal_11 : decode cX1_payRefusal 11 = .ok (.ireturn, 1) := by decide +kernel
theorem dX1_payRefusal_12 : decode cX1_payRefusal 12 = .ok (.iload_n 2, 1) := by decide +kernel
theorem dX1_payRefusal_13 : decode cX1_payRefusal 13 = .ok (.iconst 1, 1) := by decide +kernel
theorem dX1_payRefusal_14 : decode cX1_payRefusal 14 = .ok (.if_icmp .lt 9, 3) := by decide +kernel
theorem dX1_payRefusal_17 : decode cX1_payRefusal 17 = .ok (.iload_n 2, 1) := by decide +kernel
theorem dX1_payRefusal_18 : decode cX1_payRefusal 18 = .ok (.ldc 109, 2) := by decide +kernel
theorem dX1_payRefusal_20 : decode cX1_payRefusal 20 = .ok (.if_icmp .le 5, 3) := by decide +kernel
theorem dX1_payRefusal_23 : decode cX1_payRefusal 23 = .ok (.iconst 4, 1) := by decide +kernel
theorem dX1_payRefusal_24 : decode cX1_payRefusal 24 = .ok (.ireturn, 1) := by decide +kernel
theorem dX1_payRefusal_25 : decode cX1_payRefusal 25 = .ok (.aload_n 0, 1) := by decide +kernel
theorem dX1_payRefusal_26 : decode cX1_payRefusal 26 = .ok (.getfield 36, 3) := by decide +kernel
theorem dX1_payRefusal_29 : decode cX1_payRefusal 29 = .ok (.iload_n 1, 1) := by decide +kernel
theorem dX1_payRefusal_30 : decode cX1_payRefusal 30 = .ok (.aaload, 1) := by decide +kernel
theorem dX1_payRefusal_31 : decode cX1_payRefusal 31 = .ok (.aload_n 0, 1) := by decide +kernel
theorem dX1_payRefusal_32 : decode cX1_payRefusal 32 = .ok (.getfield 63, 3) := by decide +kernel
theorem dX1_payRefusal_35 : decode cX1_payRefusal 35 = .ok (.invokevirtual 110, 3) := by decide +kernel
theorem dX1_payRefusal_38 : decode cX1_payRefusal 38 = .ok (.iload_n 2, 1) := by decide +kernel
theorem dX1_payRefusal_39 : decode cX1_payRefusal 39 = .ok (.isub, 1) := by decide +kernel
theorem dX1_payRefusal_40 : decode cX1_payRefusal 40 = .ok (.aload_n 0, 1) := by decide +kernel
theorem dX1_payRefusal_41 : decode cX1_payRefusal 41 = .ok (.getfield 24, 3) := by decide +kernel
theorem dX1_payRefusal_44 : decode cX1_payRefusal 44 = .ok (.if_icmp .ge 7, 3) := by decide +kernel
theorem dX1_payRefusal_47 : decode cX1_payRefusal 47 = .ok (.iconst 5, 1) := by decide +kernel
theorem dX1_payRefusal_48 : decode cX1_payRefusal 48 = .ok (.goto 4, 3) := by decide +kernel
theorem dX1_payRefusal_51 : decode cX1_payRefusal 51 = .ok (.iconst 0, 1) := by decide +kernel
theorem dX1_payRefusal_52 : decode cX1_payRefusal 52 = .ok (.ireturn, 1) := by decide +kernel
theorem dX1_longerRefusal_0 : decode cX1_longerRefusal 0 = .ok (.aload_n 0, 1) := by decide +kernel
theorem dX1_longerRefusal_1 : decode cX1_longerRefusal 1 = .ok (.iload_n 1, 1) := by decide +kernel
theorem dX1_longerRefusal_2 : decode cX1_longerRefusal 2 = .ok (.invokevirtual 91, 3) := by decide +kernel
theorem dX1_longerRefusal_5 : decode cX1_longerRefusal 5 = .ok (.istore 5, 2) := by decide +kernel
theorem dX1_longerRefusal_7 : decode cX1_longerRefusal 7 = .ok (.iload 5, 2) := by decide +kernel
theorem dX1_longerRefusal_9 : decode cX1_longerRefusal 9 = .ok (.ifCond .eq 6, 3) := by decide +kernel
theorem dX1_longerRefusal_12 : decode cX1_longerRefusal 12 = .ok (.iload 5, 2) := by decide +kernel
theorem dX1_longerRefusal_14 : decode cX1_longerRefusal 14 = .ok (.ireturn, 1) := by decide +kernel
theorem dX1_longerRefusal_15 : decode cX1_longerRefusal 15 = .ok (.iload_n 2, 1) := by decide +kernel
theorem dX1_longerRefusal_16 : decode cX1_longerRefusal 16 = .ok (.iconst 1, 1) := by decide +kernel
theorem dX1_longerRefusal_17 : decode cX1_longerRefusal 17 = .ok (.if_icmp .lt 30, 3) := by decide +kernel
theorem dX1_longerRefusal_20 : decode cX1_longerRefusal 20 = .ok (.iload_n 2, 1) := by decide +kernel
theorem dX1_longerRefusal_21 : decode cX1_longerRefusal 21 = .ok (.iconst 5, 1) := by decide +kernel
theorem dX1_longerRefusal_22 : decode cX1_longerRefusal 22 = .ok (.if_icmp .gt 25, 3) := by decide +kernel
theorem dX1_longerRefusal_25 : decode cX1_longerRefusal 25 = .ok (.iload_n 3, 1) := by decide +kernel
theorem dX1_longerRefusal_26 : decode cX1_longerRefusal 26 = .ok (.ifCond .lt 21, 3) := by decide +kernel
theorem dX1_longerRefusal_29 : decode cX1_longerRefusal 29 = .ok (.iload_n 3, 1) := by decide +kernel
theorem dX1_longerRefusal_30 : decode cX1_longerRefusal 30 = .ok (.ldc 109, 2) := by decide +kernel
theorem dX1_longerRefusal_32 : decode cX1_longerRefusal 32 = .ok (.if_icmp .gt 15, 3) := by decide +kernel
theorem dX1_longerRefusal_35 : decode cX1_longerRefusal 35 = .ok (.iload 4, 2) := by decide +kernel
theorem dX1_longerRefusal_37 : decode cX1_longerRefusal 37 = .ok (.ifCond .lt 10, 3) := by decide +kernel
theorem dX1_longerRefusal_40 : decode cX1_longerRefusal 40 = .ok (.iload 4, 2) := by decide +kernel
theorem dX1_longerRefusal_42 : decode cX1_longerRefusal 42 = .ok (.ldc 109, 2) := by decide +kernel
theorem dX1_longerRefusal_44 : decode cX1_longerRefusal 44 = .ok (.if_icmp .le 5, 3) := by decide +kernel
theorem dX1_longerRefusal_47 : decode cX1_longerRefusal 47 = .ok (.iconst 4, 1) := by decide +kernel
theorem dX1_longerRefusal_48 : decode cX1_longerRefusal 48 = .ok (.ireturn, 1) := by decide +kernel
theorem dX1_longerRefusal_49 : decode cX1_longerRefusal 49 = .ok (.iload_n 3, 1) := by decide +kernel
theorem dX1_longerRefusal_50 : decode cX1_longerRefusal 50 = .ok (.aload_n 0, 1) := by decide +kernel
theorem dX1_longerRefusal_51 : decode cX1_longerRefusal 51 = .ok (.getfield 24, 3) := by decide +kernel
theorem dX1_longerRefusal_54 : decode cX1_longerRefusal 54 = .ok (.if_icmp .ge 5, 3) := by decide +kernel
theorem dX1_longerRefusal_57 : decode cX1_longerRefusal 57 = .ok (.iconst 5, 1) := by decide +kernel
theorem dX1_longerRefusal_58 : decode cX1_longerRefusal 58 = .ok (.ireturn, 1) := by decide +kernel
theorem dX1_longerRefusal_59 : decode cX1_longerRefusal 59 = .ok (.aload_n 0, 1) := by decide +kernel
theorem dX1_longerRefusal_60 : decode cX1_longerRefusal 60 = .ok (.getfield 36, 3) := by decide +kernel
theorem dX1_longerRefusal_63 : decode cX1_longerRefusal 63 = .ok (.iload_n 1, 1) := by decide +kernel
theorem dX1_longerRefusal_64 : decode cX1_longerRefusal 64 = .ok (.aaload, 1) := by decide +kernel
theorem dX1_longerRefusal_65 : decode cX1_longerRefusal 65 = .ok (.astore 6, 2) := by decide +kernel
theorem dX1_longerRefusal_67 : decode cX1_longerRefusal 67 = .ok (.aload 6, 2) := by decide +kernel
theorem dX1_longerRefusal_69 : decode cX1_longerRefusal 69 = .ok (.getfield 113, 3) := by decide +kernel
theorem dX1_longerRefusal_72 : decode cX1_longerRefusal 72 = .ok (.aload 6, 2) := by decide +kernel
theorem dX1_longerRefusal_74 : decode cX1_longerRefusal 74 = .ok (.getfield 116, 3) := by decide +kernel
theorem dX1_longerRefusal_77 : decode cX1_longerRefusal 77 = .ok (.iadd, 1) := by decide +kernel
theorem dX1_longerRefusal_78 : decode cX1_longerRefusal 78 = .ok (.iload_n 2, 1) := by decide +kernel
theorem dX1_longerRefusal_79 : decode cX1_longerRefusal 79 = .ok (.iadd, 1) := by decide +kernel
theorem dX1_longerRefusal_80 : decode cX1_longerRefusal 80 = .ok (.bipush 10, 2) := by decide +kernel
theorem dX1_longerRefusal_82 : decode cX1_longerRefusal 82 = .ok (.if_icmp .gt 15, 3) := by decide +kernel
theorem dX1_longerRefusal_85 : decode cX1_longerRefusal 85 = .ok (.aload 6, 2) := by decide +kernel
theorem dX1_longerRefusal_87 : decode cX1_longerRefusal 87 = .ok (.invokevirtual 119, 3) := by decide +kernel
theorem dX1_longerRefusal_90 : decode cX1_longerRefusal 90 = .ok (.iload_n 2, 1) := by decide +kernel
theorem dX1_longerRefusal_91 : decode cX1_longerRefusal 91 = .ok (.iadd, 1) := by decide +kernel
theorem dX1_longerRefusal_92 : decode cX1_longerRefusal 92 = .ok (.bipush 19, 2) := by decide +kernel
theorem dX1_longerRefusal_94 : decode cX1_longerRefusal 94 = .ok (.if_icmp .le 7, 3) := by decide +kernel
theorem dX1_longerRefusal_97 : decode cX1_longerRefusal 97 = .ok (.iconst 1, 1) := by decide +kernel
theorem dX1_longerRefusal_98 : decode cX1_longerRefusal 98 = .ok (.goto 4, 3) := by decide +kernel
theorem dX1_longerRefusal_101 : decode cX1_longerRefusal 101 = .ok (.iconst 0, 1) := by decide +kernel
theorem dX1_longerRefusal_102 : decode cX1_longerRefusal 102 = .ok (.istore 7, 2) := by decide +kernel
theorem dX1_longerRefusal_104 : decode cX1_longerRefusal 104 = .ok (.iload 7, 2) := by decide +kernel
theorem dX1_longerRefusal_106 : decode cX1_longerRefusal 106 = .ok (.ifCond .eq 8, 3) := by decide +kernel
theorem dX1_longerRefusal_109 : decode cX1_longerRefusal 109 = .ok (.bipush 6, 2) := by decide +kernel
theorem dX1_longerRefusal_111 : decode cX1_longerRefusal 111 = .ok (.goto 4, 3) := by decide +kernel
theorem dX1_longerRefusal_114 : decode cX1_longerRefusal 114 = .ok (.iconst 0, 1) := by decide +kernel
theorem dX1_longerRefusal_115 : decode cX1_longerRefusal 115 = .ok (.ireturn, 1) := by decide +kernel
theorem dX1_signRefusal_0 : decode cX1_signRefusal 0 = .ok (.aload_n 0, 1) := by decide +kernel
theorem dX1_signRefusal_1 : decode cX1_signRefusal 1 = .ok (.getfield 50, 3) := by decide +kernel
theorem dX1_signRefusal_4 : decode cX1_signRefusal 4 = .ok (.iload_n 1, 1) := by decide +kernel
theorem dX1_signRefusal_5 : decode cX1_signRefusal 5 = .ok (.invokevirtual 123, 3) := by decide +kernel
theorem dX1_signRefusal_8 : decode cX1_signRefusal 8 = .ok (.ifCond .ne 5, 3) := by decide +kernel
theorem dX1_signRefusal_11 : decode cX1_signRefusal 11 = .ok (.iconst 1, 1) := by decide +kernel
theorem dX1_signRefusal_12 : decode cX1_signRefusal 12 = .ok (.ireturn, 1) := by decide +kernel
theorem dX1_signRefusal_13 : decode cX1_signRefusal 13 = .ok (.aload_n 0, 1) := by decide +kernel
theorem dX1_signRefusal_14 : decode cX1_signRefusal 14 = .ok (.getfield 75, 3) := by decide +kernel
theorem dX1_signRefusal_17 : decode cX1_signRefusal 17 = .ok (.bipush 40, 2) := by decide +kernel
theorem dX1_signRefusal_19 : decode cX1_signRefusal 19 = .ok (.if_icmp .ge 22, 3) := by decide +kernel
theorem dX1_signRefusal_22 : decode cX1_signRefusal 22 = .ok (.aload_n 0, 1) := by decide +kernel
theorem dX1_signRefusal_23 : decode cX1_signRefusal 23 = .ok (.getfield 63, 3) := by decide +kernel
theorem dX1_signRefusal_26 : decode cX1_signRefusal 26 = .ok (.aload_n 0, 1) := by decide +kernel
theorem dX1_signRefusal_27 : decode cX1_signRefusal 27 = .ok (.getfield 50, 3) := by decide +kernel
theorem dX1_signRefusal_30 : decode cX1_signRefusal 30 = .ok (.getfield 127, 3) := by decide +kernel
theorem dX1_signRefusal_33 : decode cX1_signRefusal 33 = .ok (.iload_n 1, 1) := by decide +kernel
theorem dX1_signRefusal_34 : decode cX1_signRefusal 34 = .ok (.iaload, 1) := by decide +kernel
theorem dX1_signRefusal_35 : decode cX1_signRefusal 35 = .ok (.iadd, 1) := by decide +kernel
theorem dX1_signRefusal_36 : decode cX1_signRefusal 36 = .ok (.bipush 20, 2) := by decide +kernel
theorem dX1_signRefusal_38 : decode cX1_signRefusal 38 = .ok (.if_icmp .le 7, 3) := by decide +kernel
theorem dX1_signRefusal_41 : decode cX1_signRefusal 41 = .ok (.iconst 1, 1) := by decide +kernel
theorem dX1_signRefusal_42 : decode cX1_signRefusal 42 = .ok (.goto 4, 3) := by decide +kernel
theorem dX1_signRefusal_45 : decode cX1_signRefusal 45 = .ok (.iconst 0, 1) := by decide +kernel
theorem dX1_signRefusal_46 : decode cX1_signRefusal 46 = .ok (.istore_n 2, 1) := by decide +kernel
theorem dX1_signRefusal_47 : decode cX1_signRefusal 47 = .ok (.iload_n 2, 1) := by decide +kernel
theorem dX1_signRefusal_48 : decode cX1_signRefusal 48 = .ok (.ifCond .eq 8, 3) := by decide +kernel
theorem dX1_signRefusal_51 : decode cX1_signRefusal 51 = .ok (.bipush 6, 2) := by decide +kernel
theorem dX1_signRefusal_53 : decode cX1_signRefusal 53 = .ok (.goto 4, 3) := by decide +kernel
theorem dX1_signRefusal_56 : decode cX1_signRefusal 56 = .ok (.iconst 0, 1) := by decide +kernel
theorem dX1_signRefusal_57 : decode cX1_signRefusal 57 = .ok (.ireturn, 1) := by decide +kernel
theorem dX1_takeOffer_0 : decode cX1_takeOffer 0 = .ok (.aload_n 0, 1) := by decide +kernel
theorem dX1_takeOffer_1 : decode cX1_takeOffer 1 = .ok (.invokevirtual 129, 3) := by decide +kernel
theorem dX1_takeOffer_4 : decode cX1_takeOffer 4 = .ok (.astore_n 2, 1) := by decide +kernel
theorem dX1_takeOffer_5 : decode cX1_takeOffer 5 = .ok (.aload_n 2, 1) := by decide +kernel
theorem dX1_takeOffer_6 : decode cX1_takeOffer 6 = .ok (.ifnull 14, 3) := by decide +kernel
theorem dX1_takeOffer_9 : decode cX1_takeOffer 9 = .ok (.aload_n 0, 1) := by decide +kernel
theorem dX1_takeOffer_10 : decode cX1_takeOffer 10 = .ok (.getfield 50, 3) := by decide +kernel
theorem dX1_takeOffer_13 : decode cX1_takeOffer 13 = .ok (.iload_n 1, 1) := by decide +kernel
theorem dX1_takeOffer_14 : decode cX1_takeOffer 14 = .ok (.invokevirtual 123, 3) := by decide +kernel
theorem dX1_takeOffer_17 : decode cX1_takeOffer 17 = .ok (.ifCond .ne 5, 3) := by decide +kernel
theorem dX1_takeOffer_20 : decode cX1_takeOffer 20 = .ok (.iconst (-1), 1) := by decide +kernel
theorem dX1_takeOffer_21 : decode cX1_takeOffer 21 = .ok (.ireturn, 1) := by decide +kernel
theorem dX1_takeOffer_22 : decode cX1_takeOffer 22 = .ok (.aload_n 2, 1) := by decide +kernel
theorem dX1_takeOffer_23 : decode cX1_takeOffer 23 = .ok (.aload_n 0, 1) := by decide +kernel
theorem dX1_takeOffer_24 : decode cX1_takeOffer 24 = .ok (.getfield 63, 3) := by decide +kernel
theorem dX1_takeOffer_27 : decode cX1_takeOffer 27 = .ok (.aload_n 0, 1) := by decide +kernel
theorem dX1_takeOffer_28 : decode cX1_takeOffer 28 = .ok (.getfield 50, 3) := by decide +kernel
theorem dX1_takeOffer_31 : decode cX1_takeOffer 31 = .ok (.getfield 127, 3) := by decide +kernel
theorem dX1_takeOffer_34 : decode cX1_takeOffer 34 = .ok (.iload_n 1, 1) := by decide +kernel
theorem dX1_takeOffer_35 : decode cX1_takeOffer 35 = .ok (.iaload, 1) := by decide +kernel
theorem dX1_takeOffer_36 : decode cX1_takeOffer 36 = .ok (.iconst 0, 1) := by decide +kernel
theorem dX1_takeOffer_37 : decode cX1_takeOffer 37 = .ok (.iconst 0, 1) := by decide +kernel
theorem dX1_takeOffer_38 : decode cX1_takeOffer 38 = .ok (.invokevirtual 133, 3) := by decide +kernel
theorem dX1_takeOffer_41 : decode cX1_takeOffer 41 = .ok (.aload_n 2, 1) := by decide +kernel
theorem dX1_takeOffer_42 : decode cX1_takeOffer 42 = .ok (.aload_n 0, 1) := by decide +kernel
theorem dX1_takeOffer_43 : decode cX1_takeOffer 43 = .ok (.getfield 63, 3) := by decide +kernel
theorem dX1_takeOffer_46 : decode cX1_takeOffer 46 = .ok (.aload_n 0, 1) := by decide +kernel
theorem dX1_takeOffer_47 : decode cX1_takeOffer 47 = .ok (.getfield 50, 3) := by decide +kernel
theorem dX1_takeOffer_50 : decode cX1_takeOffer 50 = .ok (.getfield 137, 3) := by decide +kernel
theorem dX1_takeOffer_53 : decode cX1_takeOffer 53 = .ok (.iload_n 1, 1) := by decide +kernel
theorem dX1_takeOffer_54 : decode cX1_takeOffer 54 = .ok (.iaload, 1) := by decide +kernel
theorem dX1_takeOffer_55 : decode cX1_takeOffer 55 = .ok (.invokevirtual 140, 3) := by decide +kernel
theorem dX1_takeOffer_58 : decode cX1_takeOffer 58 = .ok (.iconst 0, 1) := by decide +kernel
theorem dX1_takeOffer_59 : decode cX1_takeOffer 59 = .ok (.istore_n 3, 1) := by decide +kernel
theorem dX1_takeOffer_60 : decode cX1_takeOffer 60 = .ok (.iload_n 3, 1) := by decide +kernel
theorem dX1_takeOffer_61 : decode cX1_takeOffer 61 = .ok (.aload_n 2, 1) := by decide +kernel
theorem dX1_takeOffer_62 : decode cX1_takeOffer 62 = .ok (.getfield 113, 3) := by decide +kernel
theorem dX1_takeOffer_65 : decode cX1_takeOffer 65 = .ok (.if_icmp .ge 24, 3) := by decide +kernel
theorem dX1_takeOffer_68 : decode cX1_takeOffer 68 = .ok (.aload_n 2, 1) := by decide +kernel
theorem dX1_takeOffer_69 : decode cX1_takeOffer 69 = .ok (.iload_n 3, 1) := by decide +kernel
theorem dX1_takeOffer_70 : decode cX1_takeOffer 70 = .ok (.aload_n 0, 1) := by decide +kernel
theorem dX1_takeOffer_71 : decode cX1_takeOffer 71 = .ok (.getfield 50, 3) := by decide +kernel
theorem dX1_takeOffer_74 : decode cX1_takeOffer 74 = .ok (.getfield 144, 3) := by decide +kernel
theorem dX1_takeOffer_77 : decode cX1_takeOffer 77 = .ok (.iload_n 1, 1) := by decide +kernel
theorem dX1_takeOffer_78 : decode cX1_takeOffer 78 = .ok (.iaload, 1) := by decide +kernel
theorem dX1_takeOffer_79 : decode cX1_takeOffer 79 = .ok (.iconst 0, 1) := by decide +kernel
theorem dX1_takeOffer_80 : decode cX1_takeOffer 80 = .ok (.invokevirtual 147, 3) := by decide +kernel
theorem dX1_takeOffer_83 : decode cX1_takeOffer 83 = .ok (.iinc 3 1, 3) := by decide +kernel
theorem dX1_takeOffer_86 : decode cX1_takeOffer 86 = .ok (.goto (-26), 3) := by decide +kernel
theorem dX1_takeOffer_89 : decode cX1_takeOffer 89 = .ok (.aload_n 0, 1) := by decide +kernel
theorem dX1_takeOffer_90 : decode cX1_takeOffer 90 = .ok (.getfield 50, 3) := by decide +kernel
theorem dX1_takeOffer_93 : decode cX1_takeOffer 93 = .ok (.iload_n 1, 1) := by decide +kernel
theorem dX1_takeOffer_94 : decode cX1_takeOffer 94 = .ok (.invokevirtual 151, 3) := by decide +kernel
theorem dX1_takeOffer_97 : decode cX1_takeOffer 97 = .ok (.aload_n 0, 1) := by decide +kernel
theorem dX1_takeOffer_98 : decode cX1_takeOffer 98 = .ok (.getfield 75, 3) := by decide +kernel
theorem dX1_takeOffer_101 : decode cX1_takeOffer 101 = .ok (.iconst 1, 1) := by decide +kernel
theorem dX1_takeOffer_102 : decode cX1_takeOffer 102 = .ok (.isub, 1) := by decide +kernel
theorem dX1_takeOffer_103 : decode cX1_takeOffer 103 = .ok (.ireturn, 1) := by decide +kernel
theorem dX1_fullPlaces_0 : decode cX1_fullPlaces 0 = .ok (.iload_n 1, 1) := by decide +kernel
theorem dX1_fullPlaces_1 : decode cX1_fullPlaces 1 = .ok (.aload_n 0, 1) := by decide +kernel
theorem dX1_fullPlaces_2 : decode cX1_fullPlaces 2 = .ok (.getfield 18, 3) := by decide +kernel
theorem dX1_fullPlaces_5 : decode cX1_fullPlaces 5 = .ok (.if_icmp .ge 10, 3) := by decide +kernel
theorem dX1_fullPlaces_8 : decode cX1_fullPlaces 8 = .ok (.aload_n 0, 1) := by decide +kernel
theorem dX1_fullPlaces_9 : decode cX1_fullPlaces 9 = .ok (.getfield 21, 3) := by decide +kernel
theorem dX1_fullPlaces_12 : decode cX1_fullPlaces 12 = .ok (.goto 5, 3) := by decide +kernel
theorem dX1_fullPlaces_15 : decode cX1_fullPlaces 15 = .ok (.bipush 40, 2) := by decide +kernel
theorem dX1_fullPlaces_17 : decode cX1_fullPlaces 17 = .ok (.ireturn, 1) := by decide +kernel
theorem dX1_deadPay_0 : decode cX1_deadPay 0 = .ok (.aload_n 1, 1) := by decide +kernel
theorem dX1_deadPay_1 : decode cX1_deadPay 1 = .ok (.iload_n 2, 1) := by decide +kernel
theorem dX1_deadPay_2 : decode cX1_deadPay 2 = .ok (.invokevirtual 155, 3) := by decide +kernel
theorem dX1_deadPay_5 : decode cX1_deadPay 5 = .ok (.istore 4, 2) := by decide +kernel
theorem dX1_deadPay_7 : decode cX1_deadPay 7 = .ok (.iload_n 3, 1) := by decide +kernel
theorem dX1_deadPay_8 : decode cX1_deadPay 8 = .ok (.aload_n 0, 1) := by decide +kernel
theorem dX1_deadPay_9 : decode cX1_deadPay 9 = .ok (.getfield 15, 3) := by decide +kernel
theorem dX1_deadPay_12 : decode cX1_deadPay 12 = .ok (.if_icmp .lt 14, 3) := by decide +kernel
theorem dX1_deadPay_15 : decode cX1_deadPay 15 = .ok (.iload 4, 2) := by decide +kernel
theorem dX1_deadPay_17 : decode cX1_deadPay 17 = .ok (.aload_n 1, 1) := by decide +kernel
theorem dX1_deadPay_18 : decode cX1_deadPay 18 = .ok (.iload_n 2, 1) := by decide +kernel
theorem dX1_deadPay_19 : decode cX1_deadPay 19 = .ok (.invokevirtual 158, 3) := by decide +kernel
theorem dX1_deadPay_22 : decode cX1_deadPay 22 = .ok (.iadd, 1) := by decide +kernel
theorem dX1_deadPay_23 : decode cX1_deadPay 23 = .ok (.goto 5, 3) := by decide +kernel
theorem dX1_deadPay_26 : decode cX1_deadPay 26 = .ok (.iload 4, 2) := by decide +kernel
theorem dX1_deadPay_28 : decode cX1_deadPay 28 = .ok (.ireturn, 1) := by decide +kernel
theorem dX1_deadPartsNow_0 : decode cX1_deadPartsNow 0 = .ok (.iload_n 2, 1) := by decide +kernel
theorem dX1_deadPartsNow_1 : decode cX1_deadPartsNow 1 = .ok (.aload_n 0, 1) := by decide +kernel
theorem dX1_deadPartsNow_2 : decode cX1_deadPartsNow 2 = .ok (.getfield 9, 3) := by decide +kernel
theorem dX1_deadPartsNow_5 : decode cX1_deadPartsNow 5 = .ok (.if_icmp .lt 12, 3) := by decide +kernel
theorem dX1_deadPartsNow_8 : decode cX1_deadPartsNow 8 = .ok (.aload_n 0, 1) := by decide +kernel
theorem dX1_deadPartsNow_9 : decode cX1_deadPartsNow 9 = .ok (.getfield 63, 3) := by decide +kernel
theorem dX1_deadPartsNow_12 : decode cX1_deadPartsNow 12 = .ok (.bipush 19, 2) := by decide +kernel
theorem dX1_deadPartsNow_14 : decode cX1_deadPartsNow 14 = .ok (.if_icmp .lt 14, 3) := by decide +kernel
theorem dX1_deadPartsNow_17 : decode cX1_deadPartsNow 17 = .ok (.aload_n 1, 1) := by decide +kernel
theorem dX1_deadPartsNow_18 : decode cX1_deadPartsNow 18 = .ok (.aload_n 0, 1) := by decide +kernel
theorem dX1_deadPartsNow_19 : decode cX1_deadPartsNow 19 = .ok (.getfield 63, 3) := by decide +kernel
theorem dX1_deadPartsNow_22 : decode cX1_deadPartsNow 22 = .ok (.invokevirtual 161, 3) := by decide +kernel
theorem dX1_deadPartsNow_25 : decode cX1_deadPartsNow 25 = .ok (.goto 11, 3) := by decide +kernel
theorem dX1_deadPartsNow_28 : decode cX1_deadPartsNow 28 = .ok (.aload_n 1, 1) := by decide +kernel
theorem dX1_deadPartsNow_29 : decode cX1_deadPartsNow 29 = .ok (.aload_n 0, 1) := by decide +kernel
theorem dX1_deadPartsNow_30 : decode cX1_deadPartsNow 30 = .ok (.getfield 63, 3) := by decide +kernel
theorem dX1_deadPartsNow_33 : decode cX1_deadPartsNow 33 = .ok (.invokevirtual 164, 3) := by decide +kernel
theorem dX1_deadPartsNow_36 : decode cX1_deadPartsNow 36 = .ok (.ireturn, 1) := by decide +kernel
theorem dX1_deadNow_0 : decode cX1_deadNow 0 = .ok (.aload_n 0, 1) := by decide +kernel
theorem dX1_deadNow_1 : decode cX1_deadNow 1 = .ok (.aload_n 1, 1) := by decide +kernel
theorem dX1_deadNow_2 : decode cX1_deadNow 2 = .ok (.aload_n 0, 1) := by decide +kernel
theorem dX1_deadNow_3 : decode cX1_deadNow 3 = .ok (.getfield 63, 3) := by decide +kernel
theorem dX1_deadNow_6 : decode cX1_deadNow 6 = .ok (.iload_n 2, 1) := by decide +kernel
theorem dX1_deadNow_7 : decode cX1_deadNow 7 = .ok (.invokevirtual 167, 3) := by decide +kernel
theorem dX1_deadNow_10 : decode cX1_deadNow 10 = .ok (.aload_n 0, 1) := by decide +kernel
theorem dX1_deadNow_11 : decode cX1_deadNow 11 = .ok (.aload_n 1, 1) := by decide +kernel
theorem dX1_deadNow_12 : decode cX1_deadNow 12 = .ok (.iload_n 2, 1) := by decide +kernel
theorem dX1_deadNow_13 : decode cX1_deadNow 13 = .ok (.invokevirtual 171, 3) := by decide +kernel
theorem dX1_deadNow_16 : decode cX1_deadNow 16 = .ok (.iadd, 1) := by decide +kernel
theorem dX1_deadNow_17 : decode cX1_deadNow 17 = .ok (.ireturn, 1) := by decide +kernel
theorem dX1_deadNext_0 : decode cX1_deadNext 0 = .ok (.aload_n 1, 1) := by decide +kernel
theorem dX1_deadNext_1 : decode cX1_deadNext 1 = .ok (.aload_n 0, 1) := by decide +kernel
theorem dX1_deadNext_2 : decode cX1_deadNext 2 = .ok (.getfield 63, 3) := by decide +kernel
theorem dX1_deadNext_5 : decode cX1_deadNext 5 = .ok (.invokevirtual 161, 3) := by decide +kernel
theorem dX1_deadNext_8 : decode cX1_deadNext 8 = .ok (.aload_n 0, 1) := by decide +kernel
theorem dX1_deadNext_9 : decode cX1_deadNext 9 = .ok (.aload_n 1, 1) := by decide +kernel
theorem dX1_deadNext_10 : decode cX1_deadNext 10 = .ok (.iload_n 2, 1) := by decide +kernel
theorem dX1_deadNext_11 : decode cX1_deadNext 11 = .ok (.invokevirtual 171, 3) := by decide +kernel
theorem dX1_deadNext_14 : decode cX1_deadNext 14 = .ok (.isub, 1) := by decide +kernel
theorem dX1_deadNext_15 : decode cX1_deadNext 15 = .ok (.ireturn, 1) := by decide +kernel
theorem dX1_deadInAll_0 : decode cX1_deadInAll 0 = .ok (.aload_n 0, 1) := by decide +kernel
theorem dX1_deadInAll_1 : decode cX1_deadInAll 1 = .ok (.aload_n 1, 1) := by decide +kernel
theorem dX1_deadInAll_2 : decode cX1_deadInAll 2 = .ok (.aload_n 0, 1) := by decide +kernel
theorem dX1_deadInAll_3 : decode cX1_deadInAll 3 = .ok (.getfield 63, 3) := by decide +kernel
theorem dX1_deadInAll_6 : decode cX1_deadInAll 6 = .ok (.aload_n 0, 1) := by decide +kernel
theorem dX1_deadInAll_7 : decode cX1_deadInAll 7 = .ok (.getfield 66, 3) := by decide +kernel
theorem dX1_deadInAll_10 : decode cX1_deadInAll 10 = .ok (.invokevirtual 167, 3) := by decide +kernel
theorem dX1_deadInAll_13 : decode cX1_deadInAll 13 = .ok (.aload_n 1, 1) := by decide +kernel
theorem dX1_deadInAll_14 : decode cX1_deadInAll 14 = .ok (.aload_n 0, 1) := by decide +kernel
theorem dX1_deadInAll_15 : decode cX1_deadInAll 15 = .ok (.getfield 63, 3) := by decide +kernel
theorem dX1_deadInAll_18 : decode cX1_deadInAll 18 = .ok (.invokevirtual 161, 3) := by decide +kernel
theorem dX1_deadInAll_21 : decode cX1_deadInAll 21 = .ok (.iadd, 1) := by decide +kernel
theorem dX1_deadInAll_22 : decode cX1_deadInAll 22 = .ok (.ireturn, 1) := by decide +kernel
theorem dX1_release_0 : decode cX1_release 0 = .ok (.aload_n 0, 1) := by decide +kernel
theorem dX1_release_1 : decode cX1_release 1 = .ok (.iload_n 1, 1) := by decide +kernel
theorem dX1_release_2 : decode cX1_release 2 = .ok (.invokevirtual 175, 3) := by decide +kernel
theorem dX1_release_5 : decode cX1_release 5 = .ok (.astore_n 3, 1) := by decide +kernel
theorem dX1_release_6 : decode cX1_release 6 = .ok (.aload_n 3, 1) := by decide +kernel
theorem dX1_release_7 : decode cX1_release 7 = .ok (.ifnonnull 4, 3) := by decide +kernel
theorem dX1_release_10 : decode cX1_release 10 = .ok (.return_, 1) := by decide +kernel
theorem dX1_release_11 : decode cX1_release 11 = .ok (.aload_n 0, 1) := by decide +kernel
theorem dX1_release_12 : decode cX1_release 12 = .ok (.getfield 31, 3) := by decide +kernel
theorem dX1_release_15 : decode cX1_release 15 = .ok (.aload_n 0, 1) := by decide +kernel
theorem dX1_release_16 : decode cX1_release 16 = .ok (.getfield 63, 3) := by decide +kernel
theorem dX1_release_19 : decode cX1_release 19 = .ok (.dup2, 1) := by decide +kernel
theorem dX1_release_20 : decode cX1_release 20 = .ok (.iaload, 1) := by decide +kernel
theorem dX1_release_21 : decode cX1_release 21 = .ok (.iload_n 2, 1) := by decide +kernel
theorem dX1_release_22 : decode cX1_release 22 = .ok (.ifCond .eq 15, 3) := by decide +kernel
theorem dX1_release_25 : decode cX1_release 25 = .ok (.aload_n 0, 1) := by decide +kernel
theorem dX1_release_26 : decode cX1_release 26 = .ok (.aload_n 3, 1) := by decide +kernel
theorem dX1_release_27 : decode cX1_release 27 = .ok (.aload_n 0, 1) := by decide +kernel
theorem dX1_release_28 : decode cX1_release 28 = .ok (.getfield 66, 3) := by decide +kernel
theorem dX1_release_31 : decode cX1_release 31 = .ok (.invokevirtual 171, 3) := by decide +kernel
theorem dX1_release_34 : decode cX1_release 34 = .ok (.goto 12, 3) := by decide +kernel
theorem dX1_release_37 : decode cX1_release 37 = .ok (.aload_n 0, 1) := by decide +kernel
theorem dX1_release_38 : decode cX1_release 38 = .ok (.aload_n 3, 1) := by decide +kernel
theorem dX1_release_39 : decode cX1_release 39 = .ok (.aload_n 0, 1) := by decide +kernel
theorem dX1_release_40 : decode cX1_release 40 = .ok (.getfield 66, 3) := by decide +kernel
theorem dX1_release_43 : decode cX1_release 43 = .ok (.invokevirtual 178, 3) := by decide +kernel
theorem dX1_release_46 : decode cX1_release 46 = .ok (.iadd, 1) := by decide +kernel
theorem dX1_release_47 : decode cX1_release 47 = .ok (.iastore, 1) := by decide +kernel
theorem dX1_release_48 : decode cX1_release 48 = .ok (.aload_n 0, 1) := by decide +kernel
theorem dX1_release_49 : decode cX1_release 49 = .ok (.getfield 63, 3) := by decide +kernel
theorem dX1_release_52 : decode cX1_release 52 = .ok (.bipush 19, 2) := by decide +kernel
theorem dX1_release_54 : decode cX1_release 54 = .ok (.if_icmp .ge 26, 3) := by decide +kernel
theorem dX1_release_57 : decode cX1_release 57 = .ok (.aload_n 0, 1) := by decide +kernel
theorem dX1_release_58 : decode cX1_release 58 = .ok (.getfield 31, 3) := by decide +kernel
theorem dX1_release_61 : decode cX1_release 61 = .ok (.aload_n 0, 1) := by decide +kernel
theorem dX1_release_62 : decode cX1_release 62 = .ok (.getfield 63, 3) := by decide +kernel
theorem dX1_release_65 : decode cX1_release 65 = .ok (.iconst 1, 1) := by decide +kernel
theorem dX1_release_66 : decode cX1_release 66 = .ok (.iadd, 1) := by decide +kernel
theorem dX1_release_67 : decode cX1_release 67 = .ok (.dup2, 1) := by decide +kernel
theorem dX1_release_68 : decode cX1_release 68 = .ok (.iaload, 1) := by decide +kernel
theorem dX1_release_69 : decode cX1_release 69 = .ok (.aload_n 0, 1) := by decide +kernel
theorem dX1_release_70 : decode cX1_release 70 = .ok (.aload_n 3, 1) := by decide +kernel
theorem dX1_release_71 : decode cX1_release 71 = .ok (.aload_n 0, 1) := by decide +kernel
theorem dX1_release_72 : decode cX1_release 72 = .ok (.getfield 66, 3) := by decide +kernel
theorem dX1_release_75 : decode cX1_release 75 = .ok (.invokevirtual 181, 3) := by decide +kernel
theorem dX1_release_78 : decode cX1_release 78 = .ok (.iadd, 1) := by decide +kernel
theorem dX1_release_79 : decode cX1_release 79 = .ok (.iastore, 1) := by decide +kernel
theorem dX1_release_80 : decode cX1_release 80 = .ok (.aload_n 3, 1) := by decide +kernel
theorem dX1_release_81 : decode cX1_release 81 = .ok (.iconst 1, 1) := by decide +kernel
theorem dX1_release_82 : decode cX1_release 82 = .ok (.putfield 95, 3) := by decide +kernel
theorem dX1_release_85 : decode cX1_release 85 = .ok (.aload_n 3, 1) := by decide +kernel
theorem dX1_release_86 : decode cX1_release 86 = .ok (.aload_n 0, 1) := by decide +kernel
theorem dX1_release_87 : decode cX1_release 87 = .ok (.getfield 63, 3) := by decide +kernel
theorem dX1_release_90 : decode cX1_release 90 = .ok (.putfield 184, 3) := by decide +kernel
theorem dX1_release_93 : decode cX1_release 93 = .ok (.return_, 1) := by decide +kernel
theorem dX1_mostTurned_0 : decode cX1_mostTurned 0 = .ok (.iconst 0, 1) := by decide +kernel
theorem dX1_mostTurned_1 : decode cX1_mostTurned 1 = .ok (.aload_n 1, 1) := by decide +kernel
theorem dX1_mostTurned_2 : decode cX1_mostTurned 2 = .ok (.aload_n 0, 1) := by decide +kernel
theorem dX1_mostTurned_3 : decode cX1_mostTurned 3 = .ok (.getfield 63, 3) := by decide +kernel
theorem dX1_mostTurned_6 : decode cX1_mostTurned 6 = .ok (.invokevirtual 110, 3) := by decide +kernel
theorem dX1_mostTurned_9 : decode cX1_mostTurned 9 = .ok (.aload_n 0, 1) := by decide +kernel
theorem dX1_mostTurned_10 : decode cX1_mostTurned 10 = .ok (.getfield 24, 3) := by decide +kernel
theorem dX1_mostTurned_13 : decode cX1_mostTurned 13 = .ok (.isub, 1) := by decide +kernel
theorem dX1_mostTurned_14 : decode cX1_mostTurned 14 = .ok (.invokestatic 187, 3) := by decide +kernel
theorem dX1_mostTurned_17 : decode cX1_mostTurned 17 = .ok (.ireturn, 1) := by decide +kernel
theorem dX1_countAhead_0 : decode cX1_countAhead 0 = .ok (.iload_n 1, 1) := by decide +kernel
theorem dX1_countAhead_1 : decode cX1_countAhead 1 = .ok (.invokestatic 193, 3) := by decide +kernel
theorem dX1_countAhead_4 : decode cX1_countAhead 4 = .ok (.ifCond .eq 12, 3) := by decide +kernel
theorem dX1_countAhead_7 : decode cX1_countAhead 7 = .ok (.aload_n 0, 1) := by decide +kernel
theorem dX1_countAhead_8 : decode cX1_countAhead 8 = .ok (.getfield 31, 3) := by decide +kernel
theorem dX1_countAhead_11 : decode cX1_countAhead 11 = .ok (.iload_n 1, 1) := by decide +kernel
theorem dX1_countAhead_12 : decode cX1_countAhead 12 = .ok (.iaload, 1) := by decide +kernel
theorem dX1_countAhead_13 : decode cX1_countAhead 13 = .ok (.goto 4, 3) := by decide +kernel
theorem dX1_countAhead_16 : decode cX1_countAhead 16 = .ok (.iconst 0, 1) := by decide +kernel
theorem dX1_countAhead_17 : decode cX1_countAhead 17 = .ok (.istore_n 2, 1) := by decide +kernel
theorem dX1_countAhead_18 : decode cX1_countAhead 18 = .ok (.iconst 0, 1) := by decide +kernel
theorem dX1_countAhead_19 : decode cX1_countAhead 19 = .ok (.istore_n 3, 1) := by decide +kernel
theorem dX1_countAhead_20 : decode cX1_countAhead 20 = .ok (.iload_n 3, 1) := by decide +kernel
theorem dX1_countAhead_21 : decode cX1_countAhead 21 = .ok (.aload_n 0, 1) := by decide +kernel
theorem dX1_countAhead_22 : decode cX1_countAhead 22 = .ok (.getfield 75, 3) := by decide +kernel
theorem dX1_countAhead_25 : decode cX1_countAhead 25 = .ok (.if_icmp .ge 84, 3) := by decide +kernel
theorem dX1_countAhead_28 : decode cX1_countAhead 28 = .ok (.aload_n 0, 1) := by decide +kernel
theorem dX1_countAhead_29 : decode cX1_countAhead 29 = .ok (.getfield 36, 3) := by decide +kernel
theorem dX1_countAhead_32 : decode cX1_countAhead 32 = .ok (.iload_n 3, 1) := by decide +kernel
theorem dX1_countAhead_33 : decode cX1_countAhead 33 = .ok (.aaload, 1) := by decide +kernel
theorem dX1_countAhead_34 : decode cX1_countAhead 34 = .ok (.astore 4, 2) := by decide +kernel
theorem dX1_countAhead_36 : decode cX1_countAhead 36 = .ok (.aload 4, 2) := by decide +kernel
theorem dX1_countAhead_38 : decode cX1_countAhead 38 = .ok (.invokevirtual 102, 3) := by decide +kernel
theorem dX1_countAhead_41 : decode cX1_countAhead 41 = .ok (.ifCond .ne 6, 3) := by decide +kernel
theorem dX1_countAhead_44 : decode cX1_countAhead 44 = .ok (.goto 59, 3) := by decide +kernel
theorem dX1_countAhead_47 : decode cX1_countAhead 47 = .ok (.aload 4, 2) := by decide +kernel
theorem dX1_countAhead_49 : decode cX1_countAhead 49 = .ok (.getfield 106, 3) := by decide +kernel
theorem dX1_countAhead_52 : decode cX1_countAhead 52 = .ok (.aload 4, 2) := by decide +kernel
theorem dX1_countAhead_54 : decode cX1_countAhead 54 = .ok (.getfield 113, 3) := by decide +kernel
theorem dX1_countAhead_57 : decode cX1_countAhead 57 = .ok (.iadd, 1) := by decide +kernel
theorem dX1_countAhead_58 : decode cX1_countAhead 58 = .ok (.istore 5, 2) := by decide +kernel
theorem dX1_countAhead_60 : decode cX1_countAhead 60 = .ok (.iload_n 1, 1) := by decide +kernel
theorem dX1_countAhead_61 : decode cX1_countAhead 61 = .ok (.iload 5, 2) := by decide +kernel
theorem dX1_countAhead_63 : decode cX1_countAhead 63 = .ok (.if_icmp .ge 25, 3) := by decide +kernel
theorem dX1_countAhead_66 : decode cX1_countAhead 66 = .ok (.iload_n 2, 1) := by decide +kernel
theorem dX1_countAhead_67 : decode cX1_countAhead 67 = .ok (.aload 4, 2) := by decide +kernel
theorem dX1_countAhead_69 : decode cX1_countAhead 69 = .ok (.iload_n 1, 1) := by decide +kernel
theorem dX1_countAhead_70 : decode cX1_countAhead 70 = .ok (.invokevirtual 196, 3) := by decide +kernel
theorem dX1_countAhead_73 : decode cX1_countAhead 73 = .ok (.aload_n 0, 1) := by decide +kernel
theorem dX1_countAhead_74 : decode cX1_countAhead 74 = .ok (.getfield 43, 3) := by decide +kernel
theorem dX1_countAhead_77 : decode cX1_countAhead 77 = .ok (.iload_n 3, 1) := by decide +kernel
theorem dX1_countAhead_78 : decode cX1_countAhead 78 = .ok (.iload_n 1, 1) := by decide +kernel
theorem dX1_countAhead_79 : decode cX1_countAhead 79 = .ok (.invokevirtual 199, 3) := by decide +kernel
theorem dX1_countAhead_82 : decode cX1_countAhead 82 = .ok (.iadd, 1) := by decide +kernel
theorem dX1_countAhead_83 : decode cX1_countAhead 83 = .ok (.iadd, 1) := by decide +kernel
theorem dX1_countAhead_84 : decode cX1_countAhead 84 = .ok (.istore_n 2, 1) := by decide +kernel
theorem dX1_countAhead_85 : decode cX1_countAhead 85 = .ok (.goto 18, 3) := by decide +kernel
theorem dX1_countAhead_88 : decode cX1_countAhead 88 = .ok (.iload_n 1, 1) := by decide +kernel
theorem dX1_countAhead_89 : decode cX1_countAhead 89 = .ok (.iload 5, 2) := by decide +kernel
theorem dX1_countAhead_91 : decode cX1_countAhead 91 = .ok (.if_icmp .ne 12, 3) := by decide +kernel
theorem dX1_countAhead_94 : decode cX1_countAhead 94 = .ok (.iload_n 2, 1) := by decide +kernel
theorem dX1_countAhead_95 : decode cX1_countAhead 95 = .ok (.aload 4, 2) := by decide +kernel
theorem dX1_countAhead_97 : decode cX1_countAhead 97 = .ok (.iload_n 1, 1) := by decide +kernel
theorem dX1_countAhead_98 : decode cX1_countAhead 98 = .ok (.invokevirtual 161, 3) := by decide +kernel
theorem dX1_countAhead_101 : decode cX1_countAhead 101 = .ok (.iadd, 1) := by decide +kernel
theorem dX1_countAhead_102 : decode cX1_countAhead 102 = .ok (.istore_n 2, 1) := by decide +kernel
theorem dX1_countAhead_103 : decode cX1_countAhead 103 = .ok (.iinc 3 1, 3) := by decide +kernel
theorem dX1_countAhead_106 : decode cX1_countAhead 106 = .ok (.goto (-86), 3) := by decide +kernel
theorem dX1_countAhead_109 : decode cX1_countAhead 109 = .ok (.iload_n 2, 1) := by decide +kernel
theorem dX1_countAhead_110 : decode cX1_countAhead 110 = .ok (.ireturn, 1) := by decide +kernel
theorem dX1_cashOfAll_0 : decode cX1_cashOfAll 0 = .ok (.iconst 0, 1) := by decide +kernel
theorem dX1_cashOfAll_1 : decode cX1_cashOfAll 1 = .ok (.istore_n 2, 1) := by decide +kernel
theorem dX1_cashOfAll_2 : decode cX1_cashOfAll 2 = .ok (.iconst 0, 1) := by decide +kernel
theorem dX1_cashOfAll_3 : decode cX1_cashOfAll 3 = .ok (.istore_n 3, 1) := by decide +kernel
theorem dX1_cashOfAll_4 : decode cX1_cashOfAll 4 = .ok (.iload_n 3, 1) := by decide +kernel
theorem dX1_cashOfAll_5 : decode cX1_cashOfAll 5 = .ok (.aload_n 0, 1) := by decide +kernel
theorem dX1_cashOfAll_6 : decode cX1_cashOfAll 6 = .ok (.getfield 75, 3) := by decide +kernel
theorem dX1_cashOfAll_9 : decode cX1_cashOfAll 9 = .ok (.if_icmp .ge 22, 3) := by decide +kernel
theorem dX1_cashOfAll_12 : decode cX1_cashOfAll 12 = .ok (.iload_n 2, 1) := by decide +kernel
theorem dX1_cashOfAll_13 : decode cX1_cashOfAll 13 = .ok (.aload_n 0, 1) := by decide +kernel
theorem dX1_cashOfAll_14 : decode cX1_cashOfAll 14 = .ok (.getfield 36, 3) := by decide +kernel
theorem dX1_cashOfAll_17 : decode cX1_cashOfAll 17 = .ok (.iload_n 3, 1) := by decide +kernel
theorem dX1_cashOfAll_18 : decode cX1_cashOfAll 18 = .ok (.aaload, 1) := by decide +kernel
theorem dX1_cashOfAll_19 : decode cX1_cashOfAll 19 = .ok (.iload_n 1, 1) := by decide +kernel
theorem dX1_cashOfAll_20 : decode cX1_cashOfAll 20 = .ok (.invokevirtual 202, 3) := by decide +kernel
theorem dX1_cashOfAll_23 : decode cX1_cashOfAll 23 = .ok (.iadd, 1) := by decide +kernel
theorem dX1_cashOfAll_24 : decode cX1_cashOfAll 24 = .ok (.istore_n 2, 1) := by decide +kernel
theorem dX1_cashOfAll_25 : decode cX1_cashOfAll 25 = .ok (.iinc 3 1, 3) := by decide +kernel
theorem dX1_cashOfAll_28 : decode cX1_cashOfAll 28 = .ok (.goto (-24), 3) := by decide +kernel
theorem dX1_cashOfAll_31 : decode cX1_cashOfAll 31 = .ok (.iload_n 2, 1) := by decide +kernel
theorem dX1_cashOfAll_32 : decode cX1_cashOfAll 32 = .ok (.ireturn, 1) := by decide +kernel
theorem dX1_passYear_0 : decode cX1_passYear 0 = .ok (.aload_n 0, 1) := by decide +kernel
theorem dX1_passYear_1 : decode cX1_passYear 1 = .ok (.getfield 63, 3) := by decide +kernel
theorem dX1_passYear_4 : decode cX1_passYear 4 = .ok (.ifCond .lt 12, 3) := by decide +kernel
theorem dX1_passYear_7 : decode cX1_passYear 7 = .ok (.aload_n 0, 1) := by decide +kernel
theorem dX1_passYear_8 : decode cX1_passYear 8 = .ok (.getfield 63, 3) := by decide +kernel
theorem dX1_passYear_11 : decode cX1_passYear 11 = .ok (.bipush 19, 2) := by decide +kernel
theorem dX1_passYear_13 : decode cX1_passYear 13 = .ok (.if_icmp .lt 5, 3) := by decide +kernel
theorem dX1_passYear_16 : decode cX1_passYear 16 = .ok (.iconst 0, 1) := by decide +kernel
theorem dX1_passYear_17 : decode cX1_passYear 17 = .ok (.ireturn, 1) := by decide +kernel
theorem dX1_passYear_18 : decode cX1_passYear 18 = .ok (.aload_n 0, 1) := by decide +kernel
theorem dX1_passYear_19 : decode cX1_passYear 19 = .ok (.getfield 27, 3) := by decide +kernel
theorem dX1_passYear_22 : decode cX1_passYear 22 = .ok (.aload_n 0, 1) := by decide +kernel
theorem dX1_passYear_23 : decode cX1_passYear 23 = .ok (.getfield 63, 3) := by decide +kernel
theorem dX1_passYear_26 : decode cX1_passYear 26 = .ok (.iconst 1, 1) := by decide +kernel
theorem dX1_passYear_27 : decode cX1_passYear 27 = .ok (.iadd, 1) := by decide +kernel
theorem dX1_passYear_28 : decode cX1_passYear 28 = .ok (.iaload, 1) := by decide +kernel
theorem dX1_passYear_29 : decode cX1_passYear 29 = .ok (.iconst 0, 1) := by decide +kernel
theorem dX1_passYear_30 : decode cX1_passYear 30 = .ok (.iload_n 1, 1) := by decide +kernel
theorem dX1_passYear_31 : decode cX1_passYear 31 = .ok (.invokestatic 187, 3) := by decide +kernel
theorem dX1_passYear_34 : decode cX1_passYear 34 = .ok (.iadd, 1) := by decide +kernel
theorem dX1_passYear_35 : decode cX1_passYear 35 = .ok (.aload_n 0, 1) := by decide +kernel
theorem dX1_passYear_36 : decode cX1_passYear 36 = .ok (.invokevirtual 205, 3) := by decide +kernel
theorem dX1_passYear_39 : decode cX1_passYear 39 = .ok (.iadd, 1) := by decide +kernel
theorem dX1_passYear_40 : decode cX1_passYear 40 = .ok (.istore_n 2, 1) := by decide +kernel
theorem dX1_passYear_41 : decode cX1_passYear 41 = .ok (.aload_n 0, 1) := by decide +kernel
theorem dX1_passYear_42 : decode cX1_passYear 42 = .ok (.dup, 1) := by decide +kernel
theorem dX1_passYear_43 : decode cX1_passYear 43 = .ok (.getfield 63, 3) := by decide +kernel
theorem dX1_passYear_46 : decode cX1_passYear 46 = .ok (.iconst 1, 1) := by decide +kernel
theorem dX1_passYear_47 : decode cX1_passYear 47 = .ok (.iadd, 1) := by decide +kernel
theorem dX1_passYear_48 : decode cX1_passYear 48 = .ok (.putfield 63, 3) := by decide +kernel
theorem dX1_passYear_51 : decode cX1_passYear 51 = .ok (.aload_n 0, 1) := by decide +kernel
theorem dX1_passYear_52 : decode cX1_passYear 52 = .ok (.iconst 0, 1) := by decide +kernel
theorem dX1_passYear_53 : decode cX1_passYear 53 = .ok (.putfield 66, 3) := by decide +kernel
theorem dX1_passYear_56 : decode cX1_passYear 56 = .ok (.aload_n 0, 1) := by decide +kernel
theorem dX1_passYear_57 : decode cX1_passYear 57 = .ok (.getfield 27, 3) := by decide +kernel
theorem dX1_passYear_60 : decode cX1_passYear 60 = .ok (.aload_n 0, 1) := by decide +kernel
theorem dX1_passYear_61 : decode cX1_passYear 61 = .ok (.getfield 63, 3) := by decide +kernel
theorem dX1_passYear_64 : decode cX1_passYear 64 = .ok (.iconst 0, 1) := by decide +kernel
theorem dX1_passYear_65 : decode cX1_passYear 65 = .ok (.ldc 208, 2) := by decide +kernel
theorem dX1_passYear_67 : decode cX1_passYear 67 = .ok (.iload_n 2, 1) := by decide +kernel
theorem dX1_passYear_68 : decode cX1_passYear 68 = .ok (.invokestatic 209, 3) := by decide +kernel
theorem dX1_passYear_71 : decode cX1_passYear 71 = .ok (.invokestatic 187, 3) := by decide +kernel
theorem dX1_passYear_74 : decode cX1_passYear 74 = .ok (.iastore, 1) := by decide +kernel
theorem dX1_passYear_75 : decode cX1_passYear 75 = .ok (.iconst 0, 1) := by decide +kernel
theorem dX1_passYear_76 : decode cX1_passYear 76 = .ok (.istore_n 3, 1) := by decide +kernel
theorem dX1_passYear_77 : decode cX1_passYear 77 = .ok (.iconst 0, 1) := by decide +kernel
theorem dX1_passYear_78 : decode cX1_passYear 78 = .ok (.istore 4, 2) := by decide +kernel
theorem dX1_passYear_80 : decode cX1_passYear 80 = .ok (.iload 4, 2) := by decide +kernel
theorem dX1_passYear_82 : decode cX1_passYear 82 = .ok (.aload_n 0, 1) := by decide +kernel
theorem dX1_passYear_83 : decode cX1_passYear 83 = .ok (.getfield 75, 3) := by decide +kernel
theorem dX1_passYear_86 : decode cX1_passYear 86 = .ok (.if_icmp .ge 83, 3) := by decide +kernel
theorem dX1_passYear_89 : decode cX1_passYear 89 = .ok (.aload_n 0, 1) := by decide +kernel
theorem dX1_passYear_90 : decode cX1_passYear 90 = .ok (.getfield 36, 3) := by decide +kernel
theorem dX1_passYear_93 : decode cX1_passYear 93 = .ok (.iload 4, 2) := by decide +kernel
theorem dX1_passYear_95 : decode cX1_passYear 95 = .ok (.aaload, 1) := by decide +kernel
theorem dX1_passYear_96 : decode cX1_passYear 96 = .ok (.astore 5, 2) := by decide +kernel
theorem dX1_passYear_98 : decode cX1_passYear 98 = .ok (.aload 5, 2) := by decide +kernel
theorem dX1_passYear_100 : decode cX1_passYear 100 = .ok (.invokevirtual 102, 3) := by decide +kernel
theorem dX1_passYear_103 : decode cX1_passYear 103 = .ok (.ifCond .eq 60, 3) := by decide +kernel
theorem dX1_passYear_106 : decode cX1_passYear 106 = .ok (.aload 5, 2) := by decide +kernel
theorem dX1_passYear_108 : decode cX1_passYear 108 = .ok (.getfield 106, 3) := by decide +kernel
theorem dX1_passYear_111 : decode cX1_passYear 111 = .ok (.aload 5, 2) := by decide +kernel
theorem dX1_passYear_113 : decode cX1_passYear 113 = .ok (.getfield 113, 3) := by decide +kernel
theorem dX1_passYear_116 : decode cX1_passYear 116 = .ok (.iadd, 1) := by decide +kernel
theorem dX1_passYear_117 : decode cX1_passYear 117 = .ok (.aload_n 0, 1) := by decide +kernel
theorem dX1_passYear_118 : decode cX1_passYear 118 = .ok (.getfield 63, 3) := by decide +kernel
theorem dX1_passYear_121 : decode cX1_passYear 121 = .ok (.if_icmp .gt 42, 3) := by decide +kernel
theorem dX1_passYear_124 : decode cX1_passYear 124 = .ok (.aload 5, 2) := by decide +kernel
theorem dX1_passYear_126 : decode cX1_passYear 126 = .ok (.iconst 2, 1) := by decide +kernel
theorem dX1_passYear_127 : decode cX1_passYear 127 = .ok (.putfield 95, 3) := by decide +kernel
theorem dX1_passYear_130 : decode cX1_passYear 130 = .ok (.aload 5, 2) := by decide +kernel
theorem dX1_passYear_132 : decode cX1_passYear 132 = .ok (.aload_n 0, 1) := by decide +kernel
theorem dX1_passYear_133 : decode cX1_passYear 133 = .ok (.getfield 63, 3) := by decide +kernel
theorem dX1_passYear_136 : decode cX1_passYear 136 = .ok (.putfield 184, 3) := by decide +kernel
theorem dX1_passYear_139 : decode cX1_passYear 139 = .ok (.aload_n 0, 1) := by decide +kernel
theorem dX1_passYear_140 : decode cX1_passYear 140 = .ok (.getfield 31, 3) := by decide +kernel
theorem dX1_passYear_143 : decode cX1_passYear 143 = .ok (.aload_n 0, 1) := by decide +kernel
theorem dX1_passYear_144 : decode cX1_passYear 144 = .ok (.getfield 63, 3) := by decide +kernel
theorem dX1_passYear_147 : decode cX1_passYear 147 = .ok (.dup2, 1) := by decide +kernel
theorem dX1_passYear_148 : decode cX1_passYear 148 = .ok (.iaload, 1) := by decide +kernel
theorem dX1_passYear_149 : decode cX1_passYear 149 = .ok (.aload 5, 2) := by decide +kernel
theorem dX1_passYear_151 : decode cX1_passYear 151 = .ok (.aload_n 0, 1) := by decide +kernel
theorem dX1_passYear_152 : decode cX1_passYear 152 = .ok (.getfield 63, 3) := by decide +kernel
theorem dX1_passYear_155 : decode cX1_passYear 155 = .ok (.invokevirtual 161, 3) := by decide +kernel
theorem dX1_passYear_158 : decode cX1_passYear 158 = .ok (.iadd, 1) := by decide +kernel
theorem dX1_passYear_159 : decode cX1_passYear 159 = .ok (.iastore, 1) := by decide +kernel
theorem dX1_passYear_160 : decode cX1_passYear 160 = .ok (.iinc 3 1, 3) := by decide +kernel
theorem dX1_passYear_163 : decode cX1_passYear 163 = .ok (.iinc 4 1, 3) := by decide +kernel
theorem dX1_passYear_166 : decode cX1_passYear 166 = .ok (.goto (-86), 3) := by decide +kernel
theorem dX1_passYear_169 : decode cX1_passYear 169 = .ok (.iload_n 3, 1) := by decide +kernel
theorem dX1_passYear_170 : decode cX1_passYear 170 = .ok (.ireturn, 1) := by decide +kernel
theorem dX1_promisesSettled_0 : decode cX1_promisesSettled 0 = .ok (.iconst 0, 1) := by decide +kernel
theorem dX1_promisesSettled_1 : decode cX1_promisesSettled 1 = .ok (.istore_n 1, 1) := by decide +kernel
theorem dX1_promisesSettled_2 : decode cX1_promisesSettled 2 = .ok (.iconst 0, 1) := by decide +kernel
theorem dX1_promisesSettled_3 : decode cX1_promisesSettled 3 = .ok (.istore_n 2, 1) := by decide +kernel
theorem dX1_promisesSettled_4 : decode cX1_promisesSettled 4 = .ok (.iload_n 2, 1) := by decide +kernel
theorem dX1_promisesSettled_5 : decode cX1_promisesSettled 5 = .ok (.aload_n 0, 1) := by decide +kernel
theorem dX1_promisesSettled_6 : decode cX1_promisesSettled 6 = .ok (.getfield 43, 3) := by decide +kernel
theorem dX1_promisesSettled_9 : decode cX1_promisesSettled 9 = .ok (.getfield 212, 3) := by decide +kernel
theorem dX1_promisesSettled_12 : decode cX1_promisesSettled 12 = .ok (.if_icmp .ge 61, 3) := by decide +kernel
theorem dX1_promisesSettled_15 : decode cX1_promisesSettled 15 = .ok (.aload_n 0, 1) := by decide +kernel
theorem dX1_promisesSettled_16 : decode cX1_promisesSettled 16 = .ok (.aload_n 0, 1) := by decide +kernel
theorem dX1_promisesSettled_17 : decode cX1_promisesSettled 17 = .ok (.getfield 43, 3) := by decide +kernel
theorem dX1_promisesSettled_20 : decode cX1_promisesSettled 20 = .ok (.getfield 213, 3) := by decide +kernel
theorem dX1_promisesSettled_23 : decode cX1_promisesSettled 23 = .ok (.iload_n 2, 1) := by decide +kernel
theorem dX1_promisesSettled_24 : decode cX1_promisesSettled 24 = .ok (.iaload, 1) := by decide +kernel
theorem dX1_promisesSettled_25 : decode cX1_promisesSettled 25 = .ok (.invokevirtual 98, 3) := by decide +kernel
theorem dX1_promisesSettled_28 : decode cX1_promisesSettled 28 = .ok (.astore_n 3, 1) := by decide +kernel
theorem dX1_promisesSettled_29 : decode cX1_promisesSettled 29 = .ok (.aload_n 3, 1) := by decide +kernel
theorem dX1_promisesSettled_30 : decode cX1_promisesSettled 30 = .ok (.ifnull 37, 3) := by decide +kernel
theorem dX1_promisesSettled_33 : decode cX1_promisesSettled 33 = .ok (.aload_n 3, 1) := by decide +kernel
theorem dX1_promisesSettled_34 : decode cX1_promisesSettled 34 = .ok (.invokevirtual 102, 3) := by decide +kernel
theorem dX1_promisesSettled_37 : decode cX1_promisesSettled 37 = .ok (.ifCond .eq 30, 3) := by decide +kernel
theorem dX1_promisesSettled_40 : decode cX1_promisesSettled 40 = .ok (.aload_n 0, 1) := by decide +kernel
theorem dX1_promisesSettled_41 : decode cX1_promisesSettled 41 = .ok (.getfield 43, 3) := by decide +kernel
theorem dX1_promisesSettled_44 : decode cX1_promisesSettled 44 = .ok (.getfield 216, 3) := by decide +kernel
theorem dX1_promisesSettled_47 : decode cX1_promisesSettled 47 = .ok (.iload_n 2, 1) := by decide +kernel
theorem dX1_promisesSettled_48 : decode cX1_promisesSettled 48 = .ok (.iaload, 1) := by decide +kernel
theorem dX1_promisesSettled_49 : decode cX1_promisesSettled 49 = .ok (.aload_n 0, 1) := by decide +kernel
theorem dX1_promisesSettled_50 : decode cX1_promisesSettled 50 = .ok (.getfield 63, 3) := by decide +kernel
theorem dX1_promisesSettled_53 : decode cX1_promisesSettled 53 = .ok (.if_icmp .ne 14, 3) := by decide +kernel
theorem dX1_promisesSettled_56 : decode cX1_promisesSettled 56 = .ok (.iload_n 1, 1) := by decide +kernel
theorem dX1_promisesSettled_57 : decode cX1_promisesSettled 57 = .ok (.aload_n 0, 1) := by decide +kernel
theorem dX1_promisesSettled_58 : decode cX1_promisesSettled 58 = .ok (.getfield 43, 3) := by decide +kernel
theorem dX1_promisesSettled_61 : decode cX1_promisesSettled 61 = .ok (.iload_n 2, 1) := by decide +kernel
theorem dX1_promisesSettled_62 : decode cX1_promisesSettled 62 = .ok (.invokevirtual 218, 3) := by decide +kernel
theorem dX1_promisesSettled_65 : decode cX1_promisesSettled 65 = .ok (.iadd, 1) := by decide +kernel
theorem dX1_promisesSettled_66 : decode cX1_promisesSettled 66 = .ok (.istore_n 1, 1) := by decide +kernel
theorem dX1_promisesSettled_67 : decode cX1_promisesSettled 67 = .ok (.iinc 2 1, 3) := by decide +kernel
theorem dX1_promisesSettled_70 : decode cX1_promisesSettled 70 = .ok (.goto (-66), 3) := by decide +kernel
theorem dX1_promisesSettled_73 : decode cX1_promisesSettled 73 = .ok (.iload_n 1, 1) := by decide +kernel
theorem dX1_promisesSettled_74 : decode cX1_promisesSettled 74 = .ok (.ireturn, 1) := by decide +kernel
theorem dX2_init_0 : decode cX2_init 0 = .ok (.aload_n 0, 1) := by decide +kernel
theorem dX2_init_1 : decode cX2_init 1 = .ok (.invokespecial 3, 3) := by decide +kernel
theorem dX2_init_4 : decode cX2_init 4 = .ok (.aload_n 0, 1) := by decide +kernel
theorem dX2_init_5 : decode cX2_init 5 = .ok (.iconst 0, 1) := by decide +kernel
theorem dX2_init_6 : decode cX2_init 6 = .ok (.iload_n 1, 1) := by decide +kernel
theorem dX2_init_7 : decode cX2_init 7 = .ok (.invokestatic 9, 3) := by decide +kernel
theorem dX2_init_10 : decode cX2_init 10 = .ok (.newarray .int, 2) := by decide +kernel
theorem dX2_init_12 : decode cX2_init 12 = .ok (.putfield 15, 3) := by decide +kernel
theorem dX2_init_15 : decode cX2_init 15 = .ok (.return_, 1) := by decide +kernel
theorem dX2_at_0 : decode cX2_at 0 = .ok (.iload_n 1, 1) := by decide +kernel
theorem dX2_at_1 : decode cX2_at 1 = .ok (.ifCond .lt 29, 3) := by decide +kernel
theorem dX2_at_4 : decode cX2_at 4 = .ok (.iload_n 1, 1) := by decide +kernel
theorem dX2_at_5 : decode cX2_at 5 = .ok (.aload_n 0, 1) := by decide +kernel
theorem dX2_at_6 : decode cX2_at 6 = .ok (.getfield 21, 3) := by decide +kernel
theorem dX2_at_9 : decode cX2_at 9 = .ok (.if_icmp .ge 21, 3) := by decide +kernel
theorem dX2_at_12 : decode cX2_at 12 = .ok (.iload_n 1, 1) := by decide +kernel
theorem dX2_at_13 : decode cX2_at 13 = .ok (.aload_n 0, 1) := by decide +kernel
theorem dX2_at_14 : decode cX2_at 14 = .ok (.getfield 15, 3) := by decide +kernel
theorem dX2_at_17 : decode cX2_at 17 = .ok (.arraylength, 1) := by decide +kernel
theorem dX2_at_18 : decode cX2_at 18 = .ok (.if_icmp .ge 12, 3) := by decide +kernel
theorem dX2_at_21 : decode cX2_at 21 = .ok (.aload_n 0, 1) := by decide +kernel
theorem dX2_at_22 : decode cX2_at 22 = .ok (.getfield 15, 3) := by decide +kernel
theorem dX2_at_25 : decode cX2_at 25 = .ok (.iload_n 1, 1) := by decide +kernel
theorem dX2_at_26 : decode cX2_at 26 = .ok (.iaload, 1) := by decide +kernel
theorem dX2_at_27 : decode cX2_at 27 = .ok (.goto 4, 3) := by decide +kernel
theorem dX2_at_30 : decode cX2_at 30 = .ok (.iconst (-1), 1) := by decide +kernel
theorem dX2_at_31 : decode cX2_at 31 = .ok (.ireturn, 1) := by decide +kernel
theorem dX2_add_0 : decode cX2_add 0 = .ok (.aload_n 0, 1) := by decide +kernel
theorem dX2_add_1 : decode cX2_add 1 = .ok (.getfield 21, 3) := by decide +kernel
theorem dX2_add_4 : decode cX2_add 4 = .ok (.ifCond .lt 39, 3) := by decide +kernel
theorem dX2_add_7 : decode cX2_add 7 = .ok (.aload_n 0, 1) := by decide +kernel
theorem dX2_add_8 : decode cX2_add 8 = .ok (.getfield 21, 3) := by decide +kernel
theorem dX2_add_11 : decode cX2_add 11 = .ok (.aload_n 0, 1) := by decide +kernel
theorem dX2_add_12 : decode cX2_add 12 = .ok (.getfield 15, 3) := by decide +kernel
theorem dX2_add_15 : decode cX2_add 15 = .ok (.arraylength, 1) := by decide +kernel
theorem dX2_add_16 : decode cX2_add 16 = .ok (.if_icmp .ge 27, 3) := by decide +kernel
theorem dX2_add_19 : decode cX2_add 19 = .ok (.aload_n 0, 1) := by decide +kernel
theorem dX2_add_20 : decode cX2_add 20 = .ok (.getfield 15, 3) := by decide +kernel
theorem dX2_add_23 : decode cX2_add 23 = .ok (.aload_n 0, 1) := by decide +kernel
theorem dX2_add_24 : decode cX2_add 24 = .ok (.getfield 21, 3) := by decide +kernel
theorem dX2_add_27 : decode cX2_add 27 = .ok (.iload_n 1, 1) := by decide +kernel
theorem dX2_add_28 : decode cX2_add 28 = .ok (.sipush 255, 3) := by decide +kernel
theorem dX2_add_31 : decode cX2_add 31 = .ok (.iand, 1) := by decide +kernel
theorem dX2_add_32 : decode cX2_add 32 = .ok (.iastore, 1) := by decide +kernel
theorem dX2_add_33 : decode cX2_add 33 = .ok (.aload_n 0, 1) := by decide +kernel
theorem dX2_add_34 : decode cX2_add 34 = .ok (.dup, 1) := by decide +kernel
theorem dX2_add_35 : decode cX2_add 35 = .ok (.getfield 21, 3) := by decide +kernel
theorem dX2_add_38 : decode cX2_add 38 = .ok (.iconst 1, 1) := by decide +kernel
theorem dX2_add_39 : decode cX2_add 39 = .ok (.iadd, 1) := by decide +kernel
theorem dX2_add_40 : decode cX2_add 40 = .ok (.putfield 21, 3) := by decide +kernel
theorem dX2_add_43 : decode cX2_add 43 = .ok (.return_, 1) := by decide +kernel
theorem dX2_addWord_0 : decode cX2_addWord 0 = .ok (.aload_n 0, 1) := by decide +kernel
theorem dX2_addWord_1 : decode cX2_addWord 1 = .ok (.iload_n 1, 1) := by decide +kernel
theorem dX2_addWord_2 : decode cX2_addWord 2 = .ok (.bipush 24, 2) := by decide +kernel
theorem dX2_addWord_4 : decode cX2_addWord 4 = .ok (.iushr, 1) := by decide +kernel
theorem dX2_addWord_5 : decode cX2_addWord 5 = .ok (.invokevirtual 25, 3) := by decide +kernel
theorem dX2_addWord_8 : decode cX2_addWord 8 = .ok (.aload_n 0, 1) := by decide +kernel
theorem dX2_addWord_9 : decode cX2_addWord 9 = .ok (.iload_n 1, 1) := by decide +kernel
theorem dX2_addWord_10 : decode cX2_addWord 10 = .ok (.bipush 16, 2) := by decide +kernel
theorem dX2_addWord_12 : decode cX2_addWord 12 = .ok (.iushr, 1) := by decide +kernel
theorem dX2_addWord_13 : decode cX2_addWord 13 = .ok (.invokevirtual 25, 3) := by decide +kernel
theorem dX2_addWord_16 : decode cX2_addWord 16 = .ok (.aload_n 0, 1) := by decide +kernel
theorem dX2_addWord_17 : decode cX2_addWord 17 = .ok (.iload_n 1, 1) := by decide +kernel
theorem dX2_addWord_18 : decode cX2_addWord 18 = .ok (.bipush 8, 2) := by decide +kernel
theorem dX2_addWord_20 : decode cX2_addWord 20 = .ok (.iushr, 1) := by decide +kernel
theorem dX2_addWord_21 : decode cX2_addWord 21 = .ok (.invokevirtual 25, 3) := by decide +kernel
theorem dX2_addWord_24 : decode cX2_addWord 24 = .ok (.aload_n 0, 1) := by decide +kernel
theorem dX2_addWord_25 : decode cX2_addWord 25 = .ok (.iload_n 1, 1) := by decide +kernel
theorem dX2_addWord_26 : decode cX2_addWord 26 = .ok (.invokevirtual 25, 3) := by decide +kernel
theorem dX2_addWord_29 : decode cX2_addWord 29 = .ok (.return_, 1) := by decide +kernel
theorem dX2_addNumber_0 : decode cX2_addNumber 0 = .ok (.iload_n 1, 1) := by decide +kernel
theorem dX2_addNumber_1 : decode cX2_addNumber 1 = .ok (.bipush 10, 2) := by decide +kernel
theorem dX2_addNumber_3 : decode cX2_addNumber 3 = .ok (.if_icmp .ge 12, 3) := by decide +kernel
theorem dX2_addNumber_6 : decode cX2_addNumber 6 = .ok (.aload_n 0, 1) := by decide +kernel
theorem dX2_addNumber_7 : decode cX2_addNumber 7 = .ok (.bipush 48, 2) := by decide +kernel
theorem dX2_addNumber_9 : decode cX2_addNumber 9 = .ok (.iload_n 1, 1) := by decide +kernel
theorem dX2_addNumber_10 : decode cX2_addNumber 10 = .ok (.iadd, 1) := by decide +kernel
theorem dX2_addNumber_11 : decode cX2_addNumber 11 = .ok (.invokevirtual 25, 3) := by decide +kernel
theorem dX2_addNumber_14 : decode cX2_addNumber 14 = .ok (.return_, 1) := by decide +kernel
theorem dX2_addNumber_15 : decode cX2_addNumber 15 = .ok (.ldc 29, 2) := by decide +kernel
theorem dX2_addNumber_17 : decode cX2_addNumber 17 = .ok (.istore_n 2, 1) := by decide +kernel
theorem dX2_addNumber_18 : decode cX2_addNumber 18 = .ok (.iconst 0, 1) := by decide +kernel
theorem dX2_addNumber_19 : decode cX2_addNumber 19 = .ok (.istore_n 3, 1) := by decide +kernel
theorem dX2_addNumber_20 : decode cX2_addNumber 20 = .ok (.iload_n 3, 1) := by decide +kernel
theorem dX2_addNumber_21 : decode cX2_addNumber 21 = .ok (.iconst 5, 1) := by decide +kernel
theorem dX2_addNumber_22 : decode cX2_addNumber 22 = .ok (.if_icmp .ge 19, 3) := by decide +kernel
theorem dX2_addNumber_25 : decode cX2_addNumber 25 = .ok (.iload_n 2, 1) := by decide +kernel
theorem dX2_addNumber_26 : decode cX2_addNumber 26 = .ok (.iload_n 1, 1) := by decide +kernel
theorem dX2_addNumber_27 : decode cX2_addNumber 27 = .ok (.if_icmp .le 14, 3) := by decide +kernel
theorem dX2_addNumber_30 : decode cX2_addNumber 30 = .ok (.iload_n 2, 1) := by decide +kernel
theorem dX2_addNumber_31 : decode cX2_addNumber 31 = .ok (.bipush 10, 2) := by decide +kernel
theorem dX2_addNumber_33 : decode cX2_addNumber 33 = .ok (.idiv, 1) := by decide +kernel
theorem dX2_addNumber_34 : decode cX2_addNumber 34 = .ok (.istore_n 2, 1) := by decide +kernel
theorem dX2_addNumber_35 : decode cX2_addNumber 35 = .ok (.iinc 3 1, 3) := by decide +kernel
theorem dX2_addNumber_38 : decode cX2_addNumber 38 = .ok (.goto (-18), 3) := by decide +kernel
theorem dX2_addNumber_41 : decode cX2_addNumber 41 = .ok (.iconst 0, 1) := by decide +kernel
theorem dX2_addNumber_42 : decode cX2_addNumber 42 = .ok (.istore_n 3, 1) := by decide +kernel
theorem dX2_addNumber_43 : decode cX2_addNumber 43 = .ok (.iload_n 3, 1) := by decide +kernel
theorem dX2_addNumber_44 : decode cX2_addNumber 44 = .ok (.bipush 6, 2) := by decide +kernel
theorem dX2_addNumber_46 : decode cX2_addNumber 46 = .ok (.if_icmp .ge 31, 3) := by decide +kernel
theorem dX2_addNumber_49 : decode cX2_addNumber 49 = .ok (.iload_n 2, 1) := by decide +kernel
theorem dX2_addNumber_50 : decode cX2_addNumber 50 = .ok (.ifCond .le 27, 3) := by decide +kernel
theorem dX2_addNumber_53 : decode cX2_addNumber 53 = .ok (.aload_n 0, 1) := by decide +kernel
theorem dX2_addNumber_54 : decode cX2_addNumber 54 = .ok (.bipush 48, 2) := by decide +kernel
theorem dX2_addNumber_56 : decode cX2_addNumber 56 = .ok (.iload_n 1, 1) := by decide +kernel
theorem dX2_addNumber_57 : decode cX2_addNumber 57 = .ok (.iload_n 2, 1) := by decide +kernel
theorem dX2_addNumber_58 : decode cX2_addNumber 58 = .ok (.idiv, 1) := by decide +kernel
theorem dX2_addNumber_59 : decode cX2_addNumber 59 = .ok (.bipush 10, 2) := by decide +kernel
theorem dX2_addNumber_61 : decode cX2_addNumber 61 = .ok (.irem, 1) := by decide +kernel
theorem dX2_addNumber_62 : decode cX2_addNumber 62 = .ok (.iadd, 1) := by decide +kernel
theorem dX2_addNumber_63 : decode cX2_addNumber 63 = .ok (.invokevirtual 25, 3) := by decide +kernel
theorem dX2_addNumber_66 : decode cX2_addNumber 66 = .ok (.iload_n 2, 1) := by decide +kernel
theorem dX2_addNumber_67 : decode cX2_addNumber 67 = .ok (.bipush 10, 2) := by decide +kernel
theorem dX2_addNumber_69 : decode cX2_addNumber 69 = .ok (.idiv, 1) := by decide +kernel
theorem dX2_addNumber_70 : decode cX2_addNumber 70 = .ok (.istore_n 2, 1) := by decide +kernel
theorem dX2_addNumber_71 : decode cX2_addNumber 71 = .ok (.iinc 3 1, 3) := by decide +kernel
theorem dX2_addNumber_74 : decode cX2_addNumber 74 = .ok (.goto (-31), 3) := by decide +kernel
theorem dX2_addNumber_77 : decode cX2_addNumber 77 = .ok (.return_, 1) := by decide +kernel
theorem dX3_init_0 : decode cX3_init 0 = .ok (.aload_n 0, 1) := by decide +kernel
theorem dX3_init_1 : decode cX3_init 1 = .ok (.invokespecial 1, 3) := by decide +kernel
theorem dX3_init_4 : decode cX3_init 4 = .ok (.aload_n 0, 1) := by decide +kernel
theorem dX3_init_5 : decode cX3_init 5 = .ok (.bipush 10, 2) := by decide +kernel
theorem dX3_init_7 : decode cX3_init 7 = .ok (.newarray .int, 2) := by decide +kernel
theorem dX3_init_9 : decode cX3_init 9 = .ok (.putfield 9, 3) := by decide +kernel
theorem dX3_init_12 : decode cX3_init 12 = .ok (.aload_n 0, 1) := by decide +kernel
theorem dX3_init_13 : decode cX3_init 13 = .ok (.bipush 10, 2) := by decide +kernel
theorem dX3_init_15 : decode cX3_init 15 = .ok (.newarray .int, 2) := by decide +kernel
theorem dX3_init_17 : decode cX3_init 17 = .ok (.putfield 13, 3) := by decide +kernel
theorem dX3_init_20 : decode cX3_init 20 = .ok (.aload_n 0, 1) := by decide +kernel
theorem dX3_init_21 : decode cX3_init 21 = .ok (.bipush 10, 2) := by decide +kernel
theorem dX3_init_23 : decode cX3_init 23 = .ok (.newarray .int, 2) := by decide +kernel
theorem dX3_init_25 : decode cX3_init 25 = .ok (.putfield 16, 3) := by decide +kernel
theorem dX3_init_28 : decode cX3_init 28 = .ok (.aload_n 0, 1) := by decide +kernel
theorem dX3_init_29 : decode cX3_init 29 = .ok (.bipush 10, 2) := by decide +kernel
theorem dX3_init_31 : decode cX3_init 31 = .ok (.newarray .int, 2) := by decide +kernel
theorem dX3_init_33 : decode cX3_init 33 = .ok (.putfield 19, 3) := by decide +kernel
theorem dX3_init_36 : decode cX3_init 36 = .ok (.aload_n 0, 1) := by decide +kernel
theorem dX3_init_37 : decode cX3_init 37 = .ok (.bipush 10, 2) := by decide +kernel
theorem dX3_init_39 : decode cX3_init 39 = .ok (.newarray .int, 2) := by decide +kernel
theorem dX3_init_41 : decode cX3_init 41 = .ok (.putfield 22, 3) := by decide +kernel
theorem dX3_init_44 : decode cX3_init 44 = .ok (.aload_n 0, 1) := by decide +kernel
theorem dX3_init_45 : decode cX3_init 45 = .ok (.bipush 10, 2) := by decide +kernel
theorem dX3_init_47 : decode cX3_init 47 = .ok (.newarray .int, 2) := by decide +kernel
theorem dX3_init_49 : decode cX3_init 49 = .ok (.putfield 25, 3) := by decide +kernel
theorem dX3_init_52 : decode cX3_init 52 = .ok (.aload_n 0, 1) := by decide +kernel
theorem dX3_init_53 : decode cX3_init 53 = .ok (.bipush 10, 2) := by decide +kernel
theorem dX3_init_55 : decode cX3_init 55 = .ok (.newarray .int, 2) := by decide +kernel
theorem dX3_init_57 : decode cX3_init 57 = .ok (.putfield 28, 3) := by decide +kernel
theorem dX3_init_60 : decode cX3_init 60 = .ok (.return_, 1) := by decide +kernel
theorem dX3_gather_0 : decode cX3_gather 0 = .ok (.aload_n 2, 1) := by decide +kernel
theorem dX3_gather_1 : decode cX3_gather 1 = .ok (.aload_n 1, 1) := by decide +kernel
theorem dX3_gather_2 : decode cX3_gather 2 = .ok (.invokevirtual 31, 3) := by decide +kernel
theorem dX3_gather_5 : decode cX3_gather 5 = .ok (.aload_n 0, 1) := by decide +kernel
theorem dX3_gather_6 : decode cX3_gather 6 = .ok (.iconst 0, 1) := by decide +kernel
theorem dX3_gather_7 : decode cX3_gather 7 = .ok (.putfield 37, 3) := by decide +kernel
theorem dX3_gather_10 : decode cX3_gather 10 = .ok (.aload_n 0, 1) := by decide +kernel
theorem dX3_gather_11 : decode cX3_gather 11 = .ok (.iconst 0, 1) := by decide +kernel
theorem dX3_gather_12 : decode cX3_gather 12 = .ok (.putfield 41, 3) := by decide +kernel
theorem dX3_gather_15 : decode cX3_gather 15 = .ok (.iconst 0, 1) := by decide +kernel
theorem dX3_gather_16 : decode cX3_gather 16 = .ok (.istore 4, 2) := by decide +kernel
theorem dX3_gather_18 : decode cX3_gather 18 = .ok (.iload 4, 2) := by decide +kernel
theorem dX3_gather_20 : decode cX3_gather 20 = .ok (.aload_n 1, 1) := by decide +kernel
theorem dX3_gather_21 : decode cX3_gather 21 = .ok (.getfield 45, 3) := by decide +kernel
theorem dX3_gather_24 : decode cX3_gather 24 = .ok (.if_icmp .ge 160, 3) := by decide +kernel
theorem dX3_gather_27 : decode cX3_gather 27 = .ok (.aload_n 0, 1) := by decide +kernel
theorem dX3_gather_28 : decode cX3_gather 28 = .ok (.getfield 41, 3) := by decide +kernel
theorem dX3_gather_31 : decode cX3_gather 31 = .ok (.iload_n 3, 1) := by decide +kernel
theorem dX3_gather_32 : decode cX3_gather 32 = .ok (.if_icmp .ge 152, 3) := by decide +kernel
theorem dX3_gather_35 : decode cX3_gather 35 = .ok (.aload_n 1, 1) := by decide +kernel
theorem dX3_gather_36 : decode cX3_gather 36 = .ok (.iload 4, 2) := by decide +kernel
theorem dX3_gather_38 : decode cX3_gather 38 = .ok (.invokevirtual 48, 3) := by decide +kernel
theorem dX3_gather_41 : decode cX3_gather 41 = .ok (.astore 5, 2) := by decide +kernel
theorem dX3_gather_43 : decode cX3_gather 43 = .ok (.aload 5, 2) := by decide +kernel
theorem dX3_gather_45 : decode cX3_gather 45 = .ok (.ifnull 133, 3) := by decide +kernel
theorem dX3_gather_48 : decode cX3_gather 48 = .ok (.aload_n 0, 1) := by decide +kernel
theorem dX3_gather_49 : decode cX3_gather 49 = .ok (.getfield 9, 3) := by decide +kernel
theorem dX3_gather_52 : decode cX3_gather 52 = .ok (.aload_n 0, 1) := by decide +kernel
theorem dX3_gather_53 : decode cX3_gather 53 = .ok (.getfield 41, 3) := by decide +kernel
theorem dX3_gather_56 : decode cX3_gather 56 = .ok (.iload 4, 2) := by decide +kernel
theorem dX3_gather_58 : decode cX3_gather 58 = .ok (.iastore, 1) := by decide +kernel
theorem dX3_gather_59 : decode cX3_gather 59 = .ok (.aload_n 0, 1) := by decide +kernel
theorem dX3_gather_60 : decode cX3_gather 60 = .ok (.getfield 13, 3) := by decide +kernel
theorem dX3_gather_63 : decode cX3_gather 63 = .ok (.aload_n 0, 1) := by decide +kernel
theorem dX3_gather_64 : decode cX3_gather 64 = .ok (.getfield 41, 3) := by decide +kernel
theorem dX3_gather_67 : decode cX3_gather 67 = .ok (.aload_n 1, 1) := by decide +kernel
theorem dX3_gather_68 : decode cX3_gather 68 = .ok (.aload 5, 2) := by decide +kernel
theorem dX3_gather_70 : decode cX3_gather 70 = .ok (.aload_n 1, 1) := by decide +kernel
theorem dX3_gather_71 : decode cX3_gather 71 = .ok (.getfield 52, 3) := by decide +kernel
theorem dX3_gather_74 : decode cX3_gather 74 = .ok (.invokevirtual 55, 3) := by decide +kernel
theorem dX3_gather_77 : decode cX3_gather 77 = .ok (.iastore, 1) := by decide +kernel
theorem dX3_gather_78 : decode cX3_gather 78 = .ok (.aload_n 0, 1) := by decide +kernel
theorem dX3_gather_79 : decode cX3_gather 79 = .ok (.getfield 16, 3) := by decide +kernel
theorem dX3_gather_82 : decode cX3_gather 82 = .ok (.aload_n 0, 1) := by decide +kernel
theorem dX3_gather_83 : decode cX3_gather 83 = .ok (.getfield 41, 3) := by decide +kernel
theorem dX3_gather_86 : decode cX3_gather 86 = .ok (.aload_n 1, 1) := by decide +kernel
theorem dX3_gather_87 : decode cX3_gather 87 = .ok (.aload 5, 2) := by decide +kernel
theorem dX3_gather_89 : decode cX3_gather 89 = .ok (.invokevirtual 58, 3) := by decide +kernel
theorem dX3_gather_92 : decode cX3_gather 92 = .ok (.iastore, 1) := by decide +kernel
theorem dX3_gather_93 : decode cX3_gather 93 = .ok (.aload_n 0, 1) := by decide +kernel
theorem dX3_gather_94 : decode cX3_gather 94 = .ok (.getfield 19, 3) := by decide +kernel
theorem dX3_gather_97 : decode cX3_gather 97 = .ok (.aload_n 0, 1) := by decide +kernel
theorem dX3_gather_98 : decode cX3_gather 98 = .ok (.getfield 41, 3) := by decide +kernel
theorem dX3_gather_101 : decode cX3_gather 101 = .ok (.aload_n 2, 1) := by decide +kernel
theorem dX3_gather_102 : decode cX3_gather 102 = .ok (.getfield 61, 3) := by decide +kernel
theorem dX3_gather_105 : decode cX3_gather 105 = .ok (.iload 4, 2) := by decide +kernel
theorem dX3_gather_107 : decode cX3_gather 107 = .ok (.iaload, 1) := by decide +kernel
theorem dX3_gather_108 : decode cX3_gather 108 = .ok (.iastore, 1) := by decide +kernel
theorem dX3_gather_109 : decode cX3_gather 109 = .ok (.aload_n 0, 1) := by decide +kernel
theorem dX3_gather_110 : decode cX3_gather 110 = .ok (.getfield 22, 3) := by decide +kernel
theorem dX3_gather_113 : decode cX3_gather 113 = .ok (.aload_n 0, 1) := by decide +kernel
theorem dX3_gather_114 : decode cX3_gather 114 = .ok (.getfield 41, 3) := by decide +kernel
theorem dX3_gather_117 : decode cX3_gather 117 = .ok (.aload_n 2, 1) := by decide +kernel
theorem dX3_gather_118 : decode cX3_gather 118 = .ok (.getfield 64, 3) := by decide +kernel
theorem dX3_gather_121 : decode cX3_gather 121 = .ok (.iload 4, 2) := by decide +kernel
theorem dX3_gather_123 : decode cX3_gather 123 = .ok (.iaload, 1) := by decide +kernel
theorem dX3_gather_124 : decode cX3_gather 124 = .ok (.iastore, 1) := by decide +kernel
theorem dX3_gather_125 : decode cX3_gather 125 = .ok (.aload_n 0, 1) := by decide +kernel
theorem dX3_gather_126 : decode cX3_gather 126 = .ok (.getfield 25, 3) := by decide +kernel
theorem dX3_gather_129 : decode cX3_gather 129 = .ok (.aload_n 0, 1) := by decide +kernel
theorem dX3_gather_130 : decode cX3_gather 130 = .ok (.getfield 41, 3) := by decide +kernel
theorem dX3_gather_133 : decode cX3_gather 133 = .ok (.aload_n 1, 1) := by decide +kernel
theorem dX3_gather_134 : decode cX3_gather 134 = .ok (.aload 5, 2) := by decide +kernel
theorem dX3_gather_136 : decode cX3_gather 136 = .ok (.invokevirtual 65, 3) := by decide +kernel
theorem dX3_gather_139 : decode cX3_gather 139 = .ok (.iastore, 1) := by decide +kernel
theorem dX3_gather_140 : decode cX3_gather 140 = .ok (.aload_n 0, 1) := by decide +kernel
theorem dX3_gather_141 : decode cX3_gather 141 = .ok (.getfield 28, 3) := by decide +kernel
theorem dX3_gather_144 : decode cX3_gather 144 = .ok (.aload_n 0, 1) := by decide +kernel
theorem dX3_gather_145 : decode cX3_gather 145 = .ok (.getfield 41, 3) := by decide +kernel
theorem dX3_gather_148 : decode cX3_gather 148 = .ok (.aload 5, 2) := by decide +kernel
theorem dX3_gather_150 : decode cX3_gather 150 = .ok (.aload_n 0, 1) := by decide +kernel
theorem dX3_gather_151 : decode cX3_gather 151 = .ok (.getfield 25, 3) := by decide +kernel
theorem dX3_gather_154 : decode cX3_gather 154 = .ok (.aload_n 0, 1) := by decide +kernel
theorem dX3_gather_155 : decode cX3_gather 155 = .ok (.getfield 41, 3) := by decide +kernel
theorem dX3_gather_158 : decode cX3_gather 158 = .ok (.iaload, 1) := by decide +kernel
theorem dX3_gather_159 : decode cX3_gather 159 = .ok (.aload_n 1, 1) := by decide +kernel
theorem dX3_gather_160 : decode cX3_gather 160 = .ok (.getfield 68, 3) := by decide +kernel
theorem dX3_gather_163 : decode cX3_gather 163 = .ok (.iconst 0, 1) := by decide +kernel
theorem dX3_gather_164 : decode cX3_gather 164 = .ok (.invokevirtual 71, 3) := by decide +kernel
theorem dX3_gather_167 : decode cX3_gather 167 = .ok (.iastore, 1) := by decide +kernel
theorem dX3_gather_168 : decode cX3_gather 168 = .ok (.aload_n 0, 1) := by decide +kernel
theorem dX3_gather_169 : decode cX3_gather 169 = .ok (.dup, 1) := by decide +kernel
theorem dX3_gather_170 : decode cX3_gather 170 = .ok (.getfield 41, 3) := by decide +kernel
theorem dX3_gather_173 : decode cX3_gather 173 = .ok (.iconst 1, 1) := by decide +kernel
theorem dX3_gather_174 : decode cX3_gather 174 = .ok (.iadd, 1) := by decide +kernel
theorem dX3_gather_175 : decode cX3_gather 175 = .ok (.putfield 41, 3) := by decide +kernel
theorem dX3_gather_178 : decode cX3_gather 178 = .ok (.iinc 4 1, 3) := by decide +kernel
theorem dX3_gather_181 : decode cX3_gather 181 = .ok (.goto (-163), 3) := by decide +kernel
theorem dX3_gather_184 : decode cX3_gather 184 = .ok (.return_, 1) := by decide +kernel
theorem dX3_sumOf_0 : decode cX3_sumOf 0 = .ok (.iconst 0, 1) := by decide +kernel
theorem dX3_sumOf_1 : decode cX3_sumOf 1 = .ok (.istore_n 3, 1) := by decide +kernel
theorem dX3_sumOf_2 : decode cX3_sumOf 2 = .ok (.iconst 0, 1) := by decide +kernel
theorem dX3_sumOf_3 : decode cX3_sumOf 3 = .ok (.istore 4, 2) := by decide +kernel
theorem dX3_sumOf_5 : decode cX3_sumOf 5 = .ok (.iload 4, 2) := by decide +kernel
theorem dX3_sumOf_7 : decode cX3_sumOf 7 = .ok (.aload_n 0, 1) := by decide +kernel
theorem dX3_sumOf_8 : decode cX3_sumOf 8 = .ok (.getfield 41, 3) := by decide +kernel
theorem dX3_sumOf_11 : decode cX3_sumOf 11 = .ok (.if_icmp .ge 25, 3) := by decide +kernel
theorem dX3_sumOf_14 : decode cX3_sumOf 14 = .ok (.iload_n 2, 1) := by decide +kernel
theorem dX3_sumOf_15 : decode cX3_sumOf 15 = .ok (.iload 4, 2) := by decide +kernel
theorem dX3_sumOf_17 : decode cX3_sumOf 17 = .ok (.ishr, 1) := by decide +kernel
theorem dX3_sumOf_18 : decode cX3_sumOf 18 = .ok (.iconst 1, 1) := by decide +kernel
theorem dX3_sumOf_19 : decode cX3_sumOf 19 = .ok (.iand, 1) := by decide +kernel
theorem dX3_sumOf_20 : decode cX3_sumOf 20 = .ok (.ifCond .eq 10, 3) := by decide +kernel
theorem dX3_sumOf_23 : decode cX3_sumOf 23 = .ok (.iload_n 3, 1) := by decide +kernel
theorem dX3_sumOf_24 : decode cX3_sumOf 24 = .ok (.aload_n 1, 1) := by decide +kernel
theorem dX3_sumOf_25 : decode cX3_sumOf 25 = .ok (.iload 4, 2) := by decide +kernel
theorem dX3_sumOf_27 : decode cX3_sumOf 27 = .ok (.iaload, 1) := by decide +kernel
theorem dX3_sumOf_28 : decode cX3_sumOf 28 = .ok (.iadd, 1) := by decide +kernel
theorem dX3_sumOf_29 : decode cX3_sumOf 29 = .ok (.istore_n 3, 1) := by decide +kernel
theorem dX3_sumOf_30 : decode cX3_sumOf 30 = .ok (.iinc 4 1, 3) := by decide +kernel
theorem dX3_sumOf_33 : decode cX3_sumOf 33 = .ok (.goto (-28), 3) := by decide +kernel
theorem dX3_sumOf_36 : decode cX3_sumOf 36 = .ok (.iload_n 3, 1) := by decide +kernel
theorem dX3_sumOf_37 : decode cX3_sumOf 37 = .ok (.ireturn, 1) := by decide +kernel
theorem dX3_chooseSet_0 : decode cX3_chooseSet 0 = .ok (.aload_n 0, 1) := by decide +kernel
theorem dX3_chooseSet_1 : decode cX3_chooseSet 1 = .ok (.aload_n 1, 1) := by decide +kernel
theorem dX3_chooseSet_2 : decode cX3_chooseSet 2 = .ok (.aload_n 2, 1) := by decide +kernel
theorem dX3_chooseSet_3 : decode cX3_chooseSet 3 = .ok (.bipush 10, 2) := by decide +kernel
theorem dX3_chooseSet_5 : decode cX3_chooseSet 5 = .ok (.invokevirtual 77, 3) := by decide +kernel
theorem dX3_chooseSet_8 : decode cX3_chooseSet 8 = .ok (.iconst 0, 1) := by decide +kernel
theorem dX3_chooseSet_9 : decode cX3_chooseSet 9 = .ok (.istore 4, 2) := by decide +kernel
theorem dX3_chooseSet_11 : decode cX3_chooseSet 11 = .ok (.iload 4, 2) := by decide +kernel
theorem dX3_chooseSet_13 : decode cX3_chooseSet 13 = .ok (.iconst 1, 1) := by decide +kernel
theorem dX3_chooseSet_14 : decode cX3_chooseSet 14 = .ok (.aload_n 0, 1) := by decide +kernel
theorem dX3_chooseSet_15 : decode cX3_chooseSet 15 = .ok (.getfield 41, 3) := by decide +kernel
theorem dX3_chooseSet_18 : decode cX3_chooseSet 18 = .ok (.ishl, 1) := by decide +kernel
theorem dX3_chooseSet_19 : decode cX3_chooseSet 19 = .ok (.if_icmp .ge 158, 3) := by decide +kernel
theorem dX3_chooseSet_22 : decode cX3_chooseSet 22 = .ok (.aload_n 0, 1) := by decide +kernel
theorem dX3_chooseSet_23 : decode cX3_chooseSet 23 = .ok (.aload_n 0, 1) := by decide +kernel
theorem dX3_chooseSet_24 : decode cX3_chooseSet 24 = .ok (.getfield 16, 3) := by decide +kernel
theorem dX3_chooseSet_27 : decode cX3_chooseSet 27 = .ok (.iload 4, 2) := by decide +kernel
theorem dX3_chooseSet_29 : decode cX3_chooseSet 29 = .ok (.invokevirtual 81, 3) := by decide +kernel
theorem dX3_chooseSet_32 : decode cX3_chooseSet 32 = .ok (.istore 5, 2) := by decide +kernel
theorem dX3_chooseSet_34 : decode cX3_chooseSet 34 = .ok (.iload 5, 2) := by decide +kernel
theorem dX3_chooseSet_36 : decode cX3_chooseSet 36 = .ok (.aload_n 0, 1) := by decide +kernel
theorem dX3_chooseSet_37 : decode cX3_chooseSet 37 = .ok (.getfield 85, 3) := by decide +kernel
theorem dX3_chooseSet_40 : decode cX3_chooseSet 40 = .ok (.if_icmp .lt 27, 3) := by decide +kernel
theorem dX3_chooseSet_43 : decode cX3_chooseSet 43 = .ok (.iload 5, 2) := by decide +kernel
theorem dX3_chooseSet_45 : decode cX3_chooseSet 45 = .ok (.aload_n 0, 1) := by decide +kernel
theorem dX3_chooseSet_46 : decode cX3_chooseSet 46 = .ok (.getfield 85, 3) := by decide +kernel
theorem dX3_chooseSet_49 : decode cX3_chooseSet 49 = .ok (.if_icmp .ne 22, 3) := by decide +kernel
theorem dX3_chooseSet_52 : decode cX3_chooseSet 52 = .ok (.iload 4, 2) := by decide +kernel
theorem dX3_chooseSet_54 : decode cX3_chooseSet 54 = .ok (.invokestatic 88, 3) := by decide +kernel
theorem dX3_chooseSet_57 : decode cX3_chooseSet 57 = .ok (.aload_n 0, 1) := by decide +kernel
theorem dX3_chooseSet_58 : decode cX3_chooseSet 58 = .ok (.getfield 94, 3) := by decide +kernel
theorem dX3_chooseSet_61 : decode cX3_chooseSet 61 = .ok (.invokestatic 88, 3) := by decide +kernel
theorem dX3_chooseSet_64 : decode cX3_chooseSet 64 = .ok (.if_icmp .ge 7, 3) := by decide +kernel
theorem dX3_chooseSet_67 : decode cX3_chooseSet 67 = .ok (.iconst 1, 1) := by decide +kernel
theorem dX3_chooseSet_68 : decode cX3_chooseSet 68 = .ok (.goto 4, 3) := by decide +kernel
theorem dX3_chooseSet_71 : decode cX3_chooseSet 71 = .ok (.iconst 0, 1) := by decide +kernel
theorem dX3_chooseSet_72 : decode cX3_chooseSet 72 = .ok (.istore 6, 2) := by decide +kernel
theorem dX3_chooseSet_74 : decode cX3_chooseSet 74 = .ok (.aload_n 0, 1) := by decide +kernel
theorem dX3_chooseSet_75 : decode cX3_chooseSet 75 = .ok (.getfield 37, 3) := by decide +kernel
theorem dX3_chooseSet_78 : decode cX3_chooseSet 78 = .ok (.ifCond .eq 11, 3) := by decide +kernel
theorem dX3_chooseSet_81 : decode cX3_chooseSet 81 = .ok (.iload 6, 2) := by decide +kernel
theorem dX3_chooseSet_83 : decode cX3_chooseSet 83 = .ok (.ifCond .ne 6, 3) := by decide +kernel
theorem dX3_chooseSet_86 : decode cX3_chooseSet 86 = .ok (.goto 85, 3) := by decide +kernel
theorem dX3_chooseSet_89 : decode cX3_chooseSet 89 = .ok (.iconst 0, 1) := by decide +kernel
theorem dX3_chooseSet_90 : decode cX3_chooseSet 90 = .ok (.istore 7, 2) := by decide +kernel
theorem dX3_chooseSet_92 : decode cX3_chooseSet 92 = .ok (.iload 7, 2) := by decide +kernel
theorem dX3_chooseSet_94 : decode cX3_chooseSet 94 = .ok (.aload_n 0, 1) := by decide +kernel
theorem dX3_chooseSet_95 : decode cX3_chooseSet 95 = .ok (.getfield 41, 3) := by decide +kernel
theorem dX3_chooseSet_98 : decode cX3_chooseSet 98 = .ok (.if_icmp .ge 36, 3) := by decide +kernel
theorem dX3_chooseSet_101 : decode cX3_chooseSet 101 = .ok (.aload_n 2, 1) := by decide +kernel
theorem dX3_chooseSet_102 : decode cX3_chooseSet 102 = .ok (.getfield 97, 3) := by decide +kernel
theorem dX3_chooseSet_105 : decode cX3_chooseSet 105 = .ok (.aload_n 0, 1) := by decide +kernel
theorem dX3_chooseSet_106 : decode cX3_chooseSet 106 = .ok (.getfield 9, 3) := by decide +kernel
theorem dX3_chooseSet_109 : decode cX3_chooseSet 109 = .ok (.iload 7, 2) := by decide +kernel
theorem dX3_chooseSet_111 : decode cX3_chooseSet 111 = .ok (.iaload, 1) := by decide +kernel
theorem dX3_chooseSet_112 : decode cX3_chooseSet 112 = .ok (.iload 4, 2) := by decide +kernel
theorem dX3_chooseSet_114 : decode cX3_chooseSet 114 = .ok (.iload 7, 2) := by decide +kernel
theorem dX3_chooseSet_116 : decode cX3_chooseSet 116 = .ok (.ishr, 1) := by decide +kernel
theorem dX3_chooseSet_117 : decode cX3_chooseSet 117 = .ok (.iconst 1, 1) := by decide +kernel
theorem dX3_chooseSet_118 : decode cX3_chooseSet 118 = .ok (.iand, 1) := by decide +kernel
theorem dX3_chooseSet_119 : decode cX3_chooseSet 119 = .ok (.ifCond .eq 7, 3) := by decide +kernel
theorem dX3_chooseSet_122 : decode cX3_chooseSet 122 = .ok (.iconst 1, 1) := by decide +kernel
theorem dX3_chooseSet_123 : decode cX3_chooseSet 123 = .ok (.goto 4, 3) := by decide +kernel
theorem dX3_chooseSet_126 : decode cX3_chooseSet 126 = .ok (.iconst 0, 1) := by decide +kernel
theorem dX3_chooseSet_127 : decode cX3_chooseSet 127 = .ok (.bastore, 1) := by decide +kernel
theorem dX3_chooseSet_128 : decode cX3_chooseSet 128 = .ok (.iinc 7 1, 3) := by decide +kernel
theorem dX3_chooseSet_131 : decode cX3_chooseSet 131 = .ok (.goto (-39), 3) := by decide +kernel
theorem dX3_chooseSet_134 : decode cX3_chooseSet 134 = .ok (.aload_n 2, 1) := by decide +kernel
theorem dX3_chooseSet_135 : decode cX3_chooseSet 135 = .ok (.aload_n 1, 1) := by decide +kernel
theorem dX3_chooseSet_136 : decode cX3_chooseSet 136 = .ok (.invokevirtual 101, 3) := by decide +kernel
theorem dX3_chooseSet_139 : decode cX3_chooseSet 139 = .ok (.aload_n 0, 1) := by decide +kernel
theorem dX3_chooseSet_140 : decode cX3_chooseSet 140 = .ok (.aload_n 0, 1) := by decide +kernel
theorem dX3_chooseSet_141 : decode cX3_chooseSet 141 = .ok (.getfield 13, 3) := by decide +kernel
theorem dX3_chooseSet_144 : decode cX3_chooseSet 144 = .ok (.iload 4, 2) := by decide +kernel
theorem dX3_chooseSet_146 : decode cX3_chooseSet 146 = .ok (.invokevirtual 81, 3) := by decide +kernel
theorem dX3_chooseSet_149 : decode cX3_chooseSet 149 = .ok (.isub, 1) := by decide +kernel
theorem dX3_chooseSet_150 : decode cX3_chooseSet 150 = .ok (.iload_n 3, 1) := by decide +kernel
theorem dX3_chooseSet_151 : decode cX3_chooseSet 151 = .ok (.if_icmp .lt 20, 3) := by decide +kernel
theorem dX3_chooseSet_154 : decode cX3_chooseSet 154 = .ok (.aload_n 0, 1) := by decide +kernel
theorem dX3_chooseSet_155 : decode cX3_chooseSet 155 = .ok (.iconst 1, 1) := by decide +kernel
theorem dX3_chooseSet_156 : decode cX3_chooseSet 156 = .ok (.putfield 37, 3) := by decide +kernel
theorem dX3_chooseSet_159 : decode cX3_chooseSet 159 = .ok (.aload_n 0, 1) := by decide +kernel
theorem dX3_chooseSet_160 : decode cX3_chooseSet 160 = .ok (.iload 5, 2) := by decide +kernel
theorem dX3_chooseSet_162 : decode cX3_chooseSet 162 = .ok (.putfield 85, 3) := by decide +kernel
theorem dX3_chooseSet_165 : decode cX3_chooseSet 165 = .ok (.aload_n 0, 1) := by decide +kernel
theorem dX3_chooseSet_166 : decode cX3_chooseSet 166 = .ok (.iload 4, 2) := by decide +kernel
theorem dX3_chooseSet_168 : decode cX3_chooseSet 168 = .ok (.putfield 94, 3) := by decide +kernel
theorem dX3_chooseSet_171 : decode cX3_chooseSet 171 = .ok (.iinc 4 1, 3) := by decide +kernel
theorem dX3_chooseSet_174 : decode cX3_chooseSet 174 = .ok (.goto (-163), 3) := by decide +kernel
theorem dX3_chooseSet_177 : decode cX3_chooseSet 177 = .ok (.return_, 1) := by decide +kernel
theorem dX3_chooseFit_0 : decode cX3_chooseFit 0 = .ok (.aload_n 0, 1) := by decide +kernel
theorem dX3_chooseFit_1 : decode cX3_chooseFit 1 = .ok (.aload_n 1, 1) := by decide +kernel
theorem dX3_chooseFit_2 : decode cX3_chooseFit 2 = .ok (.aload_n 2, 1) := by decide +kernel
theorem dX3_chooseFit_3 : decode cX3_chooseFit 3 = .ok (.bipush 6, 2) := by decide +kernel
theorem dX3_chooseFit_5 : decode cX3_chooseFit 5 = .ok (.invokevirtual 77, 3) := by decide +kernel
theorem dX3_chooseFit_8 : decode cX3_chooseFit 8 = .ok (.iconst 1, 1) := by decide +kernel
theorem dX3_chooseFit_9 : decode cX3_chooseFit 9 = .ok (.istore 4, 2) := by decide +kernel
theorem dX3_chooseFit_11 : decode cX3_chooseFit 11 = .ok (.iconst 0, 1) := by decide +kernel
theorem dX3_chooseFit_12 : decode cX3_chooseFit 12 = .ok (.istore 5, 2) := by decide +kernel
theorem dX3_chooseFit_14 : decode cX3_chooseFit 14 = .ok (.iload 5, 2) := by decide +kernel
theorem dX3_chooseFit_16 : decode cX3_chooseFit 16 = .ok (.aload_n 0, 1) := by decide +kernel
theorem dX3_chooseFit_17 : decode cX3_chooseFit 17 = .ok (.getfield 41, 3) := by decide +kernel
theorem dX3_chooseFit_20 : decode cX3_chooseFit 20 = .ok (.if_icmp .ge 15, 3) := by decide +kernel
theorem dX3_chooseFit_23 : decode cX3_chooseFit 23 = .ok (.iload 4, 2) := by decide +kernel
theorem dX3_chooseFit_25 : decode cX3_chooseFit 25 = .ok (.iconst 3, 1) := by decide +kernel
theorem dX3_chooseFit_26 : decode cX3_chooseFit 26 = .ok (.imul, 1) := by decide +kernel
theorem dX3_chooseFit_27 : decode cX3_chooseFit 27 = .ok (.istore 4, 2) := by decide +kernel
theorem dX3_chooseFit_29 : decode cX3_chooseFit 29 = .ok (.iinc 5 1, 3) := by decide +kernel
theorem dX3_chooseFit_32 : decode cX3_chooseFit 32 = .ok (.goto (-18), 3) := by decide +kernel
theorem dX3_chooseFit_35 : decode cX3_chooseFit 35 = .ok (.iconst 0, 1) := by decide +kernel
theorem dX3_chooseFit_36 : decode cX3_chooseFit 36 = .ok (.istore 5, 2) := by decide +kernel
theorem dX3_chooseFit_38 : decode cX3_chooseFit 38 = .ok (.iload 5, 2) := by decide +kernel
theorem dX3_chooseFit_40 : decode cX3_chooseFit 40 = .ok (.iload 4, 2) := by decide +kernel
theorem dX3_chooseFit_42 : decode cX3_chooseFit 42 = .ok (.if_icmp .ge 110, 3) := by decide +kernel
theorem dX3_chooseFit_45 : decode cX3_chooseFit 45 = .ok (.aload_n 0, 1) := by decide +kernel
theorem dX3_chooseFit_46 : decode cX3_chooseFit 46 = .ok (.iload 5, 2) := by decide +kernel
theorem dX3_chooseFit_48 : decode cX3_chooseFit 48 = .ok (.iconst 1, 1) := by decide +kernel
theorem dX3_chooseFit_49 : decode cX3_chooseFit 49 = .ok (.invokevirtual 105, 3) := by decide +kernel
theorem dX3_chooseFit_52 : decode cX3_chooseFit 52 = .ok (.istore 6, 2) := by decide +kernel
theorem dX3_chooseFit_54 : decode cX3_chooseFit 54 = .ok (.aload_n 0, 1) := by decide +kernel
theorem dX3_chooseFit_55 : decode cX3_chooseFit 55 = .ok (.aload_n 0, 1) := by decide +kernel
theorem dX3_chooseFit_56 : decode cX3_chooseFit 56 = .ok (.getfield 16, 3) := by decide +kernel
theorem dX3_chooseFit_59 : decode cX3_chooseFit 59 = .ok (.iload 6, 2) := by decide +kernel
theorem dX3_chooseFit_61 : decode cX3_chooseFit 61 = .ok (.invokevirtual 81, 3) := by decide +kernel
theorem dX3_chooseFit_64 : decode cX3_chooseFit 64 = .ok (.istore 7, 2) := by decide +kernel
theorem dX3_chooseFit_66 : decode cX3_chooseFit 66 = .ok (.aload_n 0, 1) := by decide +kernel
theorem dX3_chooseFit_67 : decode cX3_chooseFit 67 = .ok (.getfield 37, 3) := by decide +kernel
theorem dX3_chooseFit_70 : decode cX3_chooseFit 70 = .ok (.ifCond .eq 15, 3) := by decide +kernel
theorem dX3_chooseFit_73 : decode cX3_chooseFit 73 = .ok (.iload 7, 2) := by decide +kernel
theorem dX3_chooseFit_75 : decode cX3_chooseFit 75 = .ok (.aload_n 0, 1) := by decide +kernel
theorem dX3_chooseFit_76 : decode cX3_chooseFit 76 = .ok (.getfield 85, 3) := by decide +kernel
theorem dX3_chooseFit_79 : decode cX3_chooseFit 79 = .ok (.if_icmp .lt 6, 3) := by decide +kernel
theorem dX3_chooseFit_82 : decode cX3_chooseFit 82 = .ok (.goto 64, 3) := by decide +kernel
theorem dX3_chooseFit_85 : decode cX3_chooseFit 85 = .ok (.aload_n 0, 1) := by decide +kernel
theorem dX3_chooseFit_86 : decode cX3_chooseFit 86 = .ok (.iload 5, 2) := by decide +kernel
theorem dX3_chooseFit_88 : decode cX3_chooseFit 88 = .ok (.iconst 2, 1) := by decide +kernel
theorem dX3_chooseFit_89 : decode cX3_chooseFit 89 = .ok (.invokevirtual 105, 3) := by decide +kernel
theorem dX3_chooseFit_92 : decode cX3_chooseFit 92 = .ok (.istore 8, 2) := by decide +kernel
theorem dX3_chooseFit_94 : decode cX3_chooseFit 94 = .ok (.aload_n 0, 1) := by decide +kernel
theorem dX3_chooseFit_95 : decode cX3_chooseFit 95 = .ok (.aload_n 2, 1) := by decide +kernel
theorem dX3_chooseFit_96 : decode cX3_chooseFit 96 = .ok (.iload 6, 2) := by decide +kernel
theorem dX3_chooseFit_98 : decode cX3_chooseFit 98 = .ok (.iload 8, 2) := by decide +kernel
theorem dX3_chooseFit_100 : decode cX3_chooseFit 100 = .ok (.invokevirtual 109, 3) := by decide +kernel
theorem dX3_chooseFit_103 : decode cX3_chooseFit 103 = .ok (.aload_n 2, 1) := by decide +kernel
theorem dX3_chooseFit_104 : decode cX3_chooseFit 104 = .ok (.aload_n 1, 1) := by decide +kernel
theorem dX3_chooseFit_105 : decode cX3_chooseFit 105 = .ok (.invokevirtual 101, 3) := by decide +kernel
theorem dX3_chooseFit_108 : decode cX3_chooseFit 108 = .ok (.aload_n 0, 1) := by decide +kernel
theorem dX3_chooseFit_109 : decode cX3_chooseFit 109 = .ok (.aload_n 0, 1) := by decide +kernel
theorem dX3_chooseFit_110 : decode cX3_chooseFit 110 = .ok (.getfield 13, 3) := by decide +kernel
theorem dX3_chooseFit_113 : decode cX3_chooseFit 113 = .ok (.iload 6, 2) := by decide +kernel
theorem dX3_chooseFit_115 : decode cX3_chooseFit 115 = .ok (.invokevirtual 81, 3) := by decide +kernel
theorem dX3_chooseFit_118 : decode cX3_chooseFit 118 = .ok (.isub, 1) := by decide +kernel
theorem dX3_chooseFit_119 : decode cX3_chooseFit 119 = .ok (.iload_n 3, 1) := by decide +kernel
theorem dX3_chooseFit_120 : decode cX3_chooseFit 120 = .ok (.if_icmp .lt 26, 3) := by decide +kernel
theorem dX3_chooseFit_123 : decode cX3_chooseFit 123 = .ok (.aload_n 0, 1) := by decide +kernel
theorem dX3_chooseFit_124 : decode cX3_chooseFit 124 = .ok (.iconst 1, 1) := by decide +kernel
theorem dX3_chooseFit_125 : decode cX3_chooseFit 125 = .ok (.putfield 37, 3) := by decide +kernel
theorem dX3_chooseFit_128 : decode cX3_chooseFit 128 = .ok (.aload_n 0, 1) := by decide +kernel
theorem dX3_chooseFit_129 : decode cX3_chooseFit 129 = .ok (.iload 7, 2) := by decide +kernel
theorem dX3_chooseFit_131 : decode cX3_chooseFit 131 = .ok (.putfield 85, 3) := by decide +kernel
theorem dX3_chooseFit_134 : decode cX3_chooseFit 134 = .ok (.aload_n 0, 1) := by decide +kernel
theorem dX3_chooseFit_135 : decode cX3_chooseFit 135 = .ok (.iload 6, 2) := by decide +kernel
theorem dX3_chooseFit_137 : decode cX3_chooseFit 137 = .ok (.putfield 94, 3) := by decide +kernel
theorem dX3_chooseFit_140 : decode cX3_chooseFit 140 = .ok (.aload_n 0, 1) := by decide +kernel
theorem dX3_chooseFit_141 : decode cX3_chooseFit 141 = .ok (.iload 8, 2) := by decide +kernel
theorem dX3_chooseFit_143 : decode cX3_chooseFit 143 = .ok (.putfield 113, 3) := by decide +kernel
theorem dX3_chooseFit_146 : decode cX3_chooseFit 146 = .ok (.iinc 5 1, 3) := by decide +kernel
theorem dX3_chooseFit_149 : decode cX3_chooseFit 149 = .ok (.goto (-111), 3) := by decide +kernel
theorem dX3_chooseFit_152 : decode cX3_chooseFit 152 = .ok (.return_, 1) := by decide +kernel
theorem dX3_digits_0 : decode cX3_digits 0 = .ok (.iconst 0, 1) := by decide +kernel
theorem dX3_digits_1 : decode cX3_digits 1 = .ok (.istore_n 3, 1) := by decide +kernel
theorem dX3_digits_2 : decode cX3_digits 2 = .ok (.iload_n 1, 1) := by decide +kernel
theorem dX3_digits_3 : decode cX3_digits 3 = .ok (.istore 4, 2) := by decide +kernel
theorem dX3_digits_5 : decode cX3_digits 5 = .ok (.iconst 0, 1) := by decide +kernel
theorem dX3_digits_6 : decode cX3_digits 6 = .ok (.istore 5, 2) := by decide +kernel
theorem dX3_digits_8 : decode cX3_digits 8 = .ok (.iload 5, 2) := by decide +kernel
theorem dX3_digits_10 : decode cX3_digits 10 = .ok (.aload_n 0, 1) := by decide +kernel
theorem dX3_digits_11 : decode cX3_digits 11 = .ok (.getfield 41, 3) := by decide +kernel
theorem dX3_digits_14 : decode cX3_digits 14 = .ok (.if_icmp .ge 30, 3) := by decide +kernel
theorem dX3_digits_17 : decode cX3_digits 17 = .ok (.iload 4, 2) := by decide +kernel
theorem dX3_digits_19 : decode cX3_digits 19 = .ok (.iconst 3, 1) := by decide +kernel
theorem dX3_digits_20 : decode cX3_digits 20 = .ok (.irem, 1) := by decide +kernel
theorem dX3_digits_21 : decode cX3_digits 21 = .ok (.iload_n 2, 1) := by decide +kernel
theorem dX3_digits_22 : decode cX3_digits 22 = .ok (.if_icmp .ne 10, 3) := by decide +kernel
theorem dX3_digits_25 : decode cX3_digits 25 = .ok (.iload_n 3, 1) := by decide +kernel
theorem dX3_digits_26 : decode cX3_digits 26 = .ok (.iconst 1, 1) := by decide +kernel
theorem dX3_digits_27 : decode cX3_digits 27 = .ok (.iload 5, 2) := by decide +kernel
theorem dX3_digits_29 : decode cX3_digits 29 = .ok (.ishl, 1) := by decide +kernel
theorem dX3_digits_30 : decode cX3_digits 30 = .ok (.ior, 1) := by decide +kernel
theorem dX3_digits_31 : decode cX3_digits 31 = .ok (.istore_n 3, 1) := by decide +kernel
theorem dX3_digits_32 : decode cX3_digits 32 = .ok (.iload 4, 2) := by decide +kernel
theorem dX3_digits_34 : decode cX3_digits 34 = .ok (.iconst 3, 1) := by decide +kernel
theorem dX3_digits_35 : decode cX3_digits 35 = .ok (.idiv, 1) := by decide +kernel
theorem dX3_digits_36 : decode cX3_digits 36 = .ok (.istore 4, 2) := by decide +kernel
theorem dX3_digits_38 : decode cX3_digits 38 = .ok (.iinc 5 1, 3) := by decide +kernel
theorem dX3_digits_41 : decode cX3_digits 41 = .ok (.goto (-33), 3) := by decide +kernel
theorem dX3_digits_44 : decode cX3_digits 44 = .ok (.iload_n 3, 1) := by decide +kernel
theorem dX3_digits_45 : decode cX3_digits 45 = .ok (.ireturn, 1) := by decide +kernel
theorem dX3_arrange_0 : decode cX3_arrange 0 = .ok (.iconst 0, 1) := by decide +kernel
theorem dX3_arrange_1 : decode cX3_arrange 1 = .ok (.istore 4, 2) := by decide +kernel
theorem dX3_arrange_3 : decode cX3_arrange 3 = .ok (.iload 4, 2) := by decide +kernel
theorem dX3_arrange_5 : decode cX3_arrange 5 = .ok (.aload_n 0, 1) := by decide +kernel
theorem dX3_arrange_6 : decode cX3_arrange 6 = .ok (.getfield 41, 3) := by decide +kernel
theorem dX3_arrange_9 : decode cX3_arrange 9 = .ok (.if_icmp .ge 96, 3) := by decide +kernel
theorem dX3_arrange_12 : decode cX3_arrange 12 = .ok (.aload_n 0, 1) := by decide +kernel
theorem dX3_arrange_13 : decode cX3_arrange 13 = .ok (.getfield 9, 3) := by decide +kernel
theorem dX3_arrange_16 : decode cX3_arrange 16 = .ok (.iload 4, 2) := by decide +kernel
theorem dX3_arrange_18 : decode cX3_arrange 18 = .ok (.iaload, 1) := by decide +kernel
theorem dX3_arrange_19 : decode cX3_arrange 19 = .ok (.istore 5, 2) := by decide +kernel
theorem dX3_arrange_21 : decode cX3_arrange 21 = .ok (.aload_n 1, 1) := by decide +kernel
theorem dX3_arrange_22 : decode cX3_arrange 22 = .ok (.getfield 97, 3) := by decide +kernel
theorem dX3_arrange_25 : decode cX3_arrange 25 = .ok (.iload 5, 2) := by decide +kernel
theorem dX3_arrange_27 : decode cX3_arrange 27 = .ok (.iload_n 2, 1) := by decide +kernel
theorem dX3_arrange_28 : decode cX3_arrange 28 = .ok (.iload 4, 2) := by decide +kernel
theorem dX3_arrange_30 : decode cX3_arrange 30 = .ok (.ishr, 1) := by decide +kernel
theorem dX3_arrange_31 : decode cX3_arrange 31 = .ok (.iconst 1, 1) := by decide +kernel
theorem dX3_arrange_32 : decode cX3_arrange 32 = .ok (.iand, 1) := by decide +kernel
theorem dX3_arrange_33 : decode cX3_arrange 33 = .ok (.ifCond .eq 7, 3) := by decide +kernel
theorem dX3_arrange_36 : decode cX3_arrange 36 = .ok (.iconst 1, 1) := by decide +kernel
theorem dX3_arrange_37 : decode cX3_arrange 37 = .ok (.goto 4, 3) := by decide +kernel
theorem dX3_arrange_40 : decode cX3_arrange 40 = .ok (.iconst 0, 1) := by decide +kernel
theorem dX3_arrange_41 : decode cX3_arrange 41 = .ok (.bastore, 1) := by decide +kernel
theorem dX3_arrange_42 : decode cX3_arrange 42 = .ok (.aload_n 1, 1) := by decide +kernel
theorem dX3_arrange_43 : decode cX3_arrange 43 = .ok (.getfield 61, 3) := by decide +kernel
theorem dX3_arrange_46 : decode cX3_arrange 46 = .ok (.iload 5, 2) := by decide +kernel
theorem dX3_arrange_48 : decode cX3_arrange 48 = .ok (.aload_n 0, 1) := by decide +kernel
theorem dX3_arrange_49 : decode cX3_arrange 49 = .ok (.getfield 19, 3) := by decide +kernel
theorem dX3_arrange_52 : decode cX3_arrange 52 = .ok (.iload 4, 2) := by decide +kernel
theorem dX3_arrange_54 : decode cX3_arrange 54 = .ok (.iaload, 1) := by decide +kernel
theorem dX3_arrange_55 : decode cX3_arrange 55 = .ok (.iastore, 1) := by decide +kernel
theorem dX3_arrange_56 : decode cX3_arrange 56 = .ok (.aload_n 1, 1) := by decide +kernel
theorem dX3_arrange_57 : decode cX3_arrange 57 = .ok (.getfield 64, 3) := by decide +kernel
theorem dX3_arrange_60 : decode cX3_arrange 60 = .ok (.iload 5, 2) := by decide +kernel
theorem dX3_arrange_62 : decode cX3_arrange 62 = .ok (.aload_n 0, 1) := by decide +kernel
theorem dX3_arrange_63 : decode cX3_arrange 63 = .ok (.getfield 22, 3) := by decide +kernel
theorem dX3_arrange_66 : decode cX3_arrange 66 = .ok (.iload 4, 2) := by decide +kernel
theorem dX3_arrange_68 : decode cX3_arrange 68 = .ok (.iaload, 1) := by decide +kernel
theorem dX3_arrange_69 : decode cX3_arrange 69 = .ok (.iastore, 1) := by decide +kernel
theorem dX3_arrange_70 : decode cX3_arrange 70 = .ok (.iload_n 3, 1) := by decide +kernel
theorem dX3_arrange_71 : decode cX3_arrange 71 = .ok (.iload 4, 2) := by decide +kernel
theorem dX3_arrange_73 : decode cX3_arrange 73 = .ok (.ishr, 1) := by decide +kernel
theorem dX3_arrange_74 : decode cX3_arrange 74 = .ok (.iconst 1, 1) := by decide +kernel
theorem dX3_arrange_75 : decode cX3_arrange 75 = .ok (.iand, 1) := by decide +kernel
theorem dX3_arrange_76 : decode cX3_arrange 76 = .ok (.ifCond .eq 23, 3) := by decide +kernel
theorem dX3_arrange_79 : decode cX3_arrange 79 = .ok (.aload_n 1, 1) := by decide +kernel
theorem dX3_arrange_80 : decode cX3_arrange 80 = .ok (.iload 5, 2) := by decide +kernel
theorem dX3_arrange_82 : decode cX3_arrange 82 = .ok (.aload_n 0, 1) := by decide +kernel
theorem dX3_arrange_83 : decode cX3_arrange 83 = .ok (.getfield 25, 3) := by decide +kernel
theorem dX3_arrange_86 : decode cX3_arrange 86 = .ok (.iload 4, 2) := by decide +kernel
theorem dX3_arrange_88 : decode cX3_arrange 88 = .ok (.iaload, 1) := by decide +kernel
theorem dX3_arrange_89 : decode cX3_arrange 89 = .ok (.aload_n 0, 1) := by decide +kernel
theorem dX3_arrange_90 : decode cX3_arrange 90 = .ok (.getfield 28, 3) := by decide +kernel
theorem dX3_arrange_93 : decode cX3_arrange 93 = .ok (.iload 4, 2) := by decide +kernel
theorem dX3_arrange_95 : decode cX3_arrange 95 = .ok (.iaload, 1) := by decide +kernel
theorem dX3_arrange_96 : decode cX3_arrange 96 = .ok (.invokevirtual 116, 3) := by decide +kernel
theorem dX3_arrange_99 : decode cX3_arrange 99 = .ok (.iinc 4 1, 3) := by decide +kernel
theorem dX3_arrange_102 : decode cX3_arrange 102 = .ok (.goto (-99), 3) := by decide +kernel
theorem dX3_arrange_105 : decode cX3_arrange 105 = .ok (.aload_n 1, 1) := by decide +kernel
theorem dX3_arrange_106 : decode cX3_arrange 106 = .ok (.invokevirtual 120, 3) := by decide +kernel
theorem dX3_arrange_109 : decode cX3_arrange 109 = .ok (.return_, 1) := by decide +kernel
theorem dX3_chooseOffers_0 : decode cX3_chooseOffers 0 = .ok (.aload_n 0, 1) := by decide +kernel
theorem dX3_chooseOffers_1 : decode cX3_chooseOffers 1 = .ok (.iconst 0, 1) := by decide +kernel
theorem dX3_chooseOffers_2 : decode cX3_chooseOffers 2 = .ok (.putfield 123, 3) := by decide +kernel
theorem dX3_chooseOffers_5 : decode cX3_chooseOffers 5 = .ok (.aload_n 0, 1) := by decide +kernel
theorem dX3_chooseOffers_6 : decode cX3_chooseOffers 6 = .ok (.iconst 0, 1) := by decide +kernel
theorem dX3_chooseOffers_7 : decode cX3_chooseOffers 7 = .ok (.putfield 94, 3) := by decide +kernel
theorem dX3_chooseOffers_10 : decode cX3_chooseOffers 10 = .ok (.aload_n 0, 1) := by decide +kernel
theorem dX3_chooseOffers_11 : decode cX3_chooseOffers 11 = .ok (.iconst 0, 1) := by decide +kernel
theorem dX3_chooseOffers_12 : decode cX3_chooseOffers 12 = .ok (.putfield 85, 3) := by decide +kernel
theorem dX3_chooseOffers_15 : decode cX3_chooseOffers 15 = .ok (.aload_n 0, 1) := by decide +kernel
theorem dX3_chooseOffers_16 : decode cX3_chooseOffers 16 = .ok (.bipush 10, 2) := by decide +kernel
theorem dX3_chooseOffers_18 : decode cX3_chooseOffers 18 = .ok (.aload_n 1, 1) := by decide +kernel
theorem dX3_chooseOffers_19 : decode cX3_chooseOffers 19 = .ok (.getfield 126, 3) := by decide +kernel
theorem dX3_chooseOffers_22 : decode cX3_chooseOffers 22 = .ok (.invokestatic 129, 3) := by decide +kernel
theorem dX3_chooseOffers_25 : decode cX3_chooseOffers 25 = .ok (.putfield 41, 3) := by decide +kernel
theorem dX3_chooseOffers_28 : decode cX3_chooseOffers 28 = .ok (.iconst 0, 1) := by decide +kernel
theorem dX3_chooseOffers_29 : decode cX3_chooseOffers 29 = .ok (.istore_n 3, 1) := by decide +kernel
theorem dX3_chooseOffers_30 : decode cX3_chooseOffers 30 = .ok (.iload_n 3, 1) := by decide +kernel
theorem dX3_chooseOffers_31 : decode cX3_chooseOffers 31 = .ok (.aload_n 0, 1) := by decide +kernel
theorem dX3_chooseOffers_32 : decode cX3_chooseOffers 32 = .ok (.getfield 41, 3) := by decide +kernel
theorem dX3_chooseOffers_35 : decode cX3_chooseOffers 35 = .ok (.if_icmp .ge 20, 3) := by decide +kernel
theorem dX3_chooseOffers_38 : decode cX3_chooseOffers 38 = .ok (.aload_n 0, 1) := by decide +kernel
theorem dX3_chooseOffers_39 : decode cX3_chooseOffers 39 = .ok (.getfield 19, 3) := by decide +kernel
theorem dX3_chooseOffers_42 : decode cX3_chooseOffers 42 = .ok (.iload_n 3, 1) := by decide +kernel
theorem dX3_chooseOffers_43 : decode cX3_chooseOffers 43 = .ok (.aload_n 1, 1) := by decide +kernel
theorem dX3_chooseOffers_44 : decode cX3_chooseOffers 44 = .ok (.iload_n 3, 1) := by decide +kernel
theorem dX3_chooseOffers_45 : decode cX3_chooseOffers 45 = .ok (.invokevirtual 134, 3) := by decide +kernel
theorem dX3_chooseOffers_48 : decode cX3_chooseOffers 48 = .ok (.iastore, 1) := by decide +kernel
theorem dX3_chooseOffers_49 : decode cX3_chooseOffers 49 = .ok (.iinc 3 1, 3) := by decide +kernel
theorem dX3_chooseOffers_52 : decode cX3_chooseOffers 52 = .ok (.goto (-22), 3) := by decide +kernel
theorem dX3_chooseOffers_55 : decode cX3_chooseOffers 55 = .ok (.iconst 1, 1) := by decide +kernel
theorem dX3_chooseOffers_56 : decode cX3_chooseOffers 56 = .ok (.istore_n 3, 1) := by decide +kernel
theorem dX3_chooseOffers_57 : decode cX3_chooseOffers 57 = .ok (.iload_n 3, 1) := by decide +kernel
theorem dX3_chooseOffers_58 : decode cX3_chooseOffers 58 = .ok (.iconst 1, 1) := by decide +kernel
theorem dX3_chooseOffers_59 : decode cX3_chooseOffers 59 = .ok (.aload_n 0, 1) := by decide +kernel
theorem dX3_chooseOffers_60 : decode cX3_chooseOffers 60 = .ok (.getfield 41, 3) := by decide +kernel
theorem dX3_chooseOffers_63 : decode cX3_chooseOffers 63 = .ok (.ishl, 1) := by decide +kernel
theorem dX3_chooseOffers_64 : decode cX3_chooseOffers 64 = .ok (.if_icmp .ge 98, 3) := by decide +kernel
theorem dX3_chooseOffers_67 : decode cX3_chooseOffers 67 = .ok (.aload_n 0, 1) := by decide +kernel
theorem dX3_chooseOffers_68 : decode cX3_chooseOffers 68 = .ok (.aload_n 1, 1) := by decide +kernel
theorem dX3_chooseOffers_69 : decode cX3_chooseOffers 69 = .ok (.getfield 136, 3) := by decide +kernel
theorem dX3_chooseOffers_72 : decode cX3_chooseOffers 72 = .ok (.iload_n 3, 1) := by decide +kernel
theorem dX3_chooseOffers_73 : decode cX3_chooseOffers 73 = .ok (.invokevirtual 81, 3) := by decide +kernel
theorem dX3_chooseOffers_76 : decode cX3_chooseOffers 76 = .ok (.istore 4, 2) := by decide +kernel
theorem dX3_chooseOffers_78 : decode cX3_chooseOffers 78 = .ok (.iload_n 3, 1) := by decide +kernel
theorem dX3_chooseOffers_79 : decode cX3_chooseOffers 79 = .ok (.invokestatic 88, 3) := by decide +kernel
theorem dX3_chooseOffers_82 : decode cX3_chooseOffers 82 = .ok (.aload_n 0, 1) := by decide +kernel
theorem dX3_chooseOffers_83 : decode cX3_chooseOffers 83 = .ok (.getfield 94, 3) := by decide +kernel
theorem dX3_chooseOffers_86 : decode cX3_chooseOffers 86 = .ok (.invokestatic 88, 3) := by decide +kernel
theorem dX3_chooseOffers_89 : decode cX3_chooseOffers 89 = .ok (.if_icmp .ge 7, 3) := by decide +kernel
theorem dX3_chooseOffers_92 : decode cX3_chooseOffers 92 = .ok (.iconst 1, 1) := by decide +kernel
theorem dX3_chooseOffers_93 : decode cX3_chooseOffers 93 = .ok (.goto 4, 3) := by decide +kernel
theorem dX3_chooseOffers_96 : decode cX3_chooseOffers 96 = .ok (.iconst 0, 1) := by decide +kernel
theorem dX3_chooseOffers_97 : decode cX3_chooseOffers 97 = .ok (.istore 5, 2) := by decide +kernel
theorem dX3_chooseOffers_99 : decode cX3_chooseOffers 99 = .ok (.aload_n 0, 1) := by decide +kernel
theorem dX3_chooseOffers_100 : decode cX3_chooseOffers 100 = .ok (.aload_n 0, 1) := by decide +kernel
theorem dX3_chooseOffers_101 : decode cX3_chooseOffers 101 = .ok (.getfield 19, 3) := by decide +kernel
theorem dX3_chooseOffers_104 : decode cX3_chooseOffers 104 = .ok (.iload_n 3, 1) := by decide +kernel
theorem dX3_chooseOffers_105 : decode cX3_chooseOffers 105 = .ok (.invokevirtual 81, 3) := by decide +kernel
theorem dX3_chooseOffers_108 : decode cX3_chooseOffers 108 = .ok (.istore 6, 2) := by decide +kernel
theorem dX3_chooseOffers_110 : decode cX3_chooseOffers 110 = .ok (.iload 6, 2) := by decide +kernel
theorem dX3_chooseOffers_112 : decode cX3_chooseOffers 112 = .ok (.iload_n 2, 1) := by decide +kernel
theorem dX3_chooseOffers_113 : decode cX3_chooseOffers 113 = .ok (.if_icmp .gt 43, 3) := by decide +kernel
theorem dX3_chooseOffers_116 : decode cX3_chooseOffers 116 = .ok (.iload 4, 2) := by decide +kernel
theorem dX3_chooseOffers_118 : decode cX3_chooseOffers 118 = .ok (.aload_n 0, 1) := by decide +kernel
theorem dX3_chooseOffers_119 : decode cX3_chooseOffers 119 = .ok (.getfield 123, 3) := by decide +kernel
theorem dX3_chooseOffers_122 : decode cX3_chooseOffers 122 = .ok (.if_icmp .gt 17, 3) := by decide +kernel
theorem dX3_chooseOffers_125 : decode cX3_chooseOffers 125 = .ok (.iload 4, 2) := by decide +kernel
theorem dX3_chooseOffers_127 : decode cX3_chooseOffers 127 = .ok (.aload_n 0, 1) := by decide +kernel
theorem dX3_chooseOffers_128 : decode cX3_chooseOffers 128 = .ok (.getfield 123, 3) := by decide +kernel
theorem dX3_chooseOffers_131 : decode cX3_chooseOffers 131 = .ok (.if_icmp .ne 25, 3) := by decide +kernel
theorem dX3_chooseOffers_134 : decode cX3_chooseOffers 134 = .ok (.iload 5, 2) := by decide +kernel
theorem dX3_chooseOffers_136 : decode cX3_chooseOffers 136 = .ok (.ifCond .eq 20, 3) := by decide +kernel
theorem dX3_chooseOffers_139 : decode cX3_chooseOffers 139 = .ok (.aload_n 0, 1) := by decide +kernel
theorem dX3_chooseOffers_140 : decode cX3_chooseOffers 140 = .ok (.iload 4, 2) := by decide +kernel
theorem dX3_chooseOffers_142 : decode cX3_chooseOffers 142 = .ok (.putfield 123, 3) := by decide +kernel
theorem dX3_chooseOffers_145 : decode cX3_chooseOffers 145 = .ok (.aload_n 0, 1) := by decide +kernel
theorem dX3_chooseOffers_146 : decode cX3_chooseOffers 146 = .ok (.iload_n 3, 1) := by decide +kernel
theorem dX3_chooseOffers_147 : decode cX3_chooseOffers 147 = .ok (.putfield 94, 3) := by decide +kernel
theorem dX3_chooseOffers_150 : decode cX3_chooseOffers 150 = .ok (.aload_n 0, 1) := by decide +kernel
theorem dX3_chooseOffers_151 : decode cX3_chooseOffers 151 = .ok (.iload 6, 2) := by decide +kernel
theorem dX3_chooseOffers_153 : decode cX3_chooseOffers 153 = .ok (.putfield 85, 3) := by decide +kernel
theorem dX3_chooseOffers_156 : decode cX3_chooseOffers 156 = .ok (.iinc 3 1, 3) := by decide +kernel
theorem dX3_chooseOffers_159 : decode cX3_chooseOffers 159 = .ok (.goto (-102), 3) := by decide +kernel
theorem dX3_chooseOffers_162 : decode cX3_chooseOffers 162 = .ok (.return_, 1) := by decide +kernel
theorem dX4_init_0 : decode cX4_init 0 = .ok (.aload_n 0, 1) := by decide +kernel
theorem dX4_init_1 : decode cX4_init 1 = .ok (.invokespecial 3, 3) := by decide +kernel
theorem dX4_init_4 : decode cX4_init 4 = .ok (.aload_n 0, 1) := by decide +kernel
theorem dX4_init_5 : decode cX4_init 5 = .ok (.bipush 10, 2) := by decide +kernel
theorem dX4_init_7 : decode cX4_init 7 = .ok (.newarray .int, 2) := by decide +kernel
theorem dX4_init_9 : decode cX4_init 9 = .ok (.putfield 11, 3) := by decide +kernel
theorem dX4_init_12 : decode cX4_init 12 = .ok (.aload_n 0, 1) := by decide +kernel
theorem dX4_init_13 : decode cX4_init 13 = .ok (.bipush 10, 2) := by decide +kernel
theorem dX4_init_15 : decode cX4_init 15 = .ok (.newarray .int, 2) := by decide +kernel
theorem dX4_init_17 : decode cX4_init 17 = .ok (.putfield 15, 3) := by decide +kernel
theorem dX4_init_20 : decode cX4_init 20 = .ok (.aload_n 0, 1) := by decide +kernel
theorem dX4_init_21 : decode cX4_init 21 = .ok (.bipush 10, 2) := by decide +kernel
theorem dX4_init_23 : decode cX4_init 23 = .ok (.newarray .int, 2) := by decide +kernel
theorem dX4_init_25 : decode cX4_init 25 = .ok (.putfield 18, 3) := by decide +kernel
theorem dX4_init_28 : decode cX4_init 28 = .ok (.aload_n 0, 1) := by decide +kernel
theorem dX4_init_29 : decode cX4_init 29 = .ok (.bipush 10, 2) := by decide +kernel
theorem dX4_init_31 : decode cX4_init 31 = .ok (.newarray .int, 2) := by decide +kernel
theorem dX4_init_33 : decode cX4_init 33 = .ok (.putfield 21, 3) := by decide +kernel
theorem dX4_init_36 : decode cX4_init 36 = .ok (.return_, 1) := by decide +kernel
theorem dX4_start_0 : decode cX4_start 0 = .ok (.aload_n 0, 1) := by decide +kernel
theorem dX4_start_1 : decode cX4_start 1 = .ok (.iload_n 1, 1) := by decide +kernel
theorem dX4_start_2 : decode cX4_start 2 = .ok (.putfield 24, 3) := by decide +kernel
theorem dX4_start_5 : decode cX4_start 5 = .ok (.aload_n 0, 1) := by decide +kernel
theorem dX4_start_6 : decode cX4_start 6 = .ok (.iload_n 2, 1) := by decide +kernel
theorem dX4_start_7 : decode cX4_start 7 = .ok (.putfield 28, 3) := by decide +kernel
theorem dX4_start_10 : decode cX4_start 10 = .ok (.aload_n 0, 1) := by decide +kernel
theorem dX4_start_11 : decode cX4_start 11 = .ok (.iload_n 3, 1) := by decide +kernel
theorem dX4_start_12 : decode cX4_start 12 = .ok (.putfield 31, 3) := by decide +kernel
theorem dX4_start_15 : decode cX4_start 15 = .ok (.aload_n 0, 1) := by decide +kernel
theorem dX4_start_16 : decode cX4_start 16 = .ok (.iload 4, 2) := by decide +kernel
theorem dX4_start_18 : decode cX4_start 18 = .ok (.putfield 34, 3) := by decide +kernel
theorem dX4_start_21 : decode cX4_start 21 = .ok (.aload_n 0, 1) := by decide +kernel
theorem dX4_start_22 : decode cX4_start 22 = .ok (.iconst 0, 1) := by decide +kernel
theorem dX4_start_23 : decode cX4_start 23 = .ok (.putfield 37, 3) := by decide +kernel
theorem dX4_start_26 : decode cX4_start 26 = .ok (.aload_n 0, 1) := by decide +kernel
theorem dX4_start_27 : decode cX4_start 27 = .ok (.iconst 0, 1) := by decide +kernel
theorem dX4_start_28 : decode cX4_start 28 = .ok (.putfield 40, 3) := by decide +kernel
theorem dX4_start_31 : decode cX4_start 31 = .ok (.iconst 0, 1) := by decide +kernel
theorem dX4_start_32 : decode cX4_start 32 = .ok (.istore 5, 2) := by decide +kernel
theorem dX4_start_34 : decode cX4_start 34 = .ok (.iload 5, 2) := by decide +kernel
theorem dX4_start_36 : decode cX4_start 36 = .ok (.bipush 10, 2) := by decide +kernel
theorem dX4_start_38 : decode cX4_start 38 = .ok (.if_icmp .ge 41, 3) := by decide +kernel
theorem dX4_start_41 : decode cX4_start 41 = .ok (.aload_n 0, 1) := by decide +kernel
theorem dX4_start_42 : decode cX4_start 42 = .ok (.getfield 11, 3) := by decide +kernel
theorem dX4_start_45 : decode cX4_start 45 = .ok (.iload 5, 2) := by decide +kernel
theorem dX4_start_47 : decode cX4_start 47 = .ok (.iconst 0, 1) := by decide +kernel
theorem dX4_start_48 : decode cX4_start 48 = .ok (.iastore, 1) := by decide +kernel
theorem dX4_start_49 : decode cX4_start 49 = .ok (.aload_n 0, 1) := by decide +kernel
theorem dX4_start_50 : decode cX4_start 50 = .ok (.getfield 15, 3) := by decide +kernel
theorem dX4_start_53 : decode cX4_start 53 = .ok (.iload 5, 2) := by decide +kernel
theorem dX4_start_55 : decode cX4_start 55 = .ok (.iconst 0, 1) := by decide +kernel
theorem dX4_start_56 : decode cX4_start 56 = .ok (.iastore, 1) := by decide +kernel
theorem dX4_start_57 : decode cX4_start 57 = .ok (.aload_n 0, 1) := by decide +kernel
theorem dX4_start_58 : decode cX4_start 58 = .ok (.getfield 18, 3) := by decide +kernel
theorem dX4_start_61 : decode cX4_start 61 = .ok (.iload 5, 2) := by decide +kernel
theorem dX4_start_63 : decode cX4_start 63 = .ok (.iconst 0, 1) := by decide +kernel
theorem dX4_start_64 : decode cX4_start 64 = .ok (.iastore, 1) := by decide +kernel
theorem dX4_start_65 : decode cX4_start 65 = .ok (.aload_n 0, 1) := by decide +kernel
theorem dX4_start_66 : decode cX4_start 66 = .ok (.getfield 21, 3) := by decide +kernel
theorem dX4_start_69 : decode cX4_start 69 = .ok (.iload 5, 2) := by decide +kernel
theorem dX4_start_71 : decode cX4_start 71 = .ok (.iconst 0, 1) := by decide +kernel
theorem dX4_start_72 : decode cX4_start 72 = .ok (.iastore, 1) := by decide +kernel
theorem dX4_start_73 : decode cX4_start 73 = .ok (.iinc 5 1, 3) := by decide +kernel
theorem dX4_start_76 : decode cX4_start 76 = .ok (.goto (-42), 3) := by decide +kernel
theorem dX4_start_79 : decode cX4_start 79 = .ok (.return_, 1) := by decide +kernel
theorem dX4_copyFrom_0 : decode cX4_copyFrom 0 = .ok (.aload_n 0, 1) := by decide +kernel
theorem dX4_copyFrom_1 : decode cX4_copyFrom 1 = .ok (.aload_n 1, 1) := by decide +kernel
theorem dX4_copyFrom_2 : decode cX4_copyFrom 2 = .ok (.getfield 24, 3) := by decide +kernel
theorem dX4_copyFrom_5 : decode cX4_copyFrom 5 = .ok (.putfield 24, 3) := by decide +kernel
theorem dX4_copyFrom_8 : decode cX4_copyFrom 8 = .ok (.aload_n 0, 1) := by decide +kernel
theorem dX4_copyFrom_9 : decode cX4_copyFrom 9 = .ok (.aload_n 1, 1) := by decide +kernel
theorem dX4_copyFrom_10 : decode cX4_copyFrom 10 = .ok (.getfield 28, 3) := by decide +kernel
theorem dX4_copyFrom_13 : decode cX4_copyFrom 13 = .ok (.putfield 28, 3) := by decide +kernel
theorem dX4_copyFrom_16 : decode cX4_copyFrom 16 = .ok (.aload_n 0, 1) := by decide +kernel
theorem dX4_copyFrom_17 : decode cX4_copyFrom 17 = .ok (.aload_n 1, 1) := by decide +kernel
theorem dX4_copyFrom_18 : decode cX4_copyFrom 18 = .ok (.getfield 31, 3) := by decide +kernel
theorem dX4_copyFrom_21 : decode cX4_copyFrom 21 = .ok (.putfield 31, 3) := by decide +kernel
theorem dX4_copyFrom_24 : decode cX4_copyFrom 24 = .ok (.aload_n 0, 1) := by decide +kernel
theorem dX4_copyFrom_25 : decode cX4_copyFrom 25 = .ok (.aload_n 1, 1) := by decide +kernel
theorem dX4_copyFrom_26 : decode cX4_copyFrom 26 = .ok (.getfield 34, 3) := by decide +kernel
theorem dX4_copyFrom_29 : decode cX4_copyFrom 29 = .ok (.putfield 34, 3) := by decide +kernel
theorem dX4_copyFrom_32 : decode cX4_copyFrom 32 = .ok (.aload_n 0, 1) := by decide +kernel
theorem dX4_copyFrom_33 : decode cX4_copyFrom 33 = .ok (.aload_n 1, 1) := by decide +kernel
theorem dX4_copyFrom_34 : decode cX4_copyFrom 34 = .ok (.getfield 37, 3) := by decide +kernel
theorem dX4_copyFrom_37 : decode cX4_copyFrom 37 = .ok (.putfield 37, 3) := by decide +kernel
theorem dX4_copyFrom_40 : decode cX4_copyFrom 40 = .ok (.aload_n 0, 1) := by decide +kernel
theorem dX4_copyFrom_41 : decode cX4_copyFrom 41 = .ok (.aload_n 1, 1) := by decide +kernel
theorem dX4_copyFrom_42 : decode cX4_copyFrom 42 = .ok (.getfield 40, 3) := by decide +kernel
theorem dX4_copyFrom_45 : decode cX4_copyFrom 45 = .ok (.putfield 40, 3) := by decide +kernel
theorem dX4_copyFrom_48 : decode cX4_copyFrom 48 = .ok (.aload_n 1, 1) := by decide +kernel
theorem dX4_copyFrom_49 : decode cX4_copyFrom 49 = .ok (.getfield 11, 3) := by decide +kernel
theorem dX4_copyFrom_52 : decode cX4_copyFrom 52 = .ok (.iconst 0, 1) := by decide +kernel
theorem dX4_copyFrom_53 : decode cX4_copyFrom 53 = .ok (.aload_n 0, 1) := by decide +kernel
theorem dX4_copyFrom_54 : decode cX4_copyFrom 54 = .ok (.getfield 11, 3) := by decide +kernel
theorem dX4_copyFrom_57 : decode cX4_copyFrom 57 = .ok (.iconst 0, 1) := by decide +kernel
theorem dX4_copyFrom_58 : decode cX4_copyFrom 58 = .ok (.bipush 10, 2) := by decide +kernel
theorem dX4_copyFrom_60 : decode cX4_copyFrom 60 = .ok (.invokestatic 43, 3) := by decide +kernel
theorem dX4_copyFrom_63 : decode cX4_copyFrom 63 = .ok (.aload_n 1, 1) := by decide +kernel
theorem dX4_copyFrom_64 : decode cX4_copyFrom 64 = .ok (.getfield 15, 3) := by decide +kernel
theorem dX4_copyFrom_67 : decode cX4_copyFrom 67 = .ok (.iconst 0, 1) := by decide +kernel
theorem dX4_copyFrom_68 : decode cX4_copyFrom 68 = .ok (.aload_n 0, 1) := by decide +kernel
theorem dX4_copyFrom_69 : decode cX4_copyFrom 69 = .ok (.getfield 15, 3) := by decide +kernel
theorem dX4_copyFrom_72 : decode cX4_copyFrom 72 = .ok (.iconst 0, 1) := by decide +kernel
theorem dX4_copyFrom_73 : decode cX4_copyFrom 73 = .ok (.bipush 10, 2) := by decide +kernel
theorem dX4_copyFrom_75 : decode cX4_copyFrom 75 = .ok (.invokestatic 43, 3) := by decide +kernel
theorem dX4_copyFrom_78 : decode cX4_copyFrom 78 = .ok (.aload_n 1, 1) := by decide +kernel
theorem dX4_copyFrom_79 : decode cX4_copyFrom 79 = .ok (.getfield 18, 3) := by decide +kernel
theorem dX4_copyFrom_82 : decode cX4_copyFrom 82 = .ok (.iconst 0, 1) := by decide +kernel
theorem dX4_copyFrom_83 : decode cX4_copyFrom 83 = .ok (.aload_n 0, 1) := by decide +kernel
theorem dX4_copyFrom_84 : decode cX4_copyFrom 84 = .ok (.getfield 18, 3) := by decide +kernel
theorem dX4_copyFrom_87 : decode cX4_copyFrom 87 = .ok (.iconst 0, 1) := by decide +kernel
theorem dX4_copyFrom_88 : decode cX4_copyFrom 88 = .ok (.bipush 10, 2) := by decide +kernel
theorem dX4_copyFrom_90 : decode cX4_copyFrom 90 = .ok (.invokestatic 43, 3) := by decide +kernel
theorem dX4_copyFrom_93 : decode cX4_copyFrom 93 = .ok (.aload_n 1, 1) := by decide +kernel
theorem dX4_copyFrom_94 : decode cX4_copyFrom 94 = .ok (.getfield 21, 3) := by decide +kernel
theorem dX4_copyFrom_97 : decode cX4_copyFrom 97 = .ok (.iconst 0, 1) := by decide +kernel
theorem dX4_copyFrom_98 : decode cX4_copyFrom 98 = .ok (.aload_n 0, 1) := by decide +kernel
theorem dX4_copyFrom_99 : decode cX4_copyFrom 99 = .ok (.getfield 21, 3) := by decide +kernel
theorem dX4_copyFrom_102 : decode cX4_copyFrom 102 = .ok (.iconst 0, 1) := by decide +kernel
theorem dX4_copyFrom_103 : decode cX4_copyFrom 103 = .ok (.bipush 10, 2) := by decide +kernel
theorem dX4_copyFrom_105 : decode cX4_copyFrom 105 = .ok (.invokestatic 43, 3) := by decide +kernel
theorem dX4_copyFrom_108 : decode cX4_copyFrom 108 = .ok (.return_, 1) := by decide +kernel
theorem dX4_plays_0 : decode cX4_plays 0 = .ok (.iload_n 1, 1) := by decide +kernel
theorem dX4_plays_1 : decode cX4_plays 1 = .ok (.aload_n 0, 1) := by decide +kernel
theorem dX4_plays_2 : decode cX4_plays 2 = .ok (.getfield 24, 3) := by decide +kernel
theorem dX4_plays_5 : decode cX4_plays 5 = .ok (.if_icmp .lt 31, 3) := by decide +kernel
theorem dX4_plays_8 : decode cX4_plays 8 = .ok (.iload_n 1, 1) := by decide +kernel
theorem dX4_plays_9 : decode cX4_plays 9 = .ok (.aload_n 0, 1) := by decide +kernel
theorem dX4_plays_10 : decode cX4_plays 10 = .ok (.getfield 24, 3) := by decide +kernel
theorem dX4_plays_13 : decode cX4_plays 13 = .ok (.isub, 1) := by decide +kernel
theorem dX4_plays_14 : decode cX4_plays 14 = .ok (.aload_n 0, 1) := by decide +kernel
theorem dX4_plays_15 : decode cX4_plays 15 = .ok (.getfield 28, 3) := by decide +kernel
theorem dX4_plays_18 : decode cX4_plays 18 = .ok (.if_icmp .ge 18, 3) := by decide +kernel
theorem dX4_plays_21 : decode cX4_plays 21 = .ok (.iload_n 1, 1) := by decide +kernel
theorem dX4_plays_22 : decode cX4_plays 22 = .ok (.aload_n 0, 1) := by decide +kernel
theorem dX4_plays_23 : decode cX4_plays 23 = .ok (.getfield 24, 3) := by decide +kernel
theorem dX4_plays_26 : decode cX4_plays 26 = .ok (.isub, 1) := by decide +kernel
theorem dX4_plays_27 : decode cX4_plays 27 = .ok (.bipush 10, 2) := by decide +kernel
theorem dX4_plays_29 : decode cX4_plays 29 = .ok (.if_icmp .ge 7, 3) := by decide +kernel
theorem dX4_plays_32 : decode cX4_plays 32 = .ok (.iconst 1, 1) := by decide +kernel
theorem dX4_plays_33 : decode cX4_plays 33 = .ok (.goto 4, 3) := by decide +kernel
theorem dX4_plays_36 : decode cX4_plays 36 = .ok (.iconst 0, 1) := by decide +kernel
theorem dX4_plays_37 : decode cX4_plays 37 = .ok (.ireturn, 1) := by decide +kernel
theorem dX4_isOpen_0 : decode cX4_isOpen 0 = .ok (.aload_n 0, 1) := by decide +kernel
theorem dX4_isOpen_1 : decode cX4_isOpen 1 = .ok (.getfield 37, 3) := by decide +kernel
theorem dX4_isOpen_4 : decode cX4_isOpen 4 = .ok (.ifCond .ne 7, 3) := by decide +kernel
theorem dX4_isOpen_7 : decode cX4_isOpen 7 = .ok (.iconst 1, 1) := by decide +kernel
theorem dX4_isOpen_8 : decode cX4_isOpen 8 = .ok (.goto 4, 3) := by decide +kernel
theorem dX4_isOpen_11 : decode cX4_isOpen 11 = .ok (.iconst 0, 1) := by decide +kernel
theorem dX4_isOpen_12 : decode cX4_isOpen 12 = .ok (.ireturn, 1) := by decide +kernel
theorem dX4_lastYear_0 : decode cX4_lastYear 0 = .ok (.aload_n 0, 1) := by decide +kernel
theorem dX4_lastYear_1 : decode cX4_lastYear 1 = .ok (.getfield 24, 3) := by decide +kernel
theorem dX4_lastYear_4 : decode cX4_lastYear 4 = .ok (.aload_n 0, 1) := by decide +kernel
theorem dX4_lastYear_5 : decode cX4_lastYear 5 = .ok (.getfield 28, 3) := by decide +kernel
theorem dX4_lastYear_8 : decode cX4_lastYear 8 = .ok (.iadd, 1) := by decide +kernel
theorem dX4_lastYear_9 : decode cX4_lastYear 9 = .ok (.aload_n 0, 1) := by decide +kernel
theorem dX4_lastYear_10 : decode cX4_lastYear 10 = .ok (.getfield 31, 3) := by decide +kernel
theorem dX4_lastYear_13 : decode cX4_lastYear 13 = .ok (.iadd, 1) := by decide +kernel
theorem dX4_lastYear_14 : decode cX4_lastYear 14 = .ok (.iconst 1, 1) := by decide +kernel
theorem dX4_lastYear_15 : decode cX4_lastYear 15 = .ok (.isub, 1) := by decide +kernel
theorem dX4_lastYear_16 : decode cX4_lastYear 16 = .ok (.ireturn, 1) := by decide +kernel
theorem dX4_yearsLeft_0 : decode cX4_yearsLeft 0 = .ok (.aload_n 0, 1) := by decide +kernel
theorem dX4_yearsLeft_1 : decode cX4_yearsLeft 1 = .ok (.invokevirtual 49, 3) := by decide +kernel
theorem dX4_yearsLeft_4 : decode cX4_yearsLeft 4 = .ok (.ifCond .eq 25, 3) := by decide +kernel
theorem dX4_yearsLeft_7 : decode cX4_yearsLeft 7 = .ok (.aload_n 0, 1) := by decide +kernel
theorem dX4_yearsLeft_8 : decode cX4_yearsLeft 8 = .ok (.iload_n 1, 1) := by decide +kernel
theorem dX4_yearsLeft_9 : decode cX4_yearsLeft 9 = .ok (.invokevirtual 53, 3) := by decide +kernel
theorem dX4_yearsLeft_12 : decode cX4_yearsLeft 12 = .ok (.ifCond .eq 17, 3) := by decide +kernel
theorem dX4_yearsLeft_15 : decode cX4_yearsLeft 15 = .ok (.aload_n 0, 1) := by decide +kernel
theorem dX4_yearsLeft_16 : decode cX4_yearsLeft 16 = .ok (.getfield 24, 3) := by decide +kernel
theorem dX4_yearsLeft_19 : decode cX4_yearsLeft 19 = .ok (.aload_n 0, 1) := by decide +kernel
theorem dX4_yearsLeft_20 : decode cX4_yearsLeft 20 = .ok (.getfield 28, 3) := by decide +kernel
theorem dX4_yearsLeft_23 : decode cX4_yearsLeft 23 = .ok (.iadd, 1) := by decide +kernel
theorem dX4_yearsLeft_24 : decode cX4_yearsLeft 24 = .ok (.iload_n 1, 1) := by decide +kernel
theorem dX4_yearsLeft_25 : decode cX4_yearsLeft 25 = .ok (.isub, 1) := by decide +kernel
theorem dX4_yearsLeft_26 : decode cX4_yearsLeft 26 = .ok (.goto 4, 3) := by decide +kernel
theorem dX4_yearsLeft_29 : decode cX4_yearsLeft 29 = .ok (.iconst 0, 1) := by decide +kernel
theorem dX4_yearsLeft_30 : decode cX4_yearsLeft 30 = .ok (.ireturn, 1) := by decide +kernel
theorem dX4_basePay_0 : decode cX4_basePay 0 = .ok (.aload_n 0, 1) := by decide +kernel
theorem dX4_basePay_1 : decode cX4_basePay 1 = .ok (.iload_n 1, 1) := by decide +kernel
theorem dX4_basePay_2 : decode cX4_basePay 2 = .ok (.invokevirtual 53, 3) := by decide +kernel
theorem dX4_basePay_5 : decode cX4_basePay 5 = .ok (.ifCond .eq 17, 3) := by decide +kernel
theorem dX4_basePay_8 : decode cX4_basePay 8 = .ok (.aload_n 0, 1) := by decide +kernel
theorem dX4_basePay_9 : decode cX4_basePay 9 = .ok (.getfield 11, 3) := by decide +kernel
theorem dX4_basePay_12 : decode cX4_basePay 12 = .ok (.iload_n 1, 1) := by decide +kernel
theorem dX4_basePay_13 : decode cX4_basePay 13 = .ok (.aload_n 0, 1) := by decide +kernel
theorem dX4_basePay_14 : decode cX4_basePay 14 = .ok (.getfield 24, 3) := by decide +kernel
theorem dX4_basePay_17 : decode cX4_basePay 17 = .ok (.isub, 1) := by decide +kernel
theorem dX4_basePay_18 : decode cX4_basePay 18 = .ok (.iaload, 1) := by decide +kernel
theorem dX4_basePay_19 : decode cX4_basePay 19 = .ok (.goto 4, 3) := by decide +kernel
theorem dX4_basePay_22 : decode cX4_basePay 22 = .ok (.iconst 0, 1) := by decide +kernel
theorem dX4_basePay_23 : decode cX4_basePay 23 = .ok (.ireturn, 1) := by decide +kernel
theorem dX4_rosterBonus_0 : decode cX4_rosterBonus 0 = .ok (.aload_n 0, 1) := by decide +kernel
theorem dX4_rosterBonus_1 : decode cX4_rosterBonus 1 = .ok (.iload_n 1, 1) := by decide +kernel
theorem dX4_rosterBonus_2 : decode cX4_rosterBonus 2 = .ok (.invokevirtual 53, 3) := by decide +kernel
theorem dX4_rosterBonus_5 : decode cX4_rosterBonus 5 = .ok (.ifCond .eq 17, 3) := by decide +kernel
theorem dX4_rosterBonus_8 : decode cX4_rosterBonus 8 = .ok (.aload_n 0, 1) := by decide +kernel
theorem dX4_rosterBonus_9 : decode cX4_rosterBonus 9 = .ok (.getfield 15, 3) := by decide +kernel
theorem dX4_rosterBonus_12 : decode cX4_rosterBonus 12 = .ok (.iload_n 1, 1) := by decide +kernel
theorem dX4_rosterBonus_13 : decode cX4_rosterBonus 13 = .ok (.aload_n 0, 1) := by decide +kernel
theorem dX4_rosterBonus_14 : decode cX4_rosterBonus 14 = .ok (.getfield 24, 3) := by decide +kernel
theorem dX4_rosterBonus_17 : decode cX4_rosterBonus 17 = .ok (.isub, 1) := by decide +kernel
theorem dX4_rosterBonus_18 : decode cX4_rosterBonus 18 = .ok (.iaload, 1) := by decide +kernel
theorem dX4_rosterBonus_19 : decode cX4_rosterBonus 19 = .ok (.goto 4, 3) := by decide +kernel
theorem dX4_rosterBonus_22 : decode cX4_rosterBonus 22 = .ok (.iconst 0, 1) := by decide +kernel
theorem dX4_rosterBonus_23 : decode cX4_rosterBonus 23 = .ok (.ireturn, 1) := by decide +kernel
theorem dX4_partsIn_0 : decode cX4_partsIn 0 = .ok (.iload_n 1, 1) := by decide +kernel
theorem dX4_partsIn_1 : decode cX4_partsIn 1 = .ok (.aload_n 0, 1) := by decide +kernel
theorem dX4_partsIn_2 : decode cX4_partsIn 2 = .ok (.getfield 24, 3) := by decide +kernel
theorem dX4_partsIn_5 : decode cX4_partsIn 5 = .ok (.isub, 1) := by decide +kernel
theorem dX4_partsIn_6 : decode cX4_partsIn 6 = .ok (.istore_n 2, 1) := by decide +kernel
theorem dX4_partsIn_7 : decode cX4_partsIn 7 = .ok (.iload_n 2, 1) := by decide +kernel
theorem dX4_partsIn_8 : decode cX4_partsIn 8 = .ok (.ifCond .lt 18, 3) := by decide +kernel
theorem dX4_partsIn_11 : decode cX4_partsIn 11 = .ok (.iload_n 2, 1) := by decide +kernel
theorem dX4_partsIn_12 : decode cX4_partsIn 12 = .ok (.bipush 10, 2) := by decide +kernel
theorem dX4_partsIn_14 : decode cX4_partsIn 14 = .ok (.if_icmp .ge 12, 3) := by decide +kernel
theorem dX4_partsIn_17 : decode cX4_partsIn 17 = .ok (.aload_n 0, 1) := by decide +kernel
theorem dX4_partsIn_18 : decode cX4_partsIn 18 = .ok (.getfield 18, 3) := by decide +kernel
theorem dX4_partsIn_21 : decode cX4_partsIn 21 = .ok (.iload_n 2, 1) := by decide +kernel
theorem dX4_partsIn_22 : decode cX4_partsIn 22 = .ok (.iaload, 1) := by decide +kernel
theorem dX4_partsIn_23 : decode cX4_partsIn 23 = .ok (.goto 4, 3) := by decide +kernel
theorem dX4_partsIn_26 : decode cX4_partsIn 26 = .ok (.iconst 0, 1) := by decide +kernel
theorem dX4_partsIn_27 : decode cX4_partsIn 27 = .ok (.ireturn, 1) := by decide +kernel
theorem dX4_partsFrom_0 : decode cX4_partsFrom 0 = .ok (.iconst 0, 1) := by decide +kernel
theorem dX4_partsFrom_1 : decode cX4_partsFrom 1 = .ok (.istore_n 2, 1) := by decide +kernel
theorem dX4_partsFrom_2 : decode cX4_partsFrom 2 = .ok (.iconst 0, 1) := by decide +kernel
theorem dX4_partsFrom_3 : decode cX4_partsFrom 3 = .ok (.iload_n 1, 1) := by decide +kernel
theorem dX4_partsFrom_4 : decode cX4_partsFrom 4 = .ok (.aload_n 0, 1) := by decide +kernel
theorem dX4_partsFrom_5 : decode cX4_partsFrom 5 = .ok (.getfield 24, 3) := by decide +kernel
theorem dX4_partsFrom_8 : decode cX4_partsFrom 8 = .ok (.isub, 1) := by decide +kernel
theorem dX4_partsFrom_9 : decode cX4_partsFrom 9 = .ok (.invokestatic 57, 3) := by decide +kernel
theorem dX4_partsFrom_12 : decode cX4_partsFrom 12 = .ok (.istore_n 3, 1) := by decide +kernel
theorem dX4_partsFrom_13 : decode cX4_partsFrom 13 = .ok (.iload_n 3, 1) := by decide +kernel
theorem dX4_partsFrom_14 : decode cX4_partsFrom 14 = .ok (.bipush 10, 2) := by decide +kernel
theorem dX4_partsFrom_16 : decode cX4_partsFrom 16 = .ok (.if_icmp .ge 18, 3) := by decide +kernel
theorem dX4_partsFrom_19 : decode cX4_partsFrom 19 = .ok (.iload_n 2, 1) := by decide +kernel
theorem dX4_partsFrom_20 : decode cX4_partsFrom 20 = .ok (.aload_n 0, 1) := by decide +kernel
theorem dX4_partsFrom_21 : decode cX4_partsFrom 21 = .ok (.getfield 18, 3) := by decide +kernel
theorem dX4_partsFrom_24 : decode cX4_partsFrom 24 = .ok (.iload_n 3, 1) := by decide +kernel
theorem dX4_partsFrom_25 : decode cX4_partsFrom 25 = .ok (.iaload, 1) := by decide +kernel
theorem dX4_partsFrom_26 : decode cX4_partsFrom 26 = .ok (.iadd, 1) := by decide +kernel
theorem dX4_partsFrom_27 : decode cX4_partsFrom 27 = .ok (.istore_n 2, 1) := by decide +kernel
theorem dX4_partsFrom_28 : decode cX4_partsFrom 28 = .ok (.iinc 3 1, 3) := by decide +kernel
theorem dX4_partsFrom_31 : decode cX4_partsFrom 31 = .ok (.goto (-18), 3) := by decide +kernel
theorem dX4_partsFrom_34 : decode cX4_partsFrom 34 = .ok (.iload_n 2, 1) := by decide +kernel
theorem dX4_partsFrom_35 : decode cX4_partsFrom 35 = .ok (.ireturn, 1) := by decide +kernel
theorem dX4_hit_0 : decode cX4_hit 0 = .ok (.aload_n 0, 1) := by decide +kernel
theorem dX4_hit_1 : decode cX4_hit 1 = .ok (.iload_n 1, 1) := by decide +kernel
theorem dX4_hit_2 : decode cX4_hit 2 = .ok (.invokevirtual 63, 3) := by decide +kernel
theorem dX4_hit_5 : decode cX4_hit 5 = .ok (.aload_n 0, 1) := by decide +kernel
theorem dX4_hit_6 : decode cX4_hit 6 = .ok (.iload_n 1, 1) := by decide +kernel
theorem dX4_hit_7 : decode cX4_hit 7 = .ok (.invokevirtual 67, 3) := by decide +kernel
theorem dX4_hit_10 : decode cX4_hit 10 = .ok (.iadd, 1) := by decide +kernel
theorem dX4_hit_11 : decode cX4_hit 11 = .ok (.aload_n 0, 1) := by decide +kernel
theorem dX4_hit_12 : decode cX4_hit 12 = .ok (.iload_n 1, 1) := by decide +kernel
theorem dX4_hit_13 : decode cX4_hit 13 = .ok (.invokevirtual 70, 3) := by decide +kernel
theorem dX4_hit_16 : decode cX4_hit 16 = .ok (.iadd, 1) := by decide +kernel
theorem dX4_hit_17 : decode cX4_hit 17 = .ok (.ireturn, 1) := by decide +kernel
theorem dX4_sureBase_0 : decode cX4_sureBase 0 = .ok (.iload_n 1, 1) := by decide +kernel
theorem dX4_sureBase_1 : decode cX4_sureBase 1 = .ok (.aload_n 0, 1) := by decide +kernel
theorem dX4_sureBase_2 : decode cX4_sureBase 2 = .ok (.getfield 24, 3) := by decide +kernel
theorem dX4_sureBase_5 : decode cX4_sureBase 5 = .ok (.if_icmp .ne 20, 3) := by decide +kernel
theorem dX4_sureBase_8 : decode cX4_sureBase 8 = .ok (.aload_n 0, 1) := by decide +kernel
theorem dX4_sureBase_9 : decode cX4_sureBase 9 = .ok (.getfield 11, 3) := by decide +kernel
theorem dX4_sureBase_12 : decode cX4_sureBase 12 = .ok (.iconst 0, 1) := by decide +kernel
theorem dX4_sureBase_13 : decode cX4_sureBase 13 = .ok (.iaload, 1) := by decide +kernel
theorem dX4_sureBase_14 : decode cX4_sureBase 14 = .ok (.aload_n 0, 1) := by decide +kernel
theorem dX4_sureBase_15 : decode cX4_sureBase 15 = .ok (.getfield 34, 3) := by decide +kernel
theorem dX4_sureBase_18 : decode cX4_sureBase 18 = .ok (.imul, 1) := by decide +kernel
theorem dX4_sureBase_19 : decode cX4_sureBase 19 = .ok (.bipush 100, 2) := by decide +kernel
theorem dX4_sureBase_21 : decode cX4_sureBase 21 = .ok (.idiv, 1) := by decide +kernel
theorem dX4_sureBase_22 : decode cX4_sureBase 22 = .ok (.goto 4, 3) := by decide +kernel
theorem dX4_sureBase_25 : decode cX4_sureBase 25 = .ok (.iconst 0, 1) := by decide +kernel
theorem dX4_sureBase_26 : decode cX4_sureBase 26 = .ok (.ireturn, 1) := by decide +kernel
theorem dX4_cashIn_0 : decode cX4_cashIn 0 = .ok (.iload_n 1, 1) := by decide +kernel
theorem dX4_cashIn_1 : decode cX4_cashIn 1 = .ok (.aload_n 0, 1) := by decide +kernel
theorem dX4_cashIn_2 : decode cX4_cashIn 2 = .ok (.getfield 24, 3) := by decide +kernel
theorem dX4_cashIn_5 : decode cX4_cashIn 5 = .ok (.isub, 1) := by decide +kernel
theorem dX4_cashIn_6 : decode cX4_cashIn 6 = .ok (.istore_n 2, 1) := by decide +kernel
theorem dX4_cashIn_7 : decode cX4_cashIn 7 = .ok (.iload_n 2, 1) := by decide +kernel
theorem dX4_cashIn_8 : decode cX4_cashIn 8 = .ok (.ifCond .lt 18, 3) := by decide +kernel
theorem dX4_cashIn_11 : decode cX4_cashIn 11 = .ok (.iload_n 2, 1) := by decide +kernel
theorem dX4_cashIn_12 : decode cX4_cashIn 12 = .ok (.bipush 10, 2) := by decide +kernel
theorem dX4_cashIn_14 : decode cX4_cashIn 14 = .ok (.if_icmp .ge 12, 3) := by decide +kernel
theorem dX4_cashIn_17 : decode cX4_cashIn 17 = .ok (.aload_n 0, 1) := by decide +kernel
theorem dX4_cashIn_18 : decode cX4_cashIn 18 = .ok (.getfield 21, 3) := by decide +kernel
theorem dX4_cashIn_21 : decode cX4_cashIn 21 = .ok (.iload_n 2, 1) := by decide +kernel
theorem dX4_cashIn_22 : decode cX4_cashIn 22 = .ok (.iaload, 1) := by decide +kernel
theorem dX4_cashIn_23 : decode cX4_cashIn 23 = .ok (.goto 4, 3) := by decide +kernel
theorem dX4_cashIn_26 : decode cX4_cashIn 26 = .ok (.iconst 0, 1) := by decide +kernel
theorem dX4_cashIn_27 : decode cX4_cashIn 27 = .ok (.istore_n 3, 1) := by decide +kernel
theorem dX4_cashIn_28 : decode cX4_cashIn 28 = .ok (.aload_n 0, 1) := by decide +kernel
theorem dX4_cashIn_29 : decode cX4_cashIn 29 = .ok (.invokevirtual 49, 3) := by decide +kernel
theorem dX4_cashIn_32 : decode cX4_cashIn 32 = .ok (.ifCond .ne 11, 3) := by decide +kernel
theorem dX4_cashIn_35 : decode cX4_cashIn 35 = .ok (.iload_n 1, 1) := by decide +kernel
theorem dX4_cashIn_36 : decode cX4_cashIn 36 = .ok (.aload_n 0, 1) := by decide +kernel
theorem dX4_cashIn_37 : decode cX4_cashIn 37 = .ok (.getfield 40, 3) := by decide +kernel
theorem dX4_cashIn_40 : decode cX4_cashIn 40 = .ok (.if_icmp .ge 19, 3) := by decide +kernel
theorem dX4_cashIn_43 : decode cX4_cashIn 43 = .ok (.iload_n 3, 1) := by decide +kernel
theorem dX4_cashIn_44 : decode cX4_cashIn 44 = .ok (.aload_n 0, 1) := by decide +kernel
theorem dX4_cashIn_45 : decode cX4_cashIn 45 = .ok (.iload_n 1, 1) := by decide +kernel
theorem dX4_cashIn_46 : decode cX4_cashIn 46 = .ok (.invokevirtual 63, 3) := by decide +kernel
theorem dX4_cashIn_49 : decode cX4_cashIn 49 = .ok (.iadd, 1) := by decide +kernel
theorem dX4_cashIn_50 : decode cX4_cashIn 50 = .ok (.aload_n 0, 1) := by decide +kernel
theorem dX4_cashIn_51 : decode cX4_cashIn 51 = .ok (.iload_n 1, 1) := by decide +kernel
theorem dX4_cashIn_52 : decode cX4_cashIn 52 = .ok (.invokevirtual 67, 3) := by decide +kernel
theorem dX4_cashIn_55 : decode cX4_cashIn 55 = .ok (.iadd, 1) := by decide +kernel
theorem dX4_cashIn_56 : decode cX4_cashIn 56 = .ok (.goto 4, 3) := by decide +kernel
theorem dX4_cashIn_59 : decode cX4_cashIn 59 = .ok (.iload_n 3, 1) := by decide +kernel
theorem dX4_cashIn_60 : decode cX4_cashIn 60 = .ok (.ireturn, 1) := by decide +kernel
theorem dX4_putPay_0 : decode cX4_putPay 0 = .ok (.iload_n 1, 1) := by decide +kernel
theorem dX4_putPay_1 : decode cX4_putPay 1 = .ok (.ifCond .lt 23, 3) := by decide +kernel
theorem dX4_putPay_4 : decode cX4_putPay 4 = .ok (.iload_n 1, 1) := by decide +kernel
theorem dX4_putPay_5 : decode cX4_putPay 5 = .ok (.bipush 10, 2) := by decide +kernel
theorem dX4_putPay_7 : decode cX4_putPay 7 = .ok (.if_icmp .ge 17, 3) := by decide +kernel
theorem dX4_putPay_10 : decode cX4_putPay 10 = .ok (.aload_n 0, 1) := by decide +kernel
theorem dX4_putPay_11 : decode cX4_putPay 11 = .ok (.getfield 11, 3) := by decide +kernel
theorem dX4_putPay_14 : decode cX4_putPay 14 = .ok (.iload_n 1, 1) := by decide +kernel
theorem dX4_putPay_15 : decode cX4_putPay 15 = .ok (.iload_n 2, 1) := by decide +kernel
theorem dX4_putPay_16 : decode cX4_putPay 16 = .ok (.iastore, 1) := by decide +kernel
theorem dX4_putPay_17 : decode cX4_putPay 17 = .ok (.aload_n 0, 1) := by decide +kernel
theorem dX4_putPay_18 : decode cX4_putPay 18 = .ok (.getfield 15, 3) := by decide +kernel
theorem dX4_putPay_21 : decode cX4_putPay 21 = .ok (.iload_n 1, 1) := by decide +kernel
theorem dX4_putPay_22 : decode cX4_putPay 22 = .ok (.iload_n 3, 1) := by decide +kernel
theorem dX4_putPay_23 : decode cX4_putPay 23 = .ok (.iastore, 1) := by decide +kernel
theorem dX4_putPay_24 : decode cX4_putPay 24 = .ok (.return_, 1) := by decide +kernel
theorem dX4_takeFromBase_0 : decode cX4_takeFromBase 0 = .ok (.aload_n 0, 1) := by decide +kernel
theorem dX4_takeFromBase_1 : decode cX4_takeFromBase 1 = .ok (.iload_n 1, 1) := by decide +kernel
theorem dX4_takeFromBase_2 : decode cX4_takeFromBase 2 = .ok (.invokevirtual 53, 3) := by decide +kernel
theorem dX4_takeFromBase_5 : decode cX4_takeFromBase 5 = .ok (.ifCond .eq 18, 3) := by decide +kernel
theorem dX4_takeFromBase_8 : decode cX4_takeFromBase 8 = .ok (.aload_n 0, 1) := by decide +kernel
theorem dX4_takeFromBase_9 : decode cX4_takeFromBase 9 = .ok (.getfield 11, 3) := by decide +kernel
theorem dX4_takeFromBase_12 : decode cX4_takeFromBase 12 = .ok (.iload_n 1, 1) := by decide +kernel
theorem dX4_takeFromBase_13 : decode cX4_takeFromBase 13 = .ok (.aload_n 0, 1) := by decide +kernel
theorem dX4_takeFromBase_14 : decode cX4_takeFromBase 14 = .ok (.getfield 24, 3) := by decide +kernel
theorem dX4_takeFromBase_17 : decode cX4_takeFromBase 17 = .ok (.isub, 1) := by decide +kernel
theorem dX4_takeFromBase_18 : decode cX4_takeFromBase 18 = .ok (.dup2, 1) := by decide +kernel
theorem dX4_takeFromBase_19 : decode cX4_takeFromBase 19 = .ok (.iaload, 1) := by decide +kernel
theorem dX4_takeFromBase_20 : decode cX4_takeFromBase 20 = .ok (.iload_n 2, 1) := by decide +kernel
theorem dX4_takeFromBase_21 : decode cX4_takeFromBase 21 = .ok (.isub, 1) := by decide +kernel
theorem dX4_takeFromBase_22 : decode cX4_takeFromBase 22 = .ok (.iastore, 1) := by decide +kernel
theorem dX4_takeFromBase_23 : decode cX4_takeFromBase 23 = .ok (.return_, 1) := by decide +kernel
theorem dX4_addYears_0 : decode cX4_addYears 0 = .ok (.iconst 0, 1) := by decide +kernel
theorem dX4_addYears_1 : decode cX4_addYears 1 = .ok (.istore_n 3, 1) := by decide +kernel
theorem dX4_addYears_2 : decode cX4_addYears 2 = .ok (.iload_n 3, 1) := by decide +kernel
theorem dX4_addYears_3 : decode cX4_addYears 3 = .ok (.iload_n 1, 1) := by decide +kernel
theorem dX4_addYears_4 : decode cX4_addYears 4 = .ok (.if_icmp .ge 21, 3) := by decide +kernel
theorem dX4_addYears_7 : decode cX4_addYears 7 = .ok (.aload_n 0, 1) := by decide +kernel
theorem dX4_addYears_8 : decode cX4_addYears 8 = .ok (.aload_n 0, 1) := by decide +kernel
theorem dX4_addYears_9 : decode cX4_addYears 9 = .ok (.getfield 28, 3) := by decide +kernel
theorem dX4_addYears_12 : decode cX4_addYears 12 = .ok (.iload_n 3, 1) := by decide +kernel
theorem dX4_addYears_13 : decode cX4_addYears 13 = .ok (.iadd, 1) := by decide +kernel
theorem dX4_addYears_14 : decode cX4_addYears 14 = .ok (.iload_n 2, 1) := by decide +kernel
theorem dX4_addYears_15 : decode cX4_addYears 15 = .ok (.iconst 0, 1) := by decide +kernel
theorem dX4_addYears_16 : decode cX4_addYears 16 = .ok (.invokevirtual 73, 3) := by decide +kernel
theorem dX4_addYears_19 : decode cX4_addYears 19 = .ok (.iinc 3 1, 3) := by decide +kernel
theorem dX4_addYears_22 : decode cX4_addYears 22 = .ok (.goto (-20), 3) := by decide +kernel
theorem dX4_addYears_25 : decode cX4_addYears 25 = .ok (.aload_n 0, 1) := by decide +kernel
theorem dX4_addYears_26 : decode cX4_addYears 26 = .ok (.dup, 1) := by decide +kernel
theorem dX4_addYears_27 : decode cX4_addYears 27 = .ok (.getfield 28, 3) := by decide +kernel
theorem dX4_addYears_30 : decode cX4_addYears 30 = .ok (.iload_n 1, 1) := by decide +kernel
theorem dX4_addYears_31 : decode cX4_addYears 31 = .ok (.iadd, 1) := by decide +kernel
theorem dX4_addYears_32 : decode cX4_addYears 32 = .ok (.putfield 28, 3) := by decide +kernel
theorem dX4_addYears_35 : decode cX4_addYears 35 = .ok (.return_, 1) := by decide +kernel
theorem dX4_partOf_0 : decode cX4_partOf 0 = .ok (.iload_n 1, 1) := by decide +kernel
theorem dX4_partOf_1 : decode cX4_partOf 1 = .ok (.aload_n 0, 1) := by decide +kernel
theorem dX4_partOf_2 : decode cX4_partOf 2 = .ok (.invokevirtual 77, 3) := by decide +kernel
theorem dX4_partOf_5 : decode cX4_partOf 5 = .ok (.iload_n 2, 1) := by decide +kernel
theorem dX4_partOf_6 : decode cX4_partOf 6 = .ok (.isub, 1) := by decide +kernel
theorem dX4_partOf_7 : decode cX4_partOf 7 = .ok (.iconst 1, 1) := by decide +kernel
theorem dX4_partOf_8 : decode cX4_partOf 8 = .ok (.iadd, 1) := by decide +kernel
theorem dX4_partOf_9 : decode cX4_partOf 9 = .ok (.iload_n 3, 1) := by decide +kernel
theorem dX4_partOf_10 : decode cX4_partOf 10 = .ok (.invokestatic 81, 3) := by decide +kernel
theorem dX4_partOf_13 : decode cX4_partOf 13 = .ok (.ireturn, 1) := by decide +kernel
theorem dX4_partOfMany_0 : decode cX4_partOfMany 0 = .ok (.iconst 5, 1) := by decide +kernel
theorem dX4_partOfMany_1 : decode cX4_partOfMany 1 = .ok (.iload_n 1, 1) := by decide +kernel
theorem dX4_partOfMany_2 : decode cX4_partOfMany 2 = .ok (.invokestatic 85, 3) := by decide +kernel
theorem dX4_partOfMany_5 : decode cX4_partOfMany 5 = .ok (.istore_n 3, 1) := by decide +kernel
theorem dX4_partOfMany_6 : decode cX4_partOfMany 6 = .ok (.iload_n 3, 1) := by decide +kernel
theorem dX4_partOfMany_7 : decode cX4_partOfMany 7 = .ok (.iconst 1, 1) := by decide +kernel
theorem dX4_partOfMany_8 : decode cX4_partOfMany 8 = .ok (.if_icmp .lt 8, 3) := by decide +kernel
theorem dX4_partOfMany_11 : decode cX4_partOfMany 11 = .ok (.iload_n 2, 1) := by decide +kernel
theorem dX4_partOfMany_12 : decode cX4_partOfMany 12 = .ok (.iload_n 3, 1) := by decide +kernel
theorem dX4_partOfMany_13 : decode cX4_partOfMany 13 = .ok (.if_icmp .lt 5, 3) := by decide +kernel
theorem dX4_partOfMany_16 : decode cX4_partOfMany 16 = .ok (.iconst 0, 1) := by decide +kernel
theorem dX4_partOfMany_17 : decode cX4_partOfMany 17 = .ok (.ireturn, 1) := by decide +kernel
theorem dX4_partOfMany_18 : decode cX4_partOfMany 18 = .ok (.iload_n 2, 1) := by decide +kernel
theorem dX4_partOfMany_19 : decode cX4_partOfMany 19 = .ok (.ifCond .ne 13, 3) := by decide +kernel
theorem dX4_partOfMany_22 : decode cX4_partOfMany 22 = .ok (.iload_n 0, 1) := by decide +kernel
theorem dX4_partOfMany_23 : decode cX4_partOfMany 23 = .ok (.iload_n 3, 1) := by decide +kernel
theorem dX4_partOfMany_24 : decode cX4_partOfMany 24 = .ok (.idiv, 1) := by decide +kernel
theorem dX4_partOfMany_25 : decode cX4_partOfMany 25 = .ok (.iload_n 0, 1) := by decide +kernel
theorem dX4_partOfMany_26 : decode cX4_partOfMany 26 = .ok (.iload_n 3, 1) := by decide +kernel
theorem dX4_partOfMany_27 : decode cX4_partOfMany 27 = .ok (.irem, 1) := by decide +kernel
theorem dX4_partOfMany_28 : decode cX4_partOfMany 28 = .ok (.iadd, 1) := by decide +kernel
theorem dX4_partOfMany_29 : decode cX4_partOfMany 29 = .ok (.goto 6, 3) := by decide +kernel
theorem dX4_partOfMany_32 : decode cX4_partOfMany 32 = .ok (.iload_n 0, 1) := by decide +kernel
theorem dX4_partOfMany_33 : decode cX4_partOfMany 33 = .ok (.iload_n 3, 1) := by decide +kernel
theorem dX4_partOfMany_34 : decode cX4_partOfMany 34 = .ok (.idiv, 1) := by decide +kernel
theorem dX4_partOfMany_35 : decode cX4_partOfMany 35 = .ok (.ireturn, 1) := by decide +kernel
theorem dX4_spread_0 : decode cX4_spread 0 = .ok (.iload_n 1, 1) := by decide +kernel
theorem dX4_spread_1 : decode cX4_spread 1 = .ok (.aload_n 0, 1) := by decide +kernel
theorem dX4_spread_2 : decode cX4_spread 2 = .ok (.getfield 24, 3) := by decide +kernel
theorem dX4_spread_5 : decode cX4_spread 5 = .ok (.isub, 1) := by decide +kernel
theorem dX4_spread_6 : decode cX4_spread 6 = .ok (.istore_n 3, 1) := by decide +kernel
theorem dX4_spread_7 : decode cX4_spread 7 = .ok (.iload_n 3, 1) := by decide +kernel
theorem dX4_spread_8 : decode cX4_spread 8 = .ok (.ifCond .lt 9, 3) := by decide +kernel
theorem dX4_spread_11 : decode cX4_spread 11 = .ok (.iload_n 3, 1) := by decide +kernel
theorem dX4_spread_12 : decode cX4_spread 12 = .ok (.bipush 10, 2) := by decide +kernel
theorem dX4_spread_14 : decode cX4_spread 14 = .ok (.if_icmp .lt 4, 3) := by decide +kernel
theorem dX4_spread_17 : decode cX4_spread 17 = .ok (.return_, 1) := by decide +kernel
theorem dX4_spread_18 : decode cX4_spread 18 = .ok (.aload_n 0, 1) := by decide +kernel
theorem dX4_spread_19 : decode cX4_spread 19 = .ok (.getfield 21, 3) := by decide +kernel
theorem dX4_spread_22 : decode cX4_spread 22 = .ok (.iload_n 3, 1) := by decide +kernel
theorem dX4_spread_23 : decode cX4_spread 23 = .ok (.dup2, 1) := by decide +kernel
theorem dX4_spread_24 : decode cX4_spread 24 = .ok (.iaload, 1) := by decide +kernel
theorem dX4_spread_25 : decode cX4_spread 25 = .ok (.iload_n 2, 1) := by decide +kernel
theorem dX4_spread_26 : decode cX4_spread 26 = .ok (.iadd, 1) := by decide +kernel
theorem dX4_spread_27 : decode cX4_spread 27 = .ok (.iastore, 1) := by decide +kernel
theorem dX4_spread_28 : decode cX4_spread 28 = .ok (.iconst 0, 1) := by decide +kernel
theorem dX4_spread_29 : decode cX4_spread 29 = .ok (.istore 4, 2) := by decide +kernel
theorem dX4_spread_31 : decode cX4_spread 31 = .ok (.iload 4, 2) := by decide +kernel
theorem dX4_spread_33 : decode cX4_spread 33 = .ok (.iconst 5, 1) := by decide +kernel
theorem dX4_spread_34 : decode cX4_spread 34 = .ok (.if_icmp .ge 38, 3) := by decide +kernel
theorem dX4_spread_37 : decode cX4_spread 37 = .ok (.iload_n 3, 1) := by decide +kernel
theorem dX4_spread_38 : decode cX4_spread 38 = .ok (.iload 4, 2) := by decide +kernel
theorem dX4_spread_40 : decode cX4_spread 40 = .ok (.iadd, 1) := by decide +kernel
theorem dX4_spread_41 : decode cX4_spread 41 = .ok (.bipush 10, 2) := by decide +kernel
theorem dX4_spread_43 : decode cX4_spread 43 = .ok (.if_icmp .ge 29, 3) := by decide +kernel
theorem dX4_spread_46 : decode cX4_spread 46 = .ok (.aload_n 0, 1) := by decide +kernel
theorem dX4_spread_47 : decode cX4_spread 47 = .ok (.getfield 18, 3) := by decide +kernel
theorem dX4_spread_50 : decode cX4_spread 50 = .ok (.iload_n 3, 1) := by decide +kernel
theorem dX4_spread_51 : decode cX4_spread 51 = .ok (.iload 4, 2) := by decide +kernel
theorem dX4_spread_53 : decode cX4_spread 53 = .ok (.iadd, 1) := by decide +kernel
theorem dX4_spread_54 : decode cX4_spread 54 = .ok (.dup2, 1) := by decide +kernel
theorem dX4_spread_55 : decode cX4_spread 55 = .ok (.iaload, 1) := by decide +kernel
theorem dX4_spread_56 : decode cX4_spread 56 = .ok (.aload_n 0, 1) := by decide +kernel
theorem dX4_spread_57 : decode cX4_spread 57 = .ok (.iload_n 2, 1) := by decide +kernel
theorem dX4_spread_58 : decode cX4_spread 58 = .ok (.iload_n 1, 1) := by decide +kernel
theorem dX4_spread_59 : decode cX4_spread 59 = .ok (.iload 4, 2) := by decide +kernel
theorem dX4_spread_61 : decode cX4_spread 61 = .ok (.invokevirtual 88, 3) := by decide +kernel
theorem dX4_spread_64 : decode cX4_spread 64 = .ok (.iadd, 1) := by decide +kernel
theorem dX4_spread_65 : decode cX4_spread 65 = .ok (.iastore, 1) := by decide +kernel
theorem dX4_spread_66 : decode cX4_spread 66 = .ok (.iinc 4 1, 3) := by decide +kernel
theorem dX4_spread_69 : decode cX4_spread 69 = .ok (.goto (-38), 3) := by decide +kernel
theorem dX4_spread_72 : decode cX4_spread 72 = .ok (.return_, 1) := by decide +kernel
